abbrev wr_X10_readPerson__1 : List (Nat × Nat) := [(10, 5), (10, 6), (10, 7), (10, 8), (10, 9), (10, 10), (10, 11), (10, 12), (10, 13)]
abbrev wa_X10_readPerson__1 : List Nat := [35, 42]
set_option maxHeartbeats 4000000 in
set_option maxRecDepth 100000 in
theorem c_X10_readPerson__1 (l : Launch) (D : va_G) (cy : Nat → ClassId) (z : Nat → Nat) (sz : Nat) (Ps : PSI) (w0 : va_W) (hT : HT cy GG Ps w0) (p0 : Nat) (gh : Int) (s0 : OS) (h_p0 : (p0, 55) ∈ Ps) (x_TO_p0_gh : TOP w0 p0 (gh)) (x_RH_p0 : AX 15 35 (fun f => RH2p f) Ps w0 p0) (o_p0 : OV vw_MODEL Ps w0 p0 s0) : Met l yX10_readPerson (Cond.code yX10_readPerson cX10_readPerson 2 (some .boolean) :: gT) ({ frames := 7, cells := 0, slots := 0, locals := 1400 } : Room) (va_Pc [.ref p0] (PRE D cy z w0 sz)) (va_Qi (fun (r : Int32) (u : va_W) => ((OV vw_MODEL Ps u p0 ((f_X10_readPerson__1 s0).1) ∧ (f_X10_readPerson__1 s0).2 = r ∧ True) ∧ (RI r 0 1 ∧ (r = 0 → True) ∧ (¬ r = 0 → (∃ v9 : Int32, FLD u p0 10 13 (.int v9) ∧ RI v9 1 9) ∧ TKP u p0 (gh) ∧ AX 15 35 (fun f => RH2p f) Ps u p0 ∧ True))) ∧ HT cy GG Ps u ∧ FR wr_X10_readPerson__1 wa_X10_readPerson__1 Ps w0 u) (BB D cy (va_A w0 sz) (fun (u : va_W) => u)) (va_A w0 sz)) 0 0 (va_A w0 sz) := by
  refine Met.ofW (cc := cX10_readPerson) (maxL := 2) (ret := (some .boolean)) (by decide) rfl ?_
  intro p e s m args below meth c s₁ B hml hv
  obtain ⟨rfl, hsz, hP, hK, hD0, hSD⟩ := hv
  have hx := B.exec
  have hb := B.bytes
  have hr := B.returns
  have hlocks := B.notSynchronized
  have hts : ∀ w ∈ gT, w.before _ s = true := fun w h => atoms_spec (ws := Cond.code yX10_readPerson cX10_readPerson 2 (some .boolean) :: gT) B.pre w (List.mem_cons_of_mem _ h)
  have hown : s.vm.findClass RX10 = some m.cls := findClass_of_methodNamed B.named
  subst hsz
  have hD := hD0.self (sz := s.heap.size)
  generalize hAe : va_A w0 s.heap.size = A at hD hSD ⊢
  have hA : ∀ q : Nat, s.heap.size ≤ q → A q := fun q h => by rw [← hAe]; exact Or.inr h
  have hl := lv_entry ([.ref p0]) (n := 2) (Nat.le_of_ble_eq_true rfl)
  rw [lg_entry_eq]
  generalize (lg_sl ([.ref p0]) ++ List.replicate (2 - (lg_sl ([.ref p0])).length) Slot.unset).toArray = ls at hl ⊢
  have hl : lv_has ls 2 [(0, .ref p0)] := hl
  refine nameQ (fun Q hQ => ?_)
  have hw : WD D cy GG A s wr_X10_readPerson__1 wa_X10_readPerson__1 Ps w0 Ps w0 s.heap [] := ⟨hT, hP, hD, va_S.rf, FR.rf, hT.1, [], (List.append_nil _).symm⟩
  obtain ⟨R9, hR⟩ : ∃ q9 : OS × Int32, f_X10_readPerson__1 s0 = q9 := ⟨_, rfl⟩
  have hE := hR
  refine lv_aload_n hx hb dX10_readPerson_0 rfl (lv_at hl 0 rfl) ?_
  refine lv_iconst (v := 3) hx hb dX10_readPerson_1 (by decide) ?_
  refine lv_bipush (v := 8) hx hb dX10_readPerson_2 (by decide) ?_
  refine tk_i (va_runV (As := [.int 3, .int 8]) (rest := []) ⟨hx, hb, hml, hown, hts⟩ (c_X10_readFirst__4 l D cy z s.heap.size Ps w0 hw.1 p0 3 8 (gh) s0 h_p0 rl_3 rl_8 x_TO_p0_gh o_p0) (cwV 2 hts (gV tw_1332 tw_1334 ts_45 tw_15 tw_1335) rfl rfl rfl (by decide +kernel) ⟨Nat.le_of_ble_eq_true rfl, Nat.le_of_ble_eq_true rfl⟩) (tg_preV hw hK hSD hA (ci := 10) (q := (RX10, TX10, 49)) rfl h_p0 rfl) rfl rfl hl.1 rfl (lv_room (Nat.le_of_ble_eq_true rfl)) dX10_readPerson_4 ⟨Nat.le_of_ble_eq_true rfl, Nat.le_of_ble_eq_true rfl⟩) hw hA ⟨by decide, by decide⟩ (fun v_1 ws H locs hp_v_1 hw hF9 => ?_)
  have x_RH_p0 := AX.over hF9 x_RH_p0 (by decide)
  obtain ⟨hfn, hp_v_1⟩ := hp_v_1
  obtain ⟨sg_2, q_sg_2⟩ : ∃ q9 : OS, (f_X10_readFirst__4 (3 : Int32) (8 : Int32) s0).1 = q9 := ⟨_, rfl⟩
  have o_p0 : OV vw_MODEL Ps ws p0 sg_2 := by rw [← q_sg_2]; exact hfn.1
  have q_v_1 : (f_X10_readFirst__4 (3 : Int32) (8 : Int32) s0).2 = v_1 := hfn.2.1
  have r_v_1 : RI v_1 0 1 := hp_v_1.1
  by_cases c9_v_1 : v_1 = 0
  · have r_v_1 : RI v_1 0 0 := by rw [c9_v_1]; exact rl_0
    refine lv_if_ne (tgt := 12) hx hb dX10_readPerson_7 (by decide) (fun c_7 => ?_) (fun c_7 => ?_)
    · exact absurd (r_v_1.eq.trans rl_0.eq.symm) ((ti_ne c_7))
    · refine lv_iconst (v := 0) hx hb dX10_readPerson_10 (by decide) ?_
      simp only [f_X10_readPerson__1, ↓reduceIte, q_sg_2, q_v_1, eq_true c9_v_1, eq_true c_7] at hE
      subst hQ
      exact W.zret (v := 0) hx hb hr (rfl) (fun t ht hW => ⟨⟨0, ws, rfl, ⟨⟨⟨(by rw [hR, ← hE]; exact o_p0), (by rw [hR, ← hE]), trivial⟩, rl_0.to (by decide), (fun h0 => trivial), (fun h0 => absurd rfl h0)⟩, hw.1, hw.2.2.2.2.1⟩, by rw [ht]; exact hw.2.1, va_K.moved hW.alike hK, hw.2.2.1⟩, hw.2.2.2.1.F ht⟩) hw.2.2.2.1.2.2 dX10_readPerson_11
  · have r_v_1 : RI v_1 1 1 := rc_neL r_v_1 rl_0 (ti_ne c9_v_1) (by decide)
    have x_TOK_p0_gh := ((hp_v_1.2.2 c9_v_1).1)
    have x_RLT_p0_3_8 := ((hp_v_1.2.2 c9_v_1).2.1)
    refine lv_if_ne (tgt := 12) hx hb dX10_readPerson_7 (by decide) (fun c_7 => ?_) (fun c_7 => ?_)
    · refine lv_aload_n hx hb dX10_readPerson_12 rfl (lv_at hl 0 rfl) ?_
      refine tg_get (ci := 10) (ts := ty_MODEL) (C := RX10) (T := TX10) (N := 49) hx hb hts inX10 hown hK hw h_p0 rfl rfl 15 (by decide) (hts _ tw_1152) (fun _ h9 => h9) (ft := vR 35) rfl dX10_readPerson_13 (fun u_3 hv_u_3 m_u_3 => ?_)
      obtain ⟨vu_3, rfl, h_vu_3⟩ := hv_u_3
      refine lv_iconst (v := 3) hx hb dX10_readPerson_16 (by decide) ?_
      refine tg_iald (lo := 0) (hi := 8) hx hb hK hw h_vu_3 rfl 3 3 rl_3 (by decide) (by decide +kernel) dX10_readPerson_17 (fun v_4 r_v_4 m_v_4 o_v_4 => ?_)
      have q_v_4 : sg_2.2.2.1 15 (Int32.toNatClampNeg (3 : Int32)) = v_4 := OV.eqA (V := vw_MODEL) (t := 35) hw.2.2.1 o_p0 m_u_3 m_v_4 (by decide)
      have r_v_4 : RI v_4 0 7 := by obtain ⟨f9, h9, q9, g9⟩ := AX.use hw x_RLT_p0_3_8 h_vu_3 rfl m_u_3; have e9 := g9 _ _ m_v_4; have j9 : Int32.toNatClampNeg 3 = 3 := (by decide); rw [j9] at e9; have h8 : (f9 3).toInt < 8 := h9; rw [e9] at h8; exact ⟨r_v_4.1, by omega⟩
      refine lv_istore_n (lv' := [(1, .int v_4), (0, .ref p0)]) hx hb dX10_readPerson_18 rfl hl (by decide) rfl (fun ls hl => ?_)
      refine lv_aload_n hx hb dX10_readPerson_19 rfl (lv_at hl 1 rfl) ?_
      refine lv_bipush (v := 16) hx hb dX10_readPerson_20 (by decide) ?_
      refine lv_iload_n hx hb dX10_readPerson_22 rfl (lv_at hl 0 rfl) ?_
      refine lv_iadd hx hb dX10_readPerson_23 (lv_topi (fun v_5 e_v_5 => ?_))
      obtain ⟨t_v_5, r_v_5⟩ := tq_add (lo := 16) (hi := 23) rl_16 r_v_4 (by decide +kernel) e_v_5
      have t_v_5 : v_5.toInt = 16 + v_4.toInt := t_v_5
      have q_v_5 : (16 : Int32) + v_4 = v_5 := e_v_5.symm
      have x_TO_p0_gh : TOP ws p0 (gh) := TKP.top x_TOK_p0_gh
      have hw8 := hw
      refine tk_i (va_runV (As := [.int v_5]) (rest := []) ⟨hx, hb, hml, hown, hts⟩ (c_X10_readNew__4 l D cy z H.size Ps ws hw.1 p0 v_5 (gh) sg_2 h_p0 r_v_5 x_TO_p0_gh o_p0) (cwV 1 hts (gV tw_1340 tw_1342 ts_47 tw_15 tw_1343) rfl rfl rfl (by decide +kernel) ⟨Nat.le_of_ble_eq_true rfl, Nat.le_of_ble_eq_true rfl⟩) (tg_preV hw hK hSD hA (ci := 10) (q := (RX10, TX10, 49)) rfl h_p0 rfl) rfl rfl hl.1 rfl (lv_room (Nat.le_of_ble_eq_true rfl)) dX10_readPerson_24 ⟨Nat.le_of_ble_eq_true rfl, Nat.le_of_ble_eq_true rfl⟩) hw hA ⟨by decide, by decide⟩ (fun v_6 ws H locs hp_v_6 hw hF9 => ?_)
      have m_v_4 := AEL.over hw8 hF9 h_vu_3 m_v_4 (by decide)
      have m_u_3 := FLD.over hF9 m_u_3 (by decide)
      have x_RH_p0 := AX.over hF9 x_RH_p0 (by decide)
      have x_RLT_p0_3_8 := AX.over hF9 x_RLT_p0_3_8 (by decide)
      obtain ⟨hfn, hp_v_6⟩ := hp_v_6
      obtain ⟨sg_7, q_sg_7⟩ : ∃ q9 : OS, (f_X10_readNew__4 v_5 sg_2).1 = q9 := ⟨_, rfl⟩
      have o_p0 : OV vw_MODEL Ps ws p0 sg_7 := by rw [← q_sg_7]; exact hfn.1
      have q_v_6 : (f_X10_readNew__4 v_5 sg_2).2 = v_6 := hfn.2.1
      have r_v_6 : RI v_6 0 1 := hp_v_6.1
      by_cases c9_v_6 : v_6 = 0
      · have r_v_6 : RI v_6 0 0 := by rw [c9_v_6]; exact rl_0
        refine lv_if_eq (tgt := 63) hx hb dX10_readPerson_27 (by decide) (fun c_27 => ?_) (fun c_27 => ?_)
        · refine lv_iconst (v := 0) hx hb dX10_readPerson_63 (by decide) ?_
          simp only [f_X10_readPerson__1, ↓reduceIte, q_sg_2, q_v_1, eq_false c9_v_1, eq_false c_7, q_v_4, q_v_5, q_sg_7, q_v_6, eq_true c9_v_6, eq_true c_27] at hE
          subst hQ
          exact W.zret (v := 0) hx hb hr (rfl) (fun t ht hW => ⟨⟨0, ws, rfl, ⟨⟨⟨(by rw [hR, ← hE]; exact o_p0), (by rw [hR, ← hE]), trivial⟩, rl_0.to (by decide), (fun h0 => trivial), (fun h0 => absurd rfl h0)⟩, hw.1, hw.2.2.2.2.1⟩, by rw [ht]; exact hw.2.1, va_K.moved hW.alike hK, hw.2.2.1⟩, hw.2.2.2.1.F ht⟩) hw.2.2.2.1.2.2 dX10_readPerson_64
        · exact absurd (r_v_6.eq.trans rl_0.eq.symm) ((ti_ne c_27))
      · have r_v_6 : RI v_6 1 1 := rc_neL r_v_6 rl_0 (ti_ne c9_v_6) (by decide)
        have x_TOK_p0_gh := ((hp_v_6.2.2 c9_v_6).1)
        refine lv_if_eq (tgt := 63) hx hb dX10_readPerson_27 (by decide) (fun c_27 => ?_) (fun c_27 => ?_)
        · have r_v_6 : RI v_6 1 0 := rc_eq1 r_v_6 rl_0 (ti_eq c_27) (by decide)
          exact (r_v_6.no (by decide)).elim
        · refine lv_aload_n hx hb dX10_readPerson_30 rfl (lv_at hl 1 rfl) ?_
          refine lv_bipush (v := 24) hx hb dX10_readPerson_31 (by decide) ?_
          refine lv_iload_n hx hb dX10_readPerson_33 rfl (lv_at hl 0 rfl) ?_
          refine lv_iadd hx hb dX10_readPerson_34 (lv_topi (fun v_8 e_v_8 => ?_))
          obtain ⟨t_v_8, r_v_8⟩ := tq_add (lo := 24) (hi := 31) rl_24 r_v_4 (by decide +kernel) e_v_8
          have t_v_8 : v_8.toInt = 24 + v_4.toInt := t_v_8
          have q_v_8 : (24 : Int32) + v_4 = v_8 := e_v_8.symm
          refine lv_aload_n hx hb dX10_readPerson_35 rfl (lv_at hl 1 rfl) ?_
          have x_TO_p0_gh : TOP ws p0 (gh) := TKP.top x_TOK_p0_gh
          have hw8 := hw
          refine tk_i (va_runV (As := []) (rest := [.int v_8, .ref p0]) ⟨hx, hb, hml, hown, hts⟩ (c_X10_readIdea__1 l D cy z H.size Ps ws hw.1 p0 (gh) sg_7 h_p0 x_TO_p0_gh o_p0) (cwV 0 hts (gV tw_1386 tw_1388 ts_57 tw_15 tw_1389) rfl rfl rfl (by decide +kernel) ⟨Nat.le_of_ble_eq_true rfl, Nat.le_of_ble_eq_true rfl⟩) (tg_preV hw hK hSD hA (ci := 10) (q := (RX10, TX10, 49)) rfl h_p0 rfl) rfl rfl hl.1 rfl (lv_room (Nat.le_of_ble_eq_true rfl)) dX10_readPerson_36 ⟨Nat.le_of_ble_eq_true rfl, Nat.le_of_ble_eq_true rfl⟩) hw hA ⟨by decide, by decide⟩ (fun v_9 ws H locs hp_v_9 hw hF9 => ?_)
          have m_v_4 := AEL.over hw8 hF9 h_vu_3 m_v_4 (by decide)
          have m_u_3 := FLD.over hF9 m_u_3 (by decide)
          have x_RH_p0 := AX.over hF9 x_RH_p0 (by decide)
          have x_RLT_p0_3_8 := AX.over hF9 x_RLT_p0_3_8 (by decide)
          obtain ⟨hfn, hp_v_9⟩ := hp_v_9
          obtain ⟨sg_10, q_sg_10⟩ : ∃ q9 : OS, (f_X10_readIdea__1 sg_7).1 = q9 := ⟨_, rfl⟩
          have o_p0 : OV vw_MODEL Ps ws p0 sg_10 := by rw [← q_sg_10]; exact hfn.1
          have q_v_9 : (f_X10_readIdea__1 sg_7).2 = v_9 := hfn.2.1
          have r_v_9 : RI v_9 0 1 := hp_v_9.1
          by_cases c9_v_9 : v_9 = 0
          · have r_v_9 : RI v_9 0 0 := by rw [c9_v_9]; exact rl_0
            refine tk_ir (va_runV (As := [.int v_8, .int v_9]) (rest := []) ⟨hx, hb, hml, hown, hts⟩ (c_X10_put__24 l D cy z H.size Ps ws hw.1 p0 v_8 v_9 (fun f => RH2p f ∧ (f (Int32.toNatClampNeg 3)).toInt < Int32.toInt 8 ∧ True) (fun f => RH2p f ∧ (f (Int32.toNatClampNeg 3)).toInt < Int32.toInt 8 ∧ True) sg_10 h_p0 r_v_8 r_v_9 (AX.and hw x_RH_p0 (AX.and hw x_RLT_p0_3_8 (rx_true hw h_p0))) (fun f9 v9 hv9 H9 => ⟨(have h9 := H9.1; RH_keep h9 (by have k4 := r_v_8.cl (by decide); have k5 := r_v_8; unfold RI at k5; omega)), (have h9 := H9.2.1; by show _ < _; rw [pk_un (by have k4 := r_v_8.cl (by decide); have k5 := r_v_8; unfold RI at k5; have k6 : Int32.toNatClampNeg 3 = 3 := (by decide); omega)]; exact h9), trivial⟩) o_p0) (cwV 2 hts (gV tw_1362 tw_1364 ts_51 tw_15 tw_1365) rfl rfl rfl (by decide +kernel) ⟨Nat.le_of_ble_eq_true rfl, Nat.le_of_ble_eq_true rfl⟩) (tg_preV hw hK hSD hA (ci := 10) (q := (RX10, TX10, 49)) rfl h_p0 rfl) rfl rfl hl.1 rfl (lv_room (Nat.le_of_ble_eq_true rfl)) dX10_readPerson_39 ⟨Nat.le_of_ble_eq_true rfl, Nat.le_of_ble_eq_true rfl⟩) hw hA (fun v_11  H locs hp_v_11 hw => ?_)
            obtain ⟨hfn, hp_v_11⟩ := hp_v_11
            have q_v_11 : (f_X10_put__16 v_8 v_9 sg_10) = v_11 := hfn.1
            have r_v_11 : RI v_11 0 0 := hp_v_11.1
            by_cases c9_v_11 : v_11 = 0
            · have r_v_11 : RI v_11 0 0 := by rw [c9_v_11]; exact rl_0
              have x_RH_p0 : AX 15 35 (fun f => RH2p f) Ps ws p0 := AX.imp ((hp_v_11.2.1 c9_v_11).1) (fun _ h9 => h9.1)
              have x_RLT_p0_3_8 : AX 15 35 (fun f => (f (Int32.toNatClampNeg 3)).toInt < Int32.toInt 8) Ps ws p0 := AX.imp ((hp_v_11.2.1 c9_v_11).1) (fun _ h9 => h9.2.1)
              refine lv_if_eq (tgt := 63) hx hb dX10_readPerson_42 (by decide) (fun c_42 => ?_) (fun c_42 => ?_)
              · refine lv_iconst (v := 0) hx hb dX10_readPerson_63 (by decide) ?_
                simp only [f_X10_readPerson__1, ↓reduceIte, q_sg_2, q_v_1, eq_false c9_v_1, eq_false c_7, q_v_4, q_v_5, q_sg_7, q_v_6, eq_false c9_v_6, eq_false c_27, q_v_8, q_sg_10, q_v_9, eq_true c9_v_9, q_v_11, eq_true c9_v_11, eq_true c_42] at hE
                subst hQ
                exact W.zret (v := 0) hx hb hr (rfl) (fun t ht hW => ⟨⟨0, ws, rfl, ⟨⟨⟨(by rw [hR, ← hE]; exact o_p0), (by rw [hR, ← hE]), trivial⟩, rl_0.to (by decide), (fun h0 => trivial), (fun h0 => absurd rfl h0)⟩, hw.1, hw.2.2.2.2.1⟩, by rw [ht]; exact hw.2.1, va_K.moved hW.alike hK, hw.2.2.1⟩, hw.2.2.2.1.F ht⟩) hw.2.2.2.1.2.2 dX10_readPerson_64
              · exact absurd (r_v_11.eq.trans rl_0.eq.symm) ((ti_ne c_42))
            · exact absurd (Int32.toInt_inj.mp (by rw [Int32.toInt_zero]; unfold RI at r_v_11; omega)) c9_v_11
          · have r_v_9 : RI v_9 1 1 := rc_neL r_v_9 rl_0 (ti_ne c9_v_9) (by decide)
            obtain ⟨v_12, m_v_12, r_v_12⟩ := ((hp_v_9.2.2 c9_v_9).1)
            have x_TOK_p0_gh := ((hp_v_9.2.2 c9_v_9).2.1)
            have x_IP_p0 := ((hp_v_9.2.2 c9_v_9).2.2.1)
            have hw8 := hw
            refine tk_i (va_runV (As := [.int v_8, .int v_9]) (rest := []) ⟨hx, hb, hml, hown, hts⟩ (c_X10_put__25 l D cy z H.size Ps ws hw.1 p0 v_8 v_9 v_12 (fun f => RH2p f ∧ (f (Int32.toNatClampNeg 3)).toInt < Int32.toInt 8 ∧ 0 < (f 0).toInt ∧ True) (fun f => RH2p f ∧ (f (Int32.toNatClampNeg 3)).toInt < Int32.toInt 8 ∧ 0 < (f 0).toInt ∧ True) sg_10 h_p0 r_v_8 r_v_9 r_v_12 m_v_12 (AX.and hw x_RH_p0 (AX.and hw x_RLT_p0_3_8 (AX.and hw x_IP_p0 (rx_true hw h_p0)))) (fun f9 v9 hv9 H9 => ⟨(have h9 := H9.1; RH_keep h9 (by have k4 := r_v_8.cl (by decide); have k5 := r_v_8; unfold RI at k5; omega)), (have h9 := H9.2.1; by show _ < _; rw [pk_un (by have k4 := r_v_8.cl (by decide); have k5 := r_v_8; unfold RI at k5; have k6 : Int32.toNatClampNeg 3 = 3 := (by decide); omega)]; exact h9), (have h9 := H9.2.2.1; by show _ < _; rw [pk_un (by have k4 := r_v_8.cl (by decide); have k5 := r_v_8; unfold RI at k5; omega)]; exact h9), trivial⟩) o_p0) (cwV 2 hts (gV tw_1362 tw_1364 ts_51 tw_15 tw_1365) rfl rfl rfl (by decide +kernel) ⟨Nat.le_of_ble_eq_true rfl, Nat.le_of_ble_eq_true rfl⟩) (tg_preV hw hK hSD hA (ci := 10) (q := (RX10, TX10, 49)) rfl h_p0 rfl) rfl rfl hl.1 rfl (lv_room (Nat.le_of_ble_eq_true rfl)) dX10_readPerson_39 ⟨Nat.le_of_ble_eq_true rfl, Nat.le_of_ble_eq_true rfl⟩) hw hA ⟨by decide, by decide⟩ (fun v_13 ws H locs hp_v_13 hw hF9 => ?_)
            have m_u_3 := FLD.over hF9 m_u_3 (by decide)
            have m_v_12 := FLD.over hF9 m_v_12 (by decide)
            have x_TOK_p0_gh := TKP.over hF9 x_TOK_p0_gh (by decide)
            obtain ⟨hfn, hp_v_13⟩ := hp_v_13
            obtain ⟨sg_14, q_sg_14⟩ : ∃ q9 : OS, (f_X10_put__17 v_8 v_9 sg_10).1 = q9 := ⟨_, rfl⟩
            have o_p0 : OV vw_MODEL Ps ws p0 sg_14 := by rw [← q_sg_14]; exact hfn.1
            have q_v_13 : (f_X10_put__17 v_8 v_9 sg_10).2 = v_13 := hfn.2.1
            have r_v_13 : RI v_13 1 1 := hp_v_13.1
            by_cases c9_v_13 : v_13 = 0
            · exact absurd (ti_eq c9_v_13) (by unfold RI at r_v_13; rw [Int32.toInt_zero]; omega)
            · obtain ⟨v_15, m_v_15, r_v_15⟩ := ((hp_v_13.2.2 c9_v_13).1)
              have x_RH_p0 : AX 15 35 (fun f => RH2p f) Ps ws p0 := AX.imp ((hp_v_13.2.2 c9_v_13).2.1) (fun _ h9 => h9.1)
              have x_RLT_p0_3_8 : AX 15 35 (fun f => (f (Int32.toNatClampNeg 3)).toInt < Int32.toInt 8) Ps ws p0 := AX.imp ((hp_v_13.2.2 c9_v_13).2.1) (fun _ h9 => h9.2.1)
              have x_IP_p0 : AX 15 35 (fun f => 0 < (f 0).toInt) Ps ws p0 := AX.imp ((hp_v_13.2.2 c9_v_13).2.1) (fun _ h9 => h9.2.2.1)
              refine lv_if_eq (tgt := 63) hx hb dX10_readPerson_42 (by decide) (fun c_42 => ?_) (fun c_42 => ?_)
              · have r_v_13 : RI v_13 1 0 := rc_eq1 r_v_13 rl_0 (ti_eq c_42) (by decide)
                exact (r_v_13.no (by decide)).elim
              · refine lv_aload_n hx hb dX10_readPerson_45 rfl (lv_at hl 1 rfl) ?_
                refine lv_bipush (v := 32) hx hb dX10_readPerson_46 (by decide) ?_
                refine lv_iload_n hx hb dX10_readPerson_48 rfl (lv_at hl 0 rfl) ?_
                refine lv_iadd hx hb dX10_readPerson_49 (lv_topi (fun v_16 e_v_16 => ?_))
                obtain ⟨t_v_16, r_v_16⟩ := tq_add (lo := 32) (hi := 39) rl_32 r_v_4 (by decide +kernel) e_v_16
                have t_v_16 : v_16.toInt = 32 + v_4.toInt := t_v_16
                have q_v_16 : (32 : Int32) + v_4 = v_16 := e_v_16.symm
                refine lv_aload_n hx hb dX10_readPerson_50 rfl (lv_at hl 1 rfl) ?_
                refine lv_iconst (v := 1) hx hb dX10_readPerson_51 (by decide) ?_
                refine lv_bipush (v := 9) hx hb dX10_readPerson_52 (by decide) ?_
                have x_TO_p0_gh : TOP ws p0 (gh) := TKP.top x_TOK_p0_gh
                refine tk_i (va_runV (As := [.int 1, .int 9]) (rest := [.int v_16, .ref p0]) ⟨hx, hb, hml, hown, hts⟩ (c_X10_readNumber__10 l D cy z H.size Ps ws hw.1 p0 1 9 (gh) sg_14 h_p0 rl_1 rl_9 x_TO_p0_gh o_p0) (cwV 2 hts (gV tw_1355 tw_1357 ts_50 tw_15 tw_1358) rfl rfl rfl (by decide +kernel) ⟨Nat.le_of_ble_eq_true rfl, Nat.le_of_ble_eq_true rfl⟩) (tg_preV hw hK hSD hA (ci := 10) (q := (RX10, TX10, 49)) rfl h_p0 rfl) rfl rfl hl.1 rfl (lv_room (Nat.le_of_ble_eq_true rfl)) dX10_readPerson_54 ⟨Nat.le_of_ble_eq_true rfl, Nat.le_of_ble_eq_true rfl⟩) hw hA ⟨by decide, by decide⟩ (fun v_17 ws H locs hp_v_17 hw hF9 => ?_)
                have m_u_3 := FLD.over hF9 m_u_3 (by decide)
                have x_RH_p0 := AX.over hF9 x_RH_p0 (by decide)
                have x_RLT_p0_3_8 := AX.over hF9 x_RLT_p0_3_8 (by decide)
                have x_IP_p0 := AX.over hF9 x_IP_p0 (by decide)
                obtain ⟨hfn, hp_v_17⟩ := hp_v_17
                obtain ⟨sg_18, q_sg_18⟩ : ∃ q9 : OS, (f_X10_readNumber__7 (1 : Int32) (9 : Int32) sg_14).1 = q9 := ⟨_, rfl⟩
                have o_p0 : OV vw_MODEL Ps ws p0 sg_18 := by rw [← q_sg_18]; exact hfn.1
                have q_v_17 : (f_X10_readNumber__7 (1 : Int32) (9 : Int32) sg_14).2 = v_17 := hfn.2.1
                have r_v_17 : RI v_17 0 1 := hp_v_17.1
                by_cases c9_v_17 : v_17 = 0
                · have r_v_17 : RI v_17 0 0 := by rw [c9_v_17]; exact rl_0
                  refine tk_ir (va_runV (As := [.int v_16, .int v_17]) (rest := []) ⟨hx, hb, hml, hown, hts⟩ (c_X10_put__26 l D cy z H.size Ps ws hw.1 p0 v_16 v_17 (fun f => RH2p f ∧ (f (Int32.toNatClampNeg 3)).toInt < Int32.toInt 8 ∧ 0 < (f 0).toInt ∧ True) (fun f => RH2p f ∧ (f (Int32.toNatClampNeg 3)).toInt < Int32.toInt 8 ∧ 0 < (f 0).toInt ∧ True) sg_18 h_p0 r_v_16 r_v_17 (AX.and hw x_RH_p0 (AX.and hw x_RLT_p0_3_8 (AX.and hw x_IP_p0 (rx_true hw h_p0)))) (fun f9 v9 hv9 H9 => ⟨(have h9 := H9.1; RH_keep h9 (by have k4 := r_v_16.cl (by decide); have k5 := r_v_16; unfold RI at k5; omega)), (have h9 := H9.2.1; by show _ < _; rw [pk_un (by have k4 := r_v_16.cl (by decide); have k5 := r_v_16; unfold RI at k5; have k6 : Int32.toNatClampNeg 3 = 3 := (by decide); omega)]; exact h9), (have h9 := H9.2.2.1; by show _ < _; rw [pk_un (by have k4 := r_v_16.cl (by decide); have k5 := r_v_16; unfold RI at k5; omega)]; exact h9), trivial⟩) o_p0) (cwV 2 hts (gV tw_1362 tw_1364 ts_51 tw_15 tw_1365) rfl rfl rfl (by decide +kernel) ⟨Nat.le_of_ble_eq_true rfl, Nat.le_of_ble_eq_true rfl⟩) (tg_preV hw hK hSD hA (ci := 10) (q := (RX10, TX10, 49)) rfl h_p0 rfl) rfl rfl hl.1 rfl (lv_room (Nat.le_of_ble_eq_true rfl)) dX10_readPerson_57 ⟨Nat.le_of_ble_eq_true rfl, Nat.le_of_ble_eq_true rfl⟩) hw hA (fun v_19  H locs hp_v_19 hw => ?_)
                  obtain ⟨hfn, hp_v_19⟩ := hp_v_19
                  have q_v_19 : (f_X10_put__16 v_16 v_17 sg_18) = v_19 := hfn.1
                  have r_v_19 : RI v_19 0 0 := hp_v_19.1
                  by_cases c9_v_19 : v_19 = 0
                  · have r_v_19 : RI v_19 0 0 := by rw [c9_v_19]; exact rl_0
                    have x_RH_p0 : AX 15 35 (fun f => RH2p f) Ps ws p0 := AX.imp ((hp_v_19.2.1 c9_v_19).1) (fun _ h9 => h9.1)
                    have x_RLT_p0_3_8 : AX 15 35 (fun f => (f (Int32.toNatClampNeg 3)).toInt < Int32.toInt 8) Ps ws p0 := AX.imp ((hp_v_19.2.1 c9_v_19).1) (fun _ h9 => h9.2.1)
                    have x_IP_p0 : AX 15 35 (fun f => 0 < (f 0).toInt) Ps ws p0 := AX.imp ((hp_v_19.2.1 c9_v_19).1) (fun _ h9 => h9.2.2.1)
                    refine lv_if_ne (tgt := 65) hx hb dX10_readPerson_60 (by decide) (fun c_60 => ?_) (fun c_60 => ?_)
                    · exact absurd (r_v_19.eq.trans rl_0.eq.symm) ((ti_ne c_60))
                    · refine lv_iconst (v := 0) hx hb dX10_readPerson_63 (by decide) ?_
                      simp only [f_X10_readPerson__1, ↓reduceIte, q_sg_2, q_v_1, eq_false c9_v_1, eq_false c_7, q_v_4, q_v_5, q_sg_7, q_v_6, eq_false c9_v_6, eq_false c_27, q_v_8, q_sg_10, q_v_9, eq_false c9_v_9, q_sg_14, q_v_13, eq_false c9_v_13, eq_false c_42, q_v_16, q_sg_18, q_v_17, eq_true c9_v_17, q_v_19, eq_true c9_v_19, eq_true c_60] at hE
                      subst hQ
                      exact W.zret (v := 0) hx hb hr (rfl) (fun t ht hW => ⟨⟨0, ws, rfl, ⟨⟨⟨(by rw [hR, ← hE]; exact o_p0), (by rw [hR, ← hE]), trivial⟩, rl_0.to (by decide), (fun h0 => trivial), (fun h0 => absurd rfl h0)⟩, hw.1, hw.2.2.2.2.1⟩, by rw [ht]; exact hw.2.1, va_K.moved hW.alike hK, hw.2.2.1⟩, hw.2.2.2.1.F ht⟩) hw.2.2.2.1.2.2 dX10_readPerson_64
                  · exact absurd (Int32.toInt_inj.mp (by rw [Int32.toInt_zero]; unfold RI at r_v_19; omega)) c9_v_19
                · have r_v_17 : RI v_17 1 1 := rc_neL r_v_17 rl_0 (ti_ne c9_v_17) (by decide)
                  obtain ⟨v_20, m_v_20, r_v_20⟩ := ((hp_v_17.2.2 c9_v_17).1)
                  have x_TOK_p0_gh := ((hp_v_17.2.2 c9_v_17).2.1)
                  refine tk_i (va_runV (As := [.int v_16, .int v_17]) (rest := []) ⟨hx, hb, hml, hown, hts⟩ (c_X10_put__27 l D cy z H.size Ps ws hw.1 p0 v_16 v_17 v_20 (fun f => RH2p f ∧ (f (Int32.toNatClampNeg 3)).toInt < Int32.toInt 8 ∧ 0 < (f 0).toInt ∧ True) (fun f => RH2p f ∧ (f (Int32.toNatClampNeg 3)).toInt < Int32.toInt 8 ∧ 0 < (f 0).toInt ∧ True) sg_18 h_p0 r_v_16 r_v_17 r_v_20 m_v_20 (AX.and hw x_RH_p0 (AX.and hw x_RLT_p0_3_8 (AX.and hw x_IP_p0 (rx_true hw h_p0)))) (fun f9 v9 hv9 H9 => ⟨(have h9 := H9.1; RH_keep h9 (by have k4 := r_v_16.cl (by decide); have k5 := r_v_16; unfold RI at k5; omega)), (have h9 := H9.2.1; by show _ < _; rw [pk_un (by have k4 := r_v_16.cl (by decide); have k5 := r_v_16; unfold RI at k5; have k6 : Int32.toNatClampNeg 3 = 3 := (by decide); omega)]; exact h9), (have h9 := H9.2.2.1; by show _ < _; rw [pk_un (by have k4 := r_v_16.cl (by decide); have k5 := r_v_16; unfold RI at k5; omega)]; exact h9), trivial⟩) o_p0) (cwV 2 hts (gV tw_1362 tw_1364 ts_51 tw_15 tw_1365) rfl rfl rfl (by decide +kernel) ⟨Nat.le_of_ble_eq_true rfl, Nat.le_of_ble_eq_true rfl⟩) (tg_preV hw hK hSD hA (ci := 10) (q := (RX10, TX10, 49)) rfl h_p0 rfl) rfl rfl hl.1 rfl (lv_room (Nat.le_of_ble_eq_true rfl)) dX10_readPerson_57 ⟨Nat.le_of_ble_eq_true rfl, Nat.le_of_ble_eq_true rfl⟩) hw hA ⟨by decide, by decide⟩ (fun v_21 ws H locs hp_v_21 hw hF9 => ?_)
                  have m_u_3 := FLD.over hF9 m_u_3 (by decide)
                  have m_v_20 := FLD.over hF9 m_v_20 (by decide)
                  have x_TOK_p0_gh := TKP.over hF9 x_TOK_p0_gh (by decide)
                  obtain ⟨hfn, hp_v_21⟩ := hp_v_21
                  obtain ⟨sg_22, q_sg_22⟩ : ∃ q9 : OS, (f_X10_put__17 v_16 v_17 sg_18).1 = q9 := ⟨_, rfl⟩
                  have o_p0 : OV vw_MODEL Ps ws p0 sg_22 := by rw [← q_sg_22]; exact hfn.1
                  have q_v_21 : (f_X10_put__17 v_16 v_17 sg_18).2 = v_21 := hfn.2.1
                  have r_v_21 : RI v_21 1 1 := hp_v_21.1
                  by_cases c9_v_21 : v_21 = 0
                  · exact absurd (ti_eq c9_v_21) (by unfold RI at r_v_21; rw [Int32.toInt_zero]; omega)
                  · obtain ⟨v_23, m_v_23, r_v_23⟩ := ((hp_v_21.2.2 c9_v_21).1)
                    have x_RH_p0 : AX 15 35 (fun f => RH2p f) Ps ws p0 := AX.imp ((hp_v_21.2.2 c9_v_21).2.1) (fun _ h9 => h9.1)
                    have x_RLT_p0_3_8 : AX 15 35 (fun f => (f (Int32.toNatClampNeg 3)).toInt < Int32.toInt 8) Ps ws p0 := AX.imp ((hp_v_21.2.2 c9_v_21).2.1) (fun _ h9 => h9.2.1)
                    have x_IP_p0 : AX 15 35 (fun f => 0 < (f 0).toInt) Ps ws p0 := AX.imp ((hp_v_21.2.2 c9_v_21).2.1) (fun _ h9 => h9.2.2.1)
                    refine lv_if_ne (tgt := 65) hx hb dX10_readPerson_60 (by decide) (fun c_60 => ?_) (fun c_60 => ?_)
                    · refine lv_aload_n hx hb dX10_readPerson_65 rfl (lv_at hl 1 rfl) ?_
                      refine tg_mem (ci := 10) (C := RX10) (T := TX10) (N := 49) hx hb hts inX10 hown hK hw 15 m_u_3 rfl (by decide) (hts _ tw_1152) (fun _ h9 => h9) dX10_readPerson_66 ?_
                      refine lv_bipush (v := 40) hx hb dX10_readPerson_69 (by decide) ?_
                      refine lv_iload_n hx hb dX10_readPerson_71 rfl (lv_at hl 0 rfl) ?_
                      refine lv_iadd hx hb dX10_readPerson_72 (lv_topi (fun v_24 e_v_24 => ?_))
                      obtain ⟨t_v_24, r_v_24⟩ := tq_add (lo := 40) (hi := 47) rl_40 r_v_4 (by decide +kernel) e_v_24
                      have t_v_24 : v_24.toInt = 40 + v_4.toInt := t_v_24
                      have q_v_24 : (40 : Int32) + v_4 = v_24 := e_v_24.symm
                      refine lv_iconst (v := (-1)) hx hb dX10_readPerson_73 (by decide) ?_
                      have mo9 := m_u_3
                      refine tg_iast hx hb hK hw h_vu_3 rfl 40 47 r_v_24 (by decide) rl_m1 (by decide +kernel) (fun _ _ _ _ _ => trivial) (by decide) dX10_readPerson_74 (fun ws H locs hw hF9 hU9 => ?_)
                      have x_RH_p0 : AX 15 35 (fun f => RH2p f) Ps ws p0 := AX.ast hF9 hU9 x_RH_p0 m_u_3 (fun f9 h9 => RH_keep h9 (by have k4 := r_v_24.cl (by decide); have k5 := r_v_24; unfold RI at k5; omega))
                      have x_RLT_p0_3_8 : AX 15 35 (fun f => (f (Int32.toNatClampNeg 3)).toInt < Int32.toInt 8) Ps ws p0 := AX.ast hF9 hU9 x_RLT_p0_3_8 m_u_3 (fun f9 h9 => by show _ < _; rw [pk_un (by have k4 := r_v_24.cl (by decide); have k5 := r_v_24; unfold RI at k5; have k6 : Int32.toNatClampNeg 3 = 3 := (by decide); omega)]; exact h9)
                      have x_IP_p0 : AX 15 35 (fun f => 0 < (f 0).toInt) Ps ws p0 := AX.ast hF9 hU9 x_IP_p0 m_u_3 (fun f9 h9 => by show _ < _; rw [pk_un (by have k4 := r_v_24.cl (by decide); have k5 := r_v_24; unfold RI at k5; omega)]; exact h9)
                      have x_TOK_p0_gh := TKP.over hF9 x_TOK_p0_gh (by decide)
                      have m_u_3 := FLD.over hF9 m_u_3 (by decide)
                      have m_v_23 := FLD.over hF9 m_v_23 (by decide)
                      obtain ⟨sg_25, q_sg_25⟩ : ∃ q9 : OS, sA sg_22 15 (Int32.toNatClampNeg v_24) ((-1) : Int32) = q9 := ⟨_, rfl⟩
                      have o_p0 : OV vw_MODEL Ps ws p0 sg_25 := by rw [← q_sg_25]; exact OV.putA (V := vw_MODEL) (t := 35) hF9 hU9 o_p0 mo9 (by decide) (by decide)
                      refine lv_aload_n hx hb dX10_readPerson_75 rfl (lv_at hl 1 rfl) ?_
                      refine tg_mem (ci := 10) (C := RX10) (T := TX10) (N := 49) hx hb hts inX10 hown hK hw 15 m_u_3 rfl (by decide) (hts _ tw_1152) (fun _ h9 => h9) dX10_readPerson_76 ?_
                      refine lv_iconst (v := 3) hx hb dX10_readPerson_79 (by decide) ?_
                      refine lv_dup2_11 hx hb dX10_readPerson_80 rfl rfl ?_
                      refine tg_iald (lo := 0) (hi := 8) hx hb hK hw h_vu_3 rfl 3 3 rl_3 (by decide) (by decide +kernel) dX10_readPerson_81 (fun v_26 r_v_26 m_v_26 o_v_26 => ?_)
                      have q_v_26 : sg_25.2.2.1 15 (Int32.toNatClampNeg (3 : Int32)) = v_26 := OV.eqA (V := vw_MODEL) (t := 35) hw.2.2.1 o_p0 m_u_3 m_v_26 (by decide)
                      have r_v_26 : RI v_26 0 7 := by obtain ⟨f9, h9, q9, g9⟩ := AX.use hw x_RLT_p0_3_8 h_vu_3 rfl m_u_3; have e9 := g9 _ _ m_v_26; have j9 : Int32.toNatClampNeg 3 = 3 := (by decide); rw [j9] at e9; have h8 : (f9 3).toInt < 8 := h9; rw [e9] at h8; exact ⟨r_v_26.1, by omega⟩
                      refine lv_iconst (v := 1) hx hb dX10_readPerson_82 (by decide) ?_
                      refine lv_iadd hx hb dX10_readPerson_83 (lv_topi (fun v_27 e_v_27 => ?_))
                      obtain ⟨t_v_27, r_v_27⟩ := tq_add (lo := 1) (hi := 8) r_v_26 rl_1 (by decide +kernel) e_v_27
                      have t_v_27 : v_27.toInt = v_26.toInt + 1 := t_v_27
                      have q_v_27 : v_26 + (1 : Int32) = v_27 := e_v_27.symm
                      have x_RHD_p0 : AX 15 35 (fun f => RH2p f ∧ 0 < (f 0).toInt) Ps ws p0 := AX.and hw x_RH_p0 x_IP_p0
                      have mo9 := m_u_3
                      have hw8 := hw
                      refine tg_iast hx hb hK hw h_vu_3 rfl 3 3 rl_3 (by decide) r_v_27 (by decide +kernel) (fun _ _ _ _ _ => trivial) (by decide) dX10_readPerson_84 (fun ws H locs hw hF9 hU9 => ?_)
                      have x_IP_p0 : AX 15 35 (fun f => 0 < (f 0).toInt) Ps ws p0 := AX.ast hF9 hU9 x_IP_p0 m_u_3 (fun f9 h9 => by show _ < _; rw [pk_un (by decide)]; exact h9)
                      have x_RH_p0 : AX 15 35 (fun f => RH2p f) Ps ws p0 := AX.ast hF9 hU9 x_RHD_p0 m_u_3 (fun f9 h9 => RH_three h9.1 h9.2)
                      have x_TOK_p0_gh := TKP.over hF9 x_TOK_p0_gh (by decide)
                      have m_u_3 := FLD.over hF9 m_u_3 (by decide)
                      have m_v_23 := FLD.over hF9 m_v_23 (by decide)
                      obtain ⟨sg_28, q_sg_28⟩ : ∃ q9 : OS, sA sg_25 15 (Int32.toNatClampNeg (3 : Int32)) v_27 = q9 := ⟨_, rfl⟩
                      have o_p0 : OV vw_MODEL Ps ws p0 sg_28 := by rw [← q_sg_28]; exact OV.putA (V := vw_MODEL) (t := 35) hF9 hU9 o_p0 mo9 (by decide) (by decide)
                      refine lv_iconst (v := 1) hx hb dX10_readPerson_85 (by decide) ?_
                      simp only [f_X10_readPerson__1, ↓reduceIte, q_sg_2, q_v_1, eq_false c9_v_1, eq_false c_7, q_v_4, q_v_5, q_sg_7, q_v_6, eq_false c9_v_6, eq_false c_27, q_v_8, q_sg_10, q_v_9, eq_false c9_v_9, q_sg_14, q_v_13, eq_false c9_v_13, eq_false c_42, q_v_16, q_sg_18, q_v_17, eq_false c9_v_17, q_sg_22, q_v_21, eq_false c9_v_21, eq_false c_60, q_v_24, q_sg_25, q_v_26, q_v_27, q_sg_28] at hE
                      subst hQ
                      exact W.zret (v := 1) hx hb hr (rfl) (fun t ht hW => ⟨⟨1, ws, rfl, ⟨⟨⟨(by rw [hR, ← hE]; exact o_p0), (by rw [hR, ← hE]), trivial⟩, rl_1.to (by decide), (fun _ => trivial), (fun h0 => ⟨⟨_, m_v_23, r_v_23⟩, x_TOK_p0_gh, x_RH_p0, trivial⟩)⟩, hw.1, hw.2.2.2.2.1⟩, by rw [ht]; exact hw.2.1, va_K.moved hW.alike hK, hw.2.2.1⟩, hw.2.2.2.1.F ht⟩) hw.2.2.2.1.2.2 dX10_readPerson_86
                    · have r_v_21 : RI v_21 1 0 := rc_eq1 r_v_21 rl_0 (ti_eq c_60) (by decide)
                      exact (r_v_21.no (by decide)).elim
    · have r_v_1 : RI v_1 1 0 := rc_eq1 r_v_1 rl_0 (ti_eq c_7) (by decide)
      exact (r_v_1.no (by decide)).elim
abbrev wr_X10_readFirst__5 : List (Nat × Nat) := [(10, 5), (10, 6), (10, 7), (10, 8), (10, 9), (10, 10), (10, 11), (10, 12)]
abbrev wa_X10_readFirst__5 : List Nat := []
set_option maxHeartbeats 4000000 in
set_option maxRecDepth 100000 in
theorem c_X10_readFirst__5 (l : Launch) (D : va_G) (cy : Nat → ClassId) (z : Nat → Nat) (sz : Nat) (Ps : PSI) (w0 : va_W) (hT : HT cy GG Ps w0) (p0 : Nat) (p1 : Int32) (p2 : Int32) (gh : Int) (s0 : OS) (h_p0 : (p0, 55) ∈ Ps) (r_p1 : RI p1 2 2) (r_p2 : RI p2 6 6) (x_TO_p0_gh : TOP w0 p0 (gh)) (o_p0 : OV vw_MODEL Ps w0 p0 s0) : Met l yX10_readFirst (Cond.code yX10_readFirst cX10_readFirst 3 (some .boolean) :: gT) ({ frames := 3, cells := 0, slots := 0, locals := 600 } : Room) (va_Pc [.ref p0, .int p1, .int p2] (PRE D cy z w0 sz)) (va_Qi (fun (r : Int32) (u : va_W) => ((OV vw_MODEL Ps u p0 ((f_X10_readFirst__4 p1 p2 s0).1) ∧ (f_X10_readFirst__4 p1 p2 s0).2 = r ∧ True) ∧ (RI r 0 1 ∧ (r = 0 → True) ∧ (¬ r = 0 → TKP u p0 (gh) ∧ AX 15 35 (fun f => (f (Int32.toNatClampNeg p1)).toInt < Int32.toInt p2) Ps u p0 ∧ True))) ∧ HT cy GG Ps u ∧ FR wr_X10_readFirst__5 wa_X10_readFirst__5 Ps w0 u) (BB D cy (va_A w0 sz) (fun (u : va_W) => u)) (va_A w0 sz)) 0 0 (va_A w0 sz) := by
  refine Met.ofW (cc := cX10_readFirst) (maxL := 3) (ret := (some .boolean)) (by decide) rfl ?_
  intro p e s m args below meth c s₁ B hml hv
  obtain ⟨rfl, hsz, hP, hK, hD0, hSD⟩ := hv
  have hx := B.exec
  have hb := B.bytes
  have hr := B.returns
  have hlocks := B.notSynchronized
  have hts : ∀ w ∈ gT, w.before _ s = true := fun w h => atoms_spec (ws := Cond.code yX10_readFirst cX10_readFirst 3 (some .boolean) :: gT) B.pre w (List.mem_cons_of_mem _ h)
  have hown : s.vm.findClass RX10 = some m.cls := findClass_of_methodNamed B.named
  subst hsz
  have hD := hD0.self (sz := s.heap.size)
  generalize hAe : va_A w0 s.heap.size = A at hD hSD ⊢
  have hA : ∀ q : Nat, s.heap.size ≤ q → A q := fun q h => by rw [← hAe]; exact Or.inr h
  have hl := lv_entry ([.ref p0, .int p1, .int p2]) (n := 3) (Nat.le_of_ble_eq_true rfl)
  rw [lg_entry_eq]
  generalize (lg_sl ([.ref p0, .int p1, .int p2]) ++ List.replicate (3 - (lg_sl ([.ref p0, .int p1, .int p2])).length) Slot.unset).toArray = ls at hl ⊢
  have hl : lv_has ls 3 [(0, .ref p0), (1, .int p1), (2, .int p2)] := hl
  refine nameQ (fun Q hQ => ?_)
  have hw : WD D cy GG A s wr_X10_readFirst__5 wa_X10_readFirst__5 Ps w0 Ps w0 s.heap [] := ⟨hT, hP, hD, va_S.rf, FR.rf, hT.1, [], (List.append_nil _).symm⟩
  obtain ⟨R9, hR⟩ : ∃ q9 : OS × Int32, f_X10_readFirst__4 p1 p2 s0 = q9 := ⟨_, rfl⟩
  have hE := hR
  refine lv_aload_n hx hb dX10_readFirst_0 rfl (lv_at hl 0 rfl) ?_
  refine tg_get (ci := 10) (ts := ty_MODEL) (C := RX10) (T := TX10) (N := 49) hx hb hts inX10 hown hK hw h_p0 rfl rfl 15 (by decide) (hts _ tw_1152) (fun _ h9 => h9) (ft := vR 35) rfl dX10_readFirst_1 (fun u_1 hv_u_1 m_u_1 => ?_)
  obtain ⟨vu_1, rfl, h_vu_1⟩ := hv_u_1
  refine lv_iload_n hx hb dX10_readFirst_4 rfl (lv_at hl 1 rfl) ?_
  refine tg_iald (lo := 0) (hi := 6) hx hb hK hw h_vu_1 rfl 2 2 r_p1 (by decide) (by decide +kernel) dX10_readFirst_5 (fun v_2 r_v_2 m_v_2 o_v_2 => ?_)
  have q_v_2 : s0.2.2.1 15 (Int32.toNatClampNeg p1) = v_2 := OV.eqA (V := vw_MODEL) (t := 35) hw.2.2.1 o_p0 m_u_1 m_v_2 (by decide)
  refine lv_iload_n hx hb dX10_readFirst_6 rfl (lv_at hl 2 rfl) ?_
  refine lv_icmp_ne (tgt := 16) hx hb dX10_readFirst_7 (by decide) (fun c_7 => ?_) (fun c_7 => ?_)
  · have r_v_2 : RI v_2 0 5 := rc_neU r_v_2 r_p2 (ti_ne c_7) (by decide)
    have x_RLT_p0_p1_p2 : AX 15 35 (fun f => (f (Int32.toNatClampNeg p1)).toInt < Int32.toInt p2) Ps w0 p0 := AX.mk hw h_vu_1 rfl m_u_1 (fun f9 g9 _ => by have e9 := g9 _ _ m_v_2; have j9 : Int32.toNatClampNeg p1 = Int32.toNatClampNeg p1 := rfl; rw [j9] at e9; show _; rw [e9]; have k1 := r_v_2.2; have k2 := r_p2.1; omega)
    refine lv_aload_n hx hb dX10_readFirst_16 rfl (lv_at hl 0 rfl) ?_
    have hw8 := hw
    refine tk_v (va_runV (As := []) (rest := []) ⟨hx, hb, hml, hown, hts⟩ (c_X10_go__2 l D cy z s.heap.size Ps w0 hw.1 p0 (gh) s0 h_p0 x_TO_p0_gh o_p0) (cwV 0 hts (gV tw_1298 tw_1300 ts_40 tw_15 tw_1301) rfl rfl rfl (by decide +kernel) ⟨Nat.le_of_ble_eq_true rfl, Nat.le_of_ble_eq_true rfl⟩) (tg_preV hw hK hSD hA (ci := 10) (q := (RX10, TX10, 49)) rfl h_p0 rfl) rfl rfl hl.1 rfl (lv_room (Nat.le_of_ble_eq_true rfl)) dX10_readFirst_17 ⟨Nat.le_of_ble_eq_true rfl, Nat.le_of_ble_eq_true rfl⟩) hw hA ⟨by decide, by decide⟩ (fun ws H locs hp_v_3 hw hF9 => ?_)
    have m_v_2 := AEL.over hw8 hF9 h_vu_1 m_v_2 (by decide)
    have m_u_1 := FLD.over hF9 m_u_1 (by decide)
    have x_RLT_p0_p1_p2 := AX.over hF9 x_RLT_p0_p1_p2 (by decide)
    obtain ⟨hfn, hp_v_3⟩ := hp_v_3
    obtain ⟨sg_4, q_sg_4⟩ : ∃ q9 : OS, (f_X10_go__2 s0) = q9 := ⟨_, rfl⟩
    have o_p0 : OV vw_MODEL Ps ws p0 sg_4 := by rw [← q_sg_4]; exact hfn.1
    have x_TOK_p0_gh := (hp_v_3.1)
    refine lv_iconst (v := 1) hx hb dX10_readFirst_20 (by decide) ?_
    simp only [f_X10_readFirst__4, ↓reduceIte, q_v_2, eq_false c_7, q_sg_4] at hE
    subst hQ
    exact W.zret (v := 1) hx hb hr (rfl) (fun t ht hW => ⟨⟨1, ws, rfl, ⟨⟨⟨(by rw [hR, ← hE]; exact o_p0), (by rw [hR, ← hE]), trivial⟩, rl_1.to (by decide), (fun _ => trivial), (fun h0 => ⟨x_TOK_p0_gh, x_RLT_p0_p1_p2, trivial⟩)⟩, hw.1, hw.2.2.2.2.1⟩, by rw [ht]; exact hw.2.1, va_K.moved hW.alike hK, hw.2.2.1⟩, hw.2.2.2.1.F ht⟩) hw.2.2.2.1.2.2 dX10_readFirst_21
  · have r_v_2 : RI v_2 6 6 := rc_eq1 r_v_2 r_p2 (ti_eq c_7) (by decide)
    refine lv_aload_n hx hb dX10_readFirst_10 rfl (lv_at hl 0 rfl) ?_
    refine lv_iconst (v := 4) hx hb dX10_readFirst_11 (by decide) ?_
    have hw8 := hw
    refine tk_i (va_runV (As := [.int 4]) (rest := []) ⟨hx, hb, hml, hown, hts⟩ (c_X10_bad__1 l D cy z s.heap.size Ps w0 hw.1 p0 4 s0 h_p0 (rl_4.to (by decide)) o_p0) (cwV 1 hts (gV tw_1336 tw_1338 ts_46 tw_15 tw_1339) rfl rfl rfl (by decide +kernel) ⟨Nat.le_of_ble_eq_true rfl, Nat.le_of_ble_eq_true rfl⟩) (tg_preV hw hK hSD hA (ci := 10) (q := (RX10, TX10, 49)) rfl h_p0 rfl) rfl rfl hl.1 rfl (lv_room (Nat.le_of_ble_eq_true rfl)) dX10_readFirst_12 ⟨Nat.le_of_ble_eq_true rfl, Nat.le_of_ble_eq_true rfl⟩) hw hA ⟨by decide, by decide⟩ (fun v_5 ws H locs hp_v_5 hw hF9 => ?_)
    have m_v_2 := AEL.over hw8 hF9 h_vu_1 m_v_2 (by decide)
    have m_u_1 := FLD.over hF9 m_u_1 (by decide)
    have x_TO_p0_gh := TOP.over hF9 x_TO_p0_gh (by decide)
    obtain ⟨hfn, hp_v_5⟩ := hp_v_5
    obtain ⟨sg_6, q_sg_6⟩ : ∃ q9 : OS, (f_X10_bad__1 (4 : Int32) s0).1 = q9 := ⟨_, rfl⟩
    have o_p0 : OV vw_MODEL Ps ws p0 sg_6 := by rw [← q_sg_6]; exact hfn.1
    have q_v_5 : (f_X10_bad__1 (4 : Int32) s0).2 = v_5 := hfn.2.1
    have r_v_5 : RI v_5 0 0 := hp_v_5.1
    simp only [f_X10_readFirst__4, ↓reduceIte, q_v_2, eq_true c_7, q_sg_6, q_v_5] at hE
    subst hQ
    exact W.zret (v := v_5) hx hb hr (tq_nz (r_v_5.to (by decide))) (fun t ht hW => ⟨⟨v_5, ws, rfl, ⟨⟨⟨(by rw [hR, ← hE]; exact o_p0), (by rw [hR, ← hE]), trivial⟩, r_v_5.to (by decide), (fun h0 => trivial), (fun h0 => absurd (Int32.toInt_inj.mp (by have h8 := r_v_5; unfold RI at h8; rw [Int32.toInt_zero]; omega)) h0)⟩, hw.1, hw.2.2.2.2.1⟩, by rw [ht]; exact hw.2.1, va_K.moved hW.alike hK, hw.2.2.1⟩, hw.2.2.2.1.F ht⟩) hw.2.2.2.1.2.2 dX10_readFirst_15
abbrev wr_X10_readNew__5 : List (Nat × Nat) := [(10, 5), (10, 6), (10, 7), (10, 8), (10, 9), (10, 10), (10, 11), (10, 12)]
abbrev wa_X10_readNew__5 : List Nat := [42]
set_option maxHeartbeats 4000000 in
set_option maxRecDepth 100000 in
theorem c_X10_readNew__5 (l : Launch) (D : va_G) (cy : Nat → ClassId) (z : Nat → Nat) (sz : Nat) (Ps : PSI) (w0 : va_W) (hT : HT cy GG Ps w0) (p0 : Nat) (p1 : Int32) (gh : Int) (s0 : OS) (h_p0 : (p0, 55) ∈ Ps) (r_p1 : RI p1 10 15) (x_TO_p0_gh : TOP w0 p0 (gh)) (o_p0 : OV vw_MODEL Ps w0 p0 s0) : Met l yX10_readNew (Cond.code yX10_readNew cX10_readNew 2 (some .boolean) :: gT) ({ frames := 4, cells := 0, slots := 0, locals := 800 } : Room) (va_Pc [.ref p0, .int p1] (PRE D cy z w0 sz)) (va_Qi (fun (r : Int32) (u : va_W) => ((OV vw_MODEL Ps u p0 ((f_X10_readNew__4 p1 s0).1) ∧ (f_X10_readNew__4 p1 s0).2 = r ∧ True) ∧ (RI r 0 1 ∧ (r = 0 → True) ∧ (¬ r = 0 → TKP u p0 (gh) ∧ True))) ∧ HT cy GG Ps u ∧ FR wr_X10_readNew__5 wa_X10_readNew__5 Ps w0 u) (BB D cy (va_A w0 sz) (fun (u : va_W) => u)) (va_A w0 sz)) 0 0 (va_A w0 sz) := by
  refine Met.ofW (cc := cX10_readNew) (maxL := 2) (ret := (some .boolean)) (by decide) rfl ?_
  intro p e s m args below meth c s₁ B hml hv
  obtain ⟨rfl, hsz, hP, hK, hD0, hSD⟩ := hv
  have hx := B.exec
  have hb := B.bytes
  have hr := B.returns
  have hlocks := B.notSynchronized
  have hts : ∀ w ∈ gT, w.before _ s = true := fun w h => atoms_spec (ws := Cond.code yX10_readNew cX10_readNew 2 (some .boolean) :: gT) B.pre w (List.mem_cons_of_mem _ h)
  have hown : s.vm.findClass RX10 = some m.cls := findClass_of_methodNamed B.named
  subst hsz
  have hD := hD0.self (sz := s.heap.size)
  generalize hAe : va_A w0 s.heap.size = A at hD hSD ⊢
  have hA : ∀ q : Nat, s.heap.size ≤ q → A q := fun q h => by rw [← hAe]; exact Or.inr h
  have hl := lv_entry ([.ref p0, .int p1]) (n := 2) (Nat.le_of_ble_eq_true rfl)
  rw [lg_entry_eq]
  generalize (lg_sl ([.ref p0, .int p1]) ++ List.replicate (2 - (lg_sl ([.ref p0, .int p1])).length) Slot.unset).toArray = ls at hl ⊢
  have hl : lv_has ls 2 [(0, .ref p0), (1, .int p1)] := hl
  refine nameQ (fun Q hQ => ?_)
  have hw : WD D cy GG A s wr_X10_readNew__5 wa_X10_readNew__5 Ps w0 Ps w0 s.heap [] := ⟨hT, hP, hD, va_S.rf, FR.rf, hT.1, [], (List.append_nil _).symm⟩
  obtain ⟨R9, hR⟩ : ∃ q9 : OS × Int32, f_X10_readNew__4 p1 s0 = q9 := ⟨_, rfl⟩
  have hE := hR
  refine lv_aload_n hx hb dX10_readNew_0 rfl (lv_at hl 0 rfl) ?_
  refine tk_ir (va_runV (As := []) (rest := []) ⟨hx, hb, hml, hown, hts⟩ (c_X10_isName__1 l D cy z s.heap.size Ps w0 hw.1 p0 s0 h_p0 o_p0) (cwV 0 hts (gV tw_1344 tw_1346 ts_48 tw_15 tw_1347) rfl rfl rfl (by decide +kernel) ⟨Nat.le_of_ble_eq_true rfl, Nat.le_of_ble_eq_true rfl⟩) (tg_preV hw hK hSD hA (ci := 10) (q := (RX10, TX10, 49)) rfl h_p0 rfl) rfl rfl hl.1 rfl (lv_room (Nat.le_of_ble_eq_true rfl)) dX10_readNew_1 ⟨Nat.le_of_ble_eq_true rfl, Nat.le_of_ble_eq_true rfl⟩) hw hA (fun v_1  H locs hp_v_1 hw => ?_)
  obtain ⟨hfn, hp_v_1⟩ := hp_v_1
  have q_v_1 : (f_X10_isName__1 s0) = v_1 := hfn.1
  have r_v_1 : RI v_1 0 1 := hp_v_1.1
  refine lv_if_ne (tgt := 13) hx hb dX10_readNew_4 (by decide) (fun c_4 => ?_) (fun c_4 => ?_)
  · have r_v_1 : RI v_1 1 1 := rc_neL r_v_1 rl_0 (ti_ne c_4) (by decide)
    refine lv_aload_n hx hb dX10_readNew_13 rfl (lv_at hl 0 rfl) ?_
    refine tk_ir (va_runV (As := []) (rest := []) ⟨hx, hb, hml, hown, hts⟩ (c_X10_isTaken__1 l D cy z H.size Ps w0 hw.1 p0 s0 h_p0 o_p0) (cwV 0 hts (gV tw_1348 tw_1350 ts_49 tw_15 tw_1351) rfl rfl rfl (by decide +kernel) ⟨Nat.le_of_ble_eq_true rfl, Nat.le_of_ble_eq_true rfl⟩) (tg_preV hw hK hSD hA (ci := 10) (q := (RX10, TX10, 49)) rfl h_p0 rfl) rfl rfl hl.1 rfl (lv_room (Nat.le_of_ble_eq_true rfl)) dX10_readNew_14 ⟨Nat.le_of_ble_eq_true rfl, Nat.le_of_ble_eq_true rfl⟩) hw hA (fun v_2  H locs hp_v_2 hw => ?_)
    obtain ⟨hfn, hp_v_2⟩ := hp_v_2
    have q_v_2 : (f_X10_isTaken__1 s0) = v_2 := hfn.1
    have r_v_2 : RI v_2 0 1 := hp_v_2.1
    refine lv_if_eq (tgt := 26) hx hb dX10_readNew_17 (by decide) (fun c_17 => ?_) (fun c_17 => ?_)
    · have r_v_2 : RI v_2 0 0 := rc_eq1 r_v_2 rl_0 (ti_eq c_17) (by decide)
      refine lv_aload_n hx hb dX10_readNew_26 rfl (lv_at hl 0 rfl) ?_
      refine tg_get (ci := 10) (ts := ty_MODEL) (C := RX10) (T := TX10) (N := 49) hx hb hts inX10 hown hK hw h_p0 rfl rfl 21 (by decide) (hts _ tw_1158) (fun _ h9 => h9) (ft := vR 42) rfl dX10_readNew_27 (fun u_3 hv_u_3 m_u_3 => ?_)
      obtain ⟨vu_3, rfl, h_vu_3⟩ := hv_u_3
      refine lv_iload_n hx hb dX10_readNew_30 rfl (lv_at hl 1 rfl) ?_
      refine lv_aload_n hx hb dX10_readNew_31 rfl (lv_at hl 0 rfl) ?_
      refine tg_get (ci := 10) (ts := ty_MODEL) (C := RX10) (T := TX10) (N := 49) hx hb hts inX10 hown hK hw h_p0 rfl rfl 12 (by decide) (hts _ tw_1149) (fun _ h9 => h9) (ft := vJ (-9223372036854775808) 9223372036854775807) rfl dX10_readNew_32 (fun u_4 hv_u_4 m_u_4 => ?_)
      obtain ⟨vu_4, rfl, r_vu_4⟩ := hv_u_4
      have q_vu_4 : s0.2.1 12 = vu_4 := OV.eqL (V := vw_MODEL) hw.2.2.1 o_p0 m_u_4 (by decide)
      have mo9 := m_u_3
      refine tg_lastE hx hb hK hw h_vu_3 rfl r_p1 (by decide) r_vu_4 (by decide) (by decide) dX10_readNew_35 (fun ws H locs hw hF9 hU9 => ?_)
      have x_TO_p0_gh := TOP.over hF9 x_TO_p0_gh (by decide)
      have m_u_3 := FLD.over hF9 m_u_3 (by decide)
      have m_u_4 := FLD.over hF9 m_u_4 (by decide)
      obtain ⟨sg_5, q_sg_5⟩ : ∃ q9 : OS, sB s0 21 (Int32.toNatClampNeg p1) vu_4 = q9 := ⟨_, rfl⟩
      have o_p0 : OV vw_MODEL Ps ws p0 sg_5 := by rw [← q_sg_5]; exact OV.putB (V := vw_MODEL) (t := 42) hF9 hU9 o_p0 mo9 (by decide) (by decide)
      refine lv_aload_n hx hb dX10_readNew_36 rfl (lv_at hl 0 rfl) ?_
      refine tk_v (va_runV (As := []) (rest := []) ⟨hx, hb, hml, hown, hts⟩ (c_X10_go__2 l D cy z H.size Ps ws hw.1 p0 (gh) sg_5 h_p0 x_TO_p0_gh o_p0) (cwV 0 hts (gV tw_1298 tw_1300 ts_40 tw_15 tw_1301) rfl rfl rfl (by decide +kernel) ⟨Nat.le_of_ble_eq_true rfl, Nat.le_of_ble_eq_true rfl⟩) (tg_preV hw hK hSD hA (ci := 10) (q := (RX10, TX10, 49)) rfl h_p0 rfl) rfl rfl hl.1 rfl (lv_room (Nat.le_of_ble_eq_true rfl)) dX10_readNew_37 ⟨Nat.le_of_ble_eq_true rfl, Nat.le_of_ble_eq_true rfl⟩) hw hA ⟨by decide, by decide⟩ (fun ws H locs hp_v_6 hw hF9 => ?_)
      have m_u_3 := FLD.over hF9 m_u_3 (by decide)
      obtain ⟨hfn, hp_v_6⟩ := hp_v_6
      obtain ⟨sg_7, q_sg_7⟩ : ∃ q9 : OS, (f_X10_go__2 sg_5) = q9 := ⟨_, rfl⟩
      have o_p0 : OV vw_MODEL Ps ws p0 sg_7 := by rw [← q_sg_7]; exact hfn.1
      have x_TOK_p0_gh := (hp_v_6.1)
      refine lv_iconst (v := 1) hx hb dX10_readNew_40 (by decide) ?_
      simp only [f_X10_readNew__4, ↓reduceIte, q_v_1, eq_false c_4, q_v_2, eq_true c_17, q_vu_4, q_sg_5, q_sg_7] at hE
      subst hQ
      exact W.zret (v := 1) hx hb hr (rfl) (fun t ht hW => ⟨⟨1, ws, rfl, ⟨⟨⟨(by rw [hR, ← hE]; exact o_p0), (by rw [hR, ← hE]), trivial⟩, rl_1.to (by decide), (fun _ => trivial), (fun h0 => ⟨x_TOK_p0_gh, trivial⟩)⟩, hw.1, hw.2.2.2.2.1⟩, by rw [ht]; exact hw.2.1, va_K.moved hW.alike hK, hw.2.2.1⟩, hw.2.2.2.1.F ht⟩) hw.2.2.2.1.2.2 dX10_readNew_41
    · have r_v_2 : RI v_2 1 1 := rc_neL r_v_2 rl_0 (ti_ne c_17) (by decide)
      refine lv_aload_n hx hb dX10_readNew_20 rfl (lv_at hl 0 rfl) ?_
      refine lv_iconst (v := 3) hx hb dX10_readNew_21 (by decide) ?_
      refine tk_i (va_runV (As := [.int 3]) (rest := []) ⟨hx, hb, hml, hown, hts⟩ (c_X10_bad__1 l D cy z H.size Ps w0 hw.1 p0 3 s0 h_p0 (rl_3.to (by decide)) o_p0) (cwV 1 hts (gV tw_1336 tw_1338 ts_46 tw_15 tw_1339) rfl rfl rfl (by decide +kernel) ⟨Nat.le_of_ble_eq_true rfl, Nat.le_of_ble_eq_true rfl⟩) (tg_preV hw hK hSD hA (ci := 10) (q := (RX10, TX10, 49)) rfl h_p0 rfl) rfl rfl hl.1 rfl (lv_room (Nat.le_of_ble_eq_true rfl)) dX10_readNew_22 ⟨Nat.le_of_ble_eq_true rfl, Nat.le_of_ble_eq_true rfl⟩) hw hA ⟨by decide, by decide⟩ (fun v_8 ws H locs hp_v_8 hw hF9 => ?_)
      have x_TO_p0_gh := TOP.over hF9 x_TO_p0_gh (by decide)
      obtain ⟨hfn, hp_v_8⟩ := hp_v_8
      obtain ⟨sg_9, q_sg_9⟩ : ∃ q9 : OS, (f_X10_bad__1 (3 : Int32) s0).1 = q9 := ⟨_, rfl⟩
      have o_p0 : OV vw_MODEL Ps ws p0 sg_9 := by rw [← q_sg_9]; exact hfn.1
      have q_v_8 : (f_X10_bad__1 (3 : Int32) s0).2 = v_8 := hfn.2.1
      have r_v_8 : RI v_8 0 0 := hp_v_8.1
      simp only [f_X10_readNew__4, ↓reduceIte, q_v_1, eq_false c_4, q_v_2, eq_false c_17, q_sg_9, q_v_8] at hE
      subst hQ
      exact W.zret (v := v_8) hx hb hr (tq_nz (r_v_8.to (by decide))) (fun t ht hW => ⟨⟨v_8, ws, rfl, ⟨⟨⟨(by rw [hR, ← hE]; exact o_p0), (by rw [hR, ← hE]), trivial⟩, r_v_8.to (by decide), (fun h0 => trivial), (fun h0 => absurd (Int32.toInt_inj.mp (by have h8 := r_v_8; unfold RI at h8; rw [Int32.toInt_zero]; omega)) h0)⟩, hw.1, hw.2.2.2.2.1⟩, by rw [ht]; exact hw.2.1, va_K.moved hW.alike hK, hw.2.2.1⟩, hw.2.2.2.1.F ht⟩) hw.2.2.2.1.2.2 dX10_readNew_25
  · have r_v_1 : RI v_1 0 0 := rc_eq1 r_v_1 rl_0 (ti_eq c_4) (by decide)
    refine lv_aload_n hx hb dX10_readNew_7 rfl (lv_at hl 0 rfl) ?_
    refine lv_iconst (v := 1) hx hb dX10_readNew_8 (by decide) ?_
    refine tk_i (va_runV (As := [.int 1]) (rest := []) ⟨hx, hb, hml, hown, hts⟩ (c_X10_bad__1 l D cy z H.size Ps w0 hw.1 p0 1 s0 h_p0 (rl_1.to (by decide)) o_p0) (cwV 1 hts (gV tw_1336 tw_1338 ts_46 tw_15 tw_1339) rfl rfl rfl (by decide +kernel) ⟨Nat.le_of_ble_eq_true rfl, Nat.le_of_ble_eq_true rfl⟩) (tg_preV hw hK hSD hA (ci := 10) (q := (RX10, TX10, 49)) rfl h_p0 rfl) rfl rfl hl.1 rfl (lv_room (Nat.le_of_ble_eq_true rfl)) dX10_readNew_9 ⟨Nat.le_of_ble_eq_true rfl, Nat.le_of_ble_eq_true rfl⟩) hw hA ⟨by decide, by decide⟩ (fun v_10 ws H locs hp_v_10 hw hF9 => ?_)
    have x_TO_p0_gh := TOP.over hF9 x_TO_p0_gh (by decide)
    obtain ⟨hfn, hp_v_10⟩ := hp_v_10
    obtain ⟨sg_11, q_sg_11⟩ : ∃ q9 : OS, (f_X10_bad__1 (1 : Int32) s0).1 = q9 := ⟨_, rfl⟩
    have o_p0 : OV vw_MODEL Ps ws p0 sg_11 := by rw [← q_sg_11]; exact hfn.1
    have q_v_10 : (f_X10_bad__1 (1 : Int32) s0).2 = v_10 := hfn.2.1
    have r_v_10 : RI v_10 0 0 := hp_v_10.1
    simp only [f_X10_readNew__4, ↓reduceIte, q_v_1, eq_true c_4, q_sg_11, q_v_10] at hE
    subst hQ
    exact W.zret (v := v_10) hx hb hr (tq_nz (r_v_10.to (by decide))) (fun t ht hW => ⟨⟨v_10, ws, rfl, ⟨⟨⟨(by rw [hR, ← hE]; exact o_p0), (by rw [hR, ← hE]), trivial⟩, r_v_10.to (by decide), (fun h0 => trivial), (fun h0 => absurd (Int32.toInt_inj.mp (by have h8 := r_v_10; unfold RI at h8; rw [Int32.toInt_zero]; omega)) h0)⟩, hw.1, hw.2.2.2.2.1⟩, by rw [ht]; exact hw.2.1, va_K.moved hW.alike hK, hw.2.2.1⟩, hw.2.2.2.1.F ht⟩) hw.2.2.2.1.2.2 dX10_readNew_12
abbrev wr_X10_isOne__7 : List (Nat × Nat) := [(10, 10), (10, 11), (10, 13)]
abbrev wa_X10_isOne__7 : List Nat := []
set_option maxHeartbeats 4000000 in
set_option maxRecDepth 100000 in
theorem c_X10_isOne__7 (l : Launch) (D : va_G) (cy : Nat → ClassId) (z : Nat → Nat) (sz : Nat) (Ps : PSI) (w0 : va_W) (hT : HT cy GG Ps w0) (p0 : Nat) (p1 : Int32) (p2 : Int32) (s0 : OS) (h_p0 : (p0, 55) ∈ Ps) (r_p1 : RI p1 6 6) (r_p2 : RI p2 0 4) (o_p0 : OV vw_MODEL Ps w0 p0 s0) : Met l yX10_isOne (Cond.code yX10_isOne cX10_isOne 3 (some .boolean) :: gT) ({ frames := 4, cells := 0, slots := 0, locals := 800 } : Room) (va_Pc [.ref p0, .int p1, .int p2] (PRE D cy z w0 sz)) (va_Qi (fun (r : Int32) (u : va_W) => ((OV vw_MODEL Ps u p0 ((f_X10_isOne__4 p1 p2 s0).1) ∧ (f_X10_isOne__4 p1 p2 s0).2 = r ∧ True) ∧ (RI r 0 1 ∧ (r = 0 → True) ∧ (¬ r = 0 → RI p2 1 4 ∧ (∃ v9 : Int32, FLD u p0 10 13 (.int v9) ∧ RI v9 0 3) ∧ True))) ∧ HT cy GG Ps u ∧ FR wr_X10_isOne__7 wa_X10_isOne__7 Ps w0 u) (BB D cy (va_A w0 sz) (fun (u : va_W) => u)) (va_A w0 sz)) 0 0 (va_A w0 sz) := by
  refine Met.ofW (cc := cX10_isOne) (maxL := 3) (ret := (some .boolean)) (by decide) rfl ?_
  intro p e s m args below meth c s₁ B hml hv
  obtain ⟨rfl, hsz, hP, hK, hD0, hSD⟩ := hv
  have hx := B.exec
  have hb := B.bytes
  have hr := B.returns
  have hlocks := B.notSynchronized
  have hts : ∀ w ∈ gT, w.before _ s = true := fun w h => atoms_spec (ws := Cond.code yX10_isOne cX10_isOne 3 (some .boolean) :: gT) B.pre w (List.mem_cons_of_mem _ h)
  have hown : s.vm.findClass RX10 = some m.cls := findClass_of_methodNamed B.named
  subst hsz
  have hD := hD0.self (sz := s.heap.size)
  generalize hAe : va_A w0 s.heap.size = A at hD hSD ⊢
  have hA : ∀ q : Nat, s.heap.size ≤ q → A q := fun q h => by rw [← hAe]; exact Or.inr h
  have hl := lv_entry ([.ref p0, .int p1, .int p2]) (n := 3) (Nat.le_of_ble_eq_true rfl)
  rw [lg_entry_eq]
  generalize (lg_sl ([.ref p0, .int p1, .int p2]) ++ List.replicate (3 - (lg_sl ([.ref p0, .int p1, .int p2])).length) Slot.unset).toArray = ls at hl ⊢
  have hl : lv_has ls 3 [(0, .ref p0), (1, .int p1), (2, .int p2)] := hl
  refine nameQ (fun Q hQ => ?_)
  have hw : WD D cy GG A s wr_X10_isOne__7 wa_X10_isOne__7 Ps w0 Ps w0 s.heap [] := ⟨hT, hP, hD, va_S.rf, FR.rf, hT.1, [], (List.append_nil _).symm⟩
  obtain ⟨R9, hR⟩ : ∃ q9 : OS × Int32, f_X10_isOne__4 p1 p2 s0 = q9 := ⟨_, rfl⟩
  have hE := hR
  refine lv_aload_n hx hb dX10_isOne_0 rfl (lv_at hl 0 rfl) ?_
  refine tk_ir (va_runV (As := []) (rest := []) ⟨hx, hb, hml, hown, hts⟩ (c_X10_isName__1 l D cy z s.heap.size Ps w0 hw.1 p0 s0 h_p0 o_p0) (cwV 0 hts (gV tw_1344 tw_1346 ts_48 tw_15 tw_1347) rfl rfl rfl (by decide +kernel) ⟨Nat.le_of_ble_eq_true rfl, Nat.le_of_ble_eq_true rfl⟩) (tg_preV hw hK hSD hA (ci := 10) (q := (RX10, TX10, 49)) rfl h_p0 rfl) rfl rfl hl.1 rfl (lv_room (Nat.le_of_ble_eq_true rfl)) dX10_isOne_1 ⟨Nat.le_of_ble_eq_true rfl, Nat.le_of_ble_eq_true rfl⟩) hw hA (fun v_1  H locs hp_v_1 hw => ?_)
  obtain ⟨hfn, hp_v_1⟩ := hp_v_1
  have q_v_1 : (f_X10_isName__1 s0) = v_1 := hfn.1
  have r_v_1 : RI v_1 0 1 := hp_v_1.1
  refine lv_if_ne (tgt := 13) hx hb dX10_isOne_4 (by decide) (fun c_4 => ?_) (fun c_4 => ?_)
  · have r_v_1 : RI v_1 1 1 := rc_neL r_v_1 rl_0 (ti_ne c_4) (by decide)
    refine lv_aload_n hx hb dX10_isOne_13 rfl (lv_at hl 0 rfl) ?_
    refine lv_aload_n hx hb dX10_isOne_14 rfl (lv_at hl 0 rfl) ?_
    refine tg_get (ci := 10) (ts := ty_MODEL) (C := RX10) (T := TX10) (N := 49) hx hb hts inX10 hown hK hw h_p0 rfl rfl 21 (by decide) (hts _ tw_1158) (fun _ h9 => h9) (ft := vR 42) rfl dX10_isOne_15 (fun u_2 hv_u_2 m_u_2 => ?_)
    obtain ⟨vu_2, rfl, h_vu_2⟩ := hv_u_2
    refine lv_iload_n hx hb dX10_isOne_18 rfl (lv_at hl 1 rfl) ?_
    refine lv_iload_n hx hb dX10_isOne_19 rfl (lv_at hl 2 rfl) ?_
    refine lv_aload_n hx hb dX10_isOne_20 rfl (lv_at hl 0 rfl) ?_
    refine tg_get (ci := 10) (ts := ty_MODEL) (C := RX10) (T := TX10) (N := 49) hx hb hts inX10 hown hK hw h_p0 rfl rfl 12 (by decide) (hts _ tw_1149) (fun _ h9 => h9) (ft := vJ (-9223372036854775808) 9223372036854775807) rfl dX10_isOne_21 (fun u_3 hv_u_3 m_u_3 => ?_)
    obtain ⟨vu_3, rfl, r_vu_3⟩ := hv_u_3
    have q_vu_3 : s0.2.1 12 = vu_3 := OV.eqL (V := vw_MODEL) hw.2.2.1 o_p0 m_u_3 (by decide)
    have oa_vu_2 := OV.arrB (V := vw_MODEL) (t := 42) hw.2.2.1 o_p0 m_u_2 (by decide)
    have mo9_vu_2 := And.intro hw.2.2.1 m_u_2
    refine tk_ir (va_runS (As := [.ref vu_2, .int p1, .int p2, .long vu_3]) (rest := [.ref p0]) ⟨hx, hb, hml, hown, hts⟩ (c_X10_findIn__12 l D cy z H.size Ps w0 hw.1 vu_2 p1 p2 vu_3 (s0.2.2.2 21) h_vu_2 r_p1 r_p2 r_vu_3 oa_vu_2) (va_cwS 4 hts (gS tw_1352 tw_1353 tw_15 tw_1354) rfl rfl rfl (by decide +kernel) ⟨Nat.le_of_ble_eq_true rfl, Nat.le_of_ble_eq_true rfl⟩) (tg_preS hw hK hSD hA) rfl rfl hl.1 rfl (lv_room (Nat.le_of_ble_eq_true rfl)) dX10_isOne_24 ⟨Nat.le_of_ble_eq_true rfl, Nat.le_of_ble_eq_true rfl⟩) hw hA (fun v_4  H locs hp_v_4 hw => ?_)
    obtain ⟨hfn, hp_v_4⟩ := hp_v_4
    have q_v_4 : (f_X10_findIn__9 p1 p2 vu_3 (s0.2.2.2 21)) = v_4 := hfn.1
    have r_v_4 : RI v_4 (-1) 3 := hp_v_4.1
    by_cases c9_v_4 : v_4.toInt < 0
    · have r_v_4 : RI v_4 (-1) (-1) := by unfold RI at r_v_4 ⊢; omega
      have x_NF_vu_2_p1_p2_vu_3 := (hp_v_4.2.2.2.2.1 (by omega)).1
      have hw8 := hw
      refine tg_put (ci := 10) (ts := ty_MODEL) (v := .int v_4) (ty := .int) (C := RX10) (T := TX10) (N := 49) hx hb hts inX10 tyX10 tyX10_ok nmX10 hown hK hw h_p0 rfl rfl 13 (by decide) (hts _ tw_1150) (fun _ h9 => h9) rfl (by decide +kernel) rfl rfl (ft := vI (-2147483648) 2147483647) rfl ⟨_, rfl, (r_v_4.to (by decide))⟩ (by decide) dX10_isOne_27 (fun ws H locs hw n_k_5 hF9 => ?_)
      have m_u_2 := FLD.over hF9 m_u_2 (by decide)
      have m_u_3 := FLD.over hF9 m_u_3 (by decide)
      have x_NF_vu_2_p1_p2_vu_3 := NFD.over hw8 hF9 h_vu_2 x_NF_vu_2_p1_p2_vu_3 (by decide)
      obtain ⟨sg_6, q_sg_6⟩ : ∃ q9 : OS, sI s0 13 v_4 = q9 := ⟨_, rfl⟩
      have o_p0 : OV vw_MODEL Ps ws p0 sg_6 := by rw [← q_sg_6]; exact OV.putI (V := vw_MODEL) hF9 n_k_5 o_p0 (by decide)
      refine lv_aload_n hx hb dX10_isOne_30 rfl (lv_at hl 0 rfl) ?_
      refine tg_mem (ci := 10) (C := RX10) (T := TX10) (N := 49) hx hb hts inX10 hown hK hw 13 n_k_5 rfl (by decide) (hts _ tw_1150) (fun _ h9 => h9) dX10_isOne_31 ?_
      refine lv_iconst (v := (-1)) hx hb dX10_isOne_34 (by decide) ?_
      refine lv_icmp_ne (tgt := 46) hx hb dX10_isOne_35 (by decide) (fun c_35 => ?_) (fun c_35 => ?_)
      · exact absurd (r_v_4.eq.trans rl_m1.eq.symm) ((ti_ne c_35))
      · refine lv_aload_n hx hb dX10_isOne_38 rfl (lv_at hl 0 rfl) ?_
        refine lv_iconst (v := 3) hx hb dX10_isOne_39 (by decide) ?_
        have hw8 := hw
        refine tk_i (va_runV (As := [.int 3]) (rest := []) ⟨hx, hb, hml, hown, hts⟩ (c_X10_bad__1 l D cy z H.size Ps ws hw.1 p0 3 sg_6 h_p0 (rl_3.to (by decide)) o_p0) (cwV 1 hts (gV tw_1336 tw_1338 ts_46 tw_15 tw_1339) rfl rfl rfl (by decide +kernel) ⟨Nat.le_of_ble_eq_true rfl, Nat.le_of_ble_eq_true rfl⟩) (tg_preV hw hK hSD hA (ci := 10) (q := (RX10, TX10, 49)) rfl h_p0 rfl) rfl rfl hl.1 rfl (lv_room (Nat.le_of_ble_eq_true rfl)) dX10_isOne_40 ⟨Nat.le_of_ble_eq_true rfl, Nat.le_of_ble_eq_true rfl⟩) hw hA ⟨by decide, by decide⟩ (fun v_7 ws H locs hp_v_7 hw hF9 => ?_)
        have m_u_2 := FLD.over hF9 m_u_2 (by decide)
        have m_u_3 := FLD.over hF9 m_u_3 (by decide)
        have n_k_5 := FLD.over hF9 n_k_5 (by decide)
        have x_NF_vu_2_p1_p2_vu_3 := NFD.over hw8 hF9 h_vu_2 x_NF_vu_2_p1_p2_vu_3 (by decide)
        obtain ⟨hfn, hp_v_7⟩ := hp_v_7
        obtain ⟨sg_8, q_sg_8⟩ : ∃ q9 : OS, (f_X10_bad__1 (3 : Int32) sg_6).1 = q9 := ⟨_, rfl⟩
        have o_p0 : OV vw_MODEL Ps ws p0 sg_8 := by rw [← q_sg_8]; exact hfn.1
        have q_v_7 : (f_X10_bad__1 (3 : Int32) sg_6).2 = v_7 := hfn.2.1
        have r_v_7 : RI v_7 0 0 := hp_v_7.1
        refine lv_if_eq (tgt := 50) hx hb dX10_isOne_43 (by decide) (fun c_43 => ?_) (fun c_43 => ?_)
        · refine lv_iconst (v := 0) hx hb dX10_isOne_50 (by decide) ?_
          simp only [f_X10_isOne__4, ↓reduceIte, q_v_1, eq_false c_4, q_vu_3, q_v_4, eq_true c9_v_4, q_sg_6, eq_true c_35, q_sg_8, q_v_7, eq_true c_43] at hE
          subst hQ
          exact W.zret (v := 0) hx hb hr (rfl) (fun t ht hW => ⟨⟨0, ws, rfl, ⟨⟨⟨(by rw [hR, ← hE]; exact o_p0), (by rw [hR, ← hE]), trivial⟩, rl_0.to (by decide), (fun h0 => trivial), (fun h0 => absurd rfl h0)⟩, hw.1, hw.2.2.2.2.1⟩, by rw [ht]; exact hw.2.1, va_K.moved hW.alike hK, hw.2.2.1⟩, hw.2.2.2.1.F ht⟩) hw.2.2.2.1.2.2 dX10_isOne_51
        · exact absurd (r_v_7.eq.trans rl_0.eq.symm) ((ti_ne c_43))
    · have r_v_4 : RI v_4 0 3 := by unfold RI at r_v_4 ⊢; omega
      have x_FD_vu_2_p1_p2_vu_3 := (hp_v_4.2.2.2.2.2 (by omega)).1
      have x_POS_p2 := (hp_v_4.2.2.2.2.2 (by omega)).2.1
      have r_p2 : RI p2 1 4 := ⟨x_POS_p2, r_p2.2⟩
      have hw8 := hw
      refine tg_put (ci := 10) (ts := ty_MODEL) (v := .int v_4) (ty := .int) (C := RX10) (T := TX10) (N := 49) hx hb hts inX10 tyX10 tyX10_ok nmX10 hown hK hw h_p0 rfl rfl 13 (by decide) (hts _ tw_1150) (fun _ h9 => h9) rfl (by decide +kernel) rfl rfl (ft := vI (-2147483648) 2147483647) rfl ⟨_, rfl, (r_v_4.to (by decide))⟩ (by decide) dX10_isOne_27 (fun ws H locs hw n_k_9 hF9 => ?_)
      have m_u_2 := FLD.over hF9 m_u_2 (by decide)
      have m_u_3 := FLD.over hF9 m_u_3 (by decide)
      have x_FD_vu_2_p1_p2_vu_3 := FDD.over hw8 hF9 h_vu_2 x_FD_vu_2_p1_p2_vu_3 (by decide)
      obtain ⟨sg_10, q_sg_10⟩ : ∃ q9 : OS, sI s0 13 v_4 = q9 := ⟨_, rfl⟩
      have o_p0 : OV vw_MODEL Ps ws p0 sg_10 := by rw [← q_sg_10]; exact OV.putI (V := vw_MODEL) hF9 n_k_9 o_p0 (by decide)
      refine lv_aload_n hx hb dX10_isOne_30 rfl (lv_at hl 0 rfl) ?_
      refine tg_mem (ci := 10) (C := RX10) (T := TX10) (N := 49) hx hb hts inX10 hown hK hw 13 n_k_9 rfl (by decide) (hts _ tw_1150) (fun _ h9 => h9) dX10_isOne_31 ?_
      refine lv_iconst (v := (-1)) hx hb dX10_isOne_34 (by decide) ?_
      refine lv_icmp_ne (tgt := 46) hx hb dX10_isOne_35 (by decide) (fun c_35 => ?_) (fun c_35 => ?_)
      · refine lv_iconst (v := 1) hx hb dX10_isOne_46 (by decide) ?_
        refine lv_goto (tgt := 51) hx hb dX10_isOne_47 (by decide) ?_
        simp only [f_X10_isOne__4, ↓reduceIte, q_v_1, eq_false c_4, q_vu_3, q_v_4, eq_false c9_v_4, q_sg_10, eq_false c_35] at hE
        subst hQ
        exact W.zret (v := 1) hx hb hr (rfl) (fun t ht hW => ⟨⟨1, ws, rfl, ⟨⟨⟨(by rw [hR, ← hE]; exact o_p0), (by rw [hR, ← hE]), trivial⟩, rl_1.to (by decide), (fun _ => trivial), (fun h0 => ⟨r_p2, ⟨_, n_k_9, r_v_4⟩, trivial⟩)⟩, hw.1, hw.2.2.2.2.1⟩, by rw [ht]; exact hw.2.1, va_K.moved hW.alike hK, hw.2.2.1⟩, hw.2.2.2.1.F ht⟩) hw.2.2.2.1.2.2 dX10_isOne_51
      · have r_v_4 : RI v_4 0 (-1) := rc_eq1 r_v_4 rl_m1 (ti_eq c_35) (by decide)
        exact (r_v_4.no (by decide)).elim
  · have r_v_1 : RI v_1 0 0 := rc_eq1 r_v_1 rl_0 (ti_eq c_4) (by decide)
    refine lv_aload_n hx hb dX10_isOne_7 rfl (lv_at hl 0 rfl) ?_
    refine lv_iconst (v := 1) hx hb dX10_isOne_8 (by decide) ?_
    refine tk_i (va_runV (As := [.int 1]) (rest := []) ⟨hx, hb, hml, hown, hts⟩ (c_X10_bad__1 l D cy z H.size Ps w0 hw.1 p0 1 s0 h_p0 (rl_1.to (by decide)) o_p0) (cwV 1 hts (gV tw_1336 tw_1338 ts_46 tw_15 tw_1339) rfl rfl rfl (by decide +kernel) ⟨Nat.le_of_ble_eq_true rfl, Nat.le_of_ble_eq_true rfl⟩) (tg_preV hw hK hSD hA (ci := 10) (q := (RX10, TX10, 49)) rfl h_p0 rfl) rfl rfl hl.1 rfl (lv_room (Nat.le_of_ble_eq_true rfl)) dX10_isOne_9 ⟨Nat.le_of_ble_eq_true rfl, Nat.le_of_ble_eq_true rfl⟩) hw hA ⟨by decide, by decide⟩ (fun v_11 ws H locs hp_v_11 hw hF9 => ?_)
    obtain ⟨hfn, hp_v_11⟩ := hp_v_11
    obtain ⟨sg_12, q_sg_12⟩ : ∃ q9 : OS, (f_X10_bad__1 (1 : Int32) s0).1 = q9 := ⟨_, rfl⟩
    have o_p0 : OV vw_MODEL Ps ws p0 sg_12 := by rw [← q_sg_12]; exact hfn.1
    have q_v_11 : (f_X10_bad__1 (1 : Int32) s0).2 = v_11 := hfn.2.1
    have r_v_11 : RI v_11 0 0 := hp_v_11.1
    simp only [f_X10_isOne__4, ↓reduceIte, q_v_1, eq_true c_4, q_sg_12, q_v_11] at hE
    subst hQ
    exact W.zret (v := v_11) hx hb hr (tq_nz (r_v_11.to (by decide))) (fun t ht hW => ⟨⟨v_11, ws, rfl, ⟨⟨⟨(by rw [hR, ← hE]; exact o_p0), (by rw [hR, ← hE]), trivial⟩, r_v_11.to (by decide), (fun h0 => trivial), (fun h0 => absurd (Int32.toInt_inj.mp (by have h8 := r_v_11; unfold RI at h8; rw [Int32.toInt_zero]; omega)) h0)⟩, hw.1, hw.2.2.2.2.1⟩, by rw [ht]; exact hw.2.1, va_K.moved hW.alike hK, hw.2.2.1⟩, hw.2.2.2.1.F ht⟩) hw.2.2.2.1.2.2 dX10_isOne_12
abbrev wr_X10_readOne__5 : List (Nat × Nat) := [(10, 5), (10, 6), (10, 7), (10, 8), (10, 9), (10, 10), (10, 11), (10, 12), (10, 13)]
abbrev wa_X10_readOne__5 : List Nat := []
set_option maxHeartbeats 4000000 in
set_option maxRecDepth 100000 in
theorem c_X10_readOne__5 (l : Launch) (D : va_G) (cy : Nat → ClassId) (z : Nat → Nat) (sz : Nat) (Ps : PSI) (w0 : va_W) (hT : HT cy GG Ps w0) (p0 : Nat) (p1 : Int32) (p2 : Int32) (gh : Int) (s0 : OS) (h_p0 : (p0, 55) ∈ Ps) (r_p1 : RI p1 6 6) (r_p2 : RI p2 0 4) (x_TO_p0_gh : TOP w0 p0 (gh)) (o_p0 : OV vw_MODEL Ps w0 p0 s0) : Met l yX10_readOne (Cond.code yX10_readOne cX10_readOne 3 (some .boolean) :: gT) ({ frames := 5, cells := 0, slots := 0, locals := 1000 } : Room) (va_Pc [.ref p0, .int p1, .int p2] (PRE D cy z w0 sz)) (va_Qi (fun (r : Int32) (u : va_W) => ((OV vw_MODEL Ps u p0 ((f_X10_readOne__3 p1 p2 s0).1) ∧ (f_X10_readOne__3 p1 p2 s0).2 = r ∧ True) ∧ (RI r 0 1 ∧ (r = 0 → True) ∧ (¬ r = 0 → RI p2 1 4 ∧ (∃ v9 : Int32, FLD u p0 10 13 (.int v9) ∧ RI v9 0 3) ∧ TKP u p0 (gh) ∧ True))) ∧ HT cy GG Ps u ∧ FR wr_X10_readOne__5 wa_X10_readOne__5 Ps w0 u) (BB D cy (va_A w0 sz) (fun (u : va_W) => u)) (va_A w0 sz)) 0 0 (va_A w0 sz) := by
  refine Met.ofW (cc := cX10_readOne) (maxL := 3) (ret := (some .boolean)) (by decide) rfl ?_
  intro p e s m args below meth c s₁ B hml hv
  obtain ⟨rfl, hsz, hP, hK, hD0, hSD⟩ := hv
  have hx := B.exec
  have hb := B.bytes
  have hr := B.returns
  have hlocks := B.notSynchronized
  have hts : ∀ w ∈ gT, w.before _ s = true := fun w h => atoms_spec (ws := Cond.code yX10_readOne cX10_readOne 3 (some .boolean) :: gT) B.pre w (List.mem_cons_of_mem _ h)
  have hown : s.vm.findClass RX10 = some m.cls := findClass_of_methodNamed B.named
  subst hsz
  have hD := hD0.self (sz := s.heap.size)
  generalize hAe : va_A w0 s.heap.size = A at hD hSD ⊢
  have hA : ∀ q : Nat, s.heap.size ≤ q → A q := fun q h => by rw [← hAe]; exact Or.inr h
  have hl := lv_entry ([.ref p0, .int p1, .int p2]) (n := 3) (Nat.le_of_ble_eq_true rfl)
  rw [lg_entry_eq]
  generalize (lg_sl ([.ref p0, .int p1, .int p2]) ++ List.replicate (3 - (lg_sl ([.ref p0, .int p1, .int p2])).length) Slot.unset).toArray = ls at hl ⊢
  have hl : lv_has ls 3 [(0, .ref p0), (1, .int p1), (2, .int p2)] := hl
  refine nameQ (fun Q hQ => ?_)
  have hw : WD D cy GG A s wr_X10_readOne__5 wa_X10_readOne__5 Ps w0 Ps w0 s.heap [] := ⟨hT, hP, hD, va_S.rf, FR.rf, hT.1, [], (List.append_nil _).symm⟩
  obtain ⟨R9, hR⟩ : ∃ q9 : OS × Int32, f_X10_readOne__3 p1 p2 s0 = q9 := ⟨_, rfl⟩
  have hE := hR
  refine lv_aload_n hx hb dX10_readOne_0 rfl (lv_at hl 0 rfl) ?_
  refine lv_iload_n hx hb dX10_readOne_1 rfl (lv_at hl 1 rfl) ?_
  refine lv_iload_n hx hb dX10_readOne_2 rfl (lv_at hl 2 rfl) ?_
  refine tk_i (va_runV (As := [.int p1, .int p2]) (rest := []) ⟨hx, hb, hml, hown, hts⟩ (c_X10_isOne__7 l D cy z s.heap.size Ps w0 hw.1 p0 p1 p2 s0 h_p0 r_p1 r_p2 o_p0) (cwV 2 hts (gV tw_1378 tw_1380 ts_55 tw_15 tw_1381) rfl rfl rfl (by decide +kernel) ⟨Nat.le_of_ble_eq_true rfl, Nat.le_of_ble_eq_true rfl⟩) (tg_preV hw hK hSD hA (ci := 10) (q := (RX10, TX10, 49)) rfl h_p0 rfl) rfl rfl hl.1 rfl (lv_room (Nat.le_of_ble_eq_true rfl)) dX10_readOne_3 ⟨Nat.le_of_ble_eq_true rfl, Nat.le_of_ble_eq_true rfl⟩) hw hA ⟨by decide, by decide⟩ (fun v_1 ws H locs hp_v_1 hw hF9 => ?_)
  have x_TO_p0_gh := TOP.over hF9 x_TO_p0_gh (by decide)
  obtain ⟨hfn, hp_v_1⟩ := hp_v_1
  obtain ⟨sg_2, q_sg_2⟩ : ∃ q9 : OS, (f_X10_isOne__4 p1 p2 s0).1 = q9 := ⟨_, rfl⟩
  have o_p0 : OV vw_MODEL Ps ws p0 sg_2 := by rw [← q_sg_2]; exact hfn.1
  have q_v_1 : (f_X10_isOne__4 p1 p2 s0).2 = v_1 := hfn.2.1
  have r_v_1 : RI v_1 0 1 := hp_v_1.1
  by_cases c9_v_1 : v_1 = 0
  · have r_v_1 : RI v_1 0 0 := by rw [c9_v_1]; exact rl_0
    refine lv_if_ne (tgt := 11) hx hb dX10_readOne_6 (by decide) (fun c_6 => ?_) (fun c_6 => ?_)
    · exact absurd (r_v_1.eq.trans rl_0.eq.symm) ((ti_ne c_6))
    · refine lv_iconst (v := 0) hx hb dX10_readOne_9 (by decide) ?_
      simp only [f_X10_readOne__3, ↓reduceIte, q_sg_2, q_v_1, eq_true c9_v_1, eq_true c_6] at hE
      subst hQ
      exact W.zret (v := 0) hx hb hr (rfl) (fun t ht hW => ⟨⟨0, ws, rfl, ⟨⟨⟨(by rw [hR, ← hE]; exact o_p0), (by rw [hR, ← hE]), trivial⟩, rl_0.to (by decide), (fun h0 => trivial), (fun h0 => absurd rfl h0)⟩, hw.1, hw.2.2.2.2.1⟩, by rw [ht]; exact hw.2.1, va_K.moved hW.alike hK, hw.2.2.1⟩, hw.2.2.2.1.F ht⟩) hw.2.2.2.1.2.2 dX10_readOne_10
  · have r_v_1 : RI v_1 1 1 := rc_neL r_v_1 rl_0 (ti_ne c9_v_1) (by decide)
    have r_p2 : RI p2 1 4 := ((hp_v_1.2.2 c9_v_1).1)
    obtain ⟨v_3, m_v_3, r_v_3⟩ := ((hp_v_1.2.2 c9_v_1).2.1)
    refine lv_if_ne (tgt := 11) hx hb dX10_readOne_6 (by decide) (fun c_6 => ?_) (fun c_6 => ?_)
    · refine lv_aload_n hx hb dX10_readOne_11 rfl (lv_at hl 0 rfl) ?_
      refine tk_v (va_runV (As := []) (rest := []) ⟨hx, hb, hml, hown, hts⟩ (c_X10_go__2 l D cy z H.size Ps ws hw.1 p0 (gh) sg_2 h_p0 x_TO_p0_gh o_p0) (cwV 0 hts (gV tw_1298 tw_1300 ts_40 tw_15 tw_1301) rfl rfl rfl (by decide +kernel) ⟨Nat.le_of_ble_eq_true rfl, Nat.le_of_ble_eq_true rfl⟩) (tg_preV hw hK hSD hA (ci := 10) (q := (RX10, TX10, 49)) rfl h_p0 rfl) rfl rfl hl.1 rfl (lv_room (Nat.le_of_ble_eq_true rfl)) dX10_readOne_12 ⟨Nat.le_of_ble_eq_true rfl, Nat.le_of_ble_eq_true rfl⟩) hw hA ⟨by decide, by decide⟩ (fun ws H locs hp_v_4 hw hF9 => ?_)
      have m_v_3 := FLD.over hF9 m_v_3 (by decide)
      obtain ⟨hfn, hp_v_4⟩ := hp_v_4
      obtain ⟨sg_5, q_sg_5⟩ : ∃ q9 : OS, (f_X10_go__2 sg_2) = q9 := ⟨_, rfl⟩
      have o_p0 : OV vw_MODEL Ps ws p0 sg_5 := by rw [← q_sg_5]; exact hfn.1
      have x_TOK_p0_gh := (hp_v_4.1)
      refine lv_iconst (v := 1) hx hb dX10_readOne_15 (by decide) ?_
      simp only [f_X10_readOne__3, ↓reduceIte, q_sg_2, q_v_1, eq_false c9_v_1, eq_false c_6, q_sg_5] at hE
      subst hQ
      exact W.zret (v := 1) hx hb hr (rfl) (fun t ht hW => ⟨⟨1, ws, rfl, ⟨⟨⟨(by rw [hR, ← hE]; exact o_p0), (by rw [hR, ← hE]), trivial⟩, rl_1.to (by decide), (fun _ => trivial), (fun h0 => ⟨r_p2, ⟨_, m_v_3, r_v_3⟩, x_TOK_p0_gh, trivial⟩)⟩, hw.1, hw.2.2.2.2.1⟩, by rw [ht]; exact hw.2.1, va_K.moved hW.alike hK, hw.2.2.1⟩, hw.2.2.2.1.F ht⟩) hw.2.2.2.1.2.2 dX10_readOne_16
    · have r_v_1 : RI v_1 1 0 := rc_eq1 r_v_1 rl_0 (ti_eq c_6) (by decide)
      exact (r_v_1.no (by decide)).elim
abbrev wr_X10_put__28 : List (Nat × Nat) := []
abbrev wa_X10_put__28 : List Nat := []
set_option maxHeartbeats 4000000 in
set_option maxRecDepth 100000 in
theorem c_X10_put__28 (l : Launch) (D : va_G) (cy : Nat → ClassId) (z : Nat → Nat) (sz : Nat) (Ps : PSI) (w0 : va_W) (hT : HT cy GG Ps w0) (p0 : Nat) (p1 : Int32) (p2 : Int32) (F : (Nat → Int32) → Prop) (F2 : (Nat → Int32) → Prop) (s0 : OS) (h_p0 : (p0, 55) ∈ Ps) (r_p1 : RI p1 18 23) (r_p2 : RI p2 0 0) (x_F : AX 15 35 F Ps w0 p0) (hF : ∀ (f : Nat → Int32) (v : Int32), RI v (-2147483648) 2147483647 → F f → F2 (upd f (Int32.toNatClampNeg p1) v)) (o_p0 : OV vw_MODEL Ps w0 p0 s0) : Met l yX10_put (Cond.code yX10_put cX10_put 3 (some .boolean) :: gT) ({ frames := 0, cells := 0, slots := 0, locals := 200 } : Room) (va_Pc [.ref p0, .int p1, .int p2] (PRE D cy z w0 sz)) (va_Qi (fun (r : Int32) (u : Unit) => ((f_X10_put__16 p1 p2 s0) = r ∧ True) ∧ (RI r 0 0 ∧ (r = 0 → AX 15 35 F Ps w0 p0 ∧ True) ∧ (¬ r = 0 → AX 15 35 F2 Ps w0 p0 ∧ True))) (BB D cy (va_A w0 sz) (fun (u : Unit) => w0)) (va_A w0 sz)) 0 0 (va_A w0 sz) := by
  refine Met.ofW (cc := cX10_put) (maxL := 3) (ret := (some .boolean)) (by decide) rfl ?_
  intro p e s m args below meth c s₁ B hml hv
  obtain ⟨rfl, hsz, hP, hK, hD0, hSD⟩ := hv
  have hx := B.exec
  have hb := B.bytes
  have hr := B.returns
  have hlocks := B.notSynchronized
  have hts : ∀ w ∈ gT, w.before _ s = true := fun w h => atoms_spec (ws := Cond.code yX10_put cX10_put 3 (some .boolean) :: gT) B.pre w (List.mem_cons_of_mem _ h)
  have hown : s.vm.findClass RX10 = some m.cls := findClass_of_methodNamed B.named
  subst hsz
  have hD := hD0.self (sz := s.heap.size)
  generalize hAe : va_A w0 s.heap.size = A at hD hSD ⊢
  have hA : ∀ q : Nat, s.heap.size ≤ q → A q := fun q h => by rw [← hAe]; exact Or.inr h
  have hl := lv_entry ([.ref p0, .int p1, .int p2]) (n := 3) (Nat.le_of_ble_eq_true rfl)
  rw [lg_entry_eq]
  generalize (lg_sl ([.ref p0, .int p1, .int p2]) ++ List.replicate (3 - (lg_sl ([.ref p0, .int p1, .int p2])).length) Slot.unset).toArray = ls at hl ⊢
  have hl : lv_has ls 3 [(0, .ref p0), (1, .int p1), (2, .int p2)] := hl
  refine nameQ (fun Q hQ => ?_)
  have hw : WD D cy GG A s wr_X10_put__28 wa_X10_put__28 Ps w0 Ps w0 s.heap [] := ⟨hT, hP, hD, va_S.rf, FR.rf, hT.1, [], (List.append_nil _).symm⟩
  obtain ⟨R9, hR⟩ : ∃ q9 : Int32, f_X10_put__16 p1 p2 s0 = q9 := ⟨_, rfl⟩
  have hE := hR
  refine lv_iload_n hx hb dX10_put_0 rfl (lv_at hl 2 rfl) ?_
  refine lv_if_eq (tgt := 14) hx hb dX10_put_1 (by decide) (fun c_1 => ?_) (fun c_1 => ?_)
  · refine lv_iload_n hx hb dX10_put_14 rfl (lv_at hl 2 rfl) ?_
    simp only [f_X10_put__16, ↓reduceIte, eq_true c_1] at hE
    subst hQ
    exact W.zret (v := p2) hx hb hr (tq_nz (r_p2.to (by decide))) (fun t ht hW => ⟨⟨p2, (), rfl, ⟨⟨(by rw [hR, ← hE]), trivial⟩, r_p2.to (by decide), (fun h0 => ⟨x_F, trivial⟩), (fun h0 => absurd (Int32.toInt_inj.mp (by have h8 := r_p2; unfold RI at h8; rw [Int32.toInt_zero]; omega)) h0)⟩, by rw [ht]; exact hw.2.1, va_K.moved hW.alike hK, hw.2.2.1⟩, hw.2.2.2.1.F ht⟩) hw.2.2.2.1.2.2 dX10_put_15
  · exact absurd (r_p2.eq.trans rl_0.eq.symm) ((ti_ne c_1))
abbrev wr_X10_put__29 : List (Nat × Nat) := []
abbrev wa_X10_put__29 : List Nat := [35]
set_option maxHeartbeats 4000000 in
set_option maxRecDepth 100000 in
theorem c_X10_put__29 (l : Launch) (D : va_G) (cy : Nat → ClassId) (z : Nat → Nat) (sz : Nat) (Ps : PSI) (w0 : va_W) (hT : HT cy GG Ps w0) (p0 : Nat) (p1 : Int32) (p2 : Int32) (f0_13 : Int32) (F : (Nat → Int32) → Prop) (F2 : (Nat → Int32) → Prop) (s0 : OS) (h_p0 : (p0, 55) ∈ Ps) (r_p1 : RI p1 18 23) (r_p2 : RI p2 1 1) (r_f0_13 : RI f0_13 0 3) (m_f0_13 : FLD w0 p0 10 13 (.int f0_13)) (x_F : AX 15 35 F Ps w0 p0) (hF : ∀ (f : Nat → Int32) (v : Int32), RI v 0 3 → F f → F2 (upd f (Int32.toNatClampNeg p1) v)) (o_p0 : OV vw_MODEL Ps w0 p0 s0) : Met l yX10_put (Cond.code yX10_put cX10_put 3 (some .boolean) :: gT) ({ frames := 0, cells := 0, slots := 0, locals := 200 } : Room) (va_Pc [.ref p0, .int p1, .int p2] (PRE D cy z w0 sz)) (va_Qi (fun (r : Int32) (u : va_W) => ((OV vw_MODEL Ps u p0 ((f_X10_put__17 p1 p2 s0).1) ∧ (f_X10_put__17 p1 p2 s0).2 = r ∧ True) ∧ (RI r 1 1 ∧ (r = 0 → AX 15 35 F Ps u p0 ∧ True) ∧ (¬ r = 0 → (∃ v9 : Int32, FLD u p0 10 13 (.int v9) ∧ RI v9 0 3) ∧ AX 15 35 F2 Ps u p0 ∧ True))) ∧ HT cy GG Ps u ∧ FR wr_X10_put__29 wa_X10_put__29 Ps w0 u) (BB D cy (va_A w0 sz) (fun (u : va_W) => u)) (va_A w0 sz)) 0 0 (va_A w0 sz) := by
  refine Met.ofW (cc := cX10_put) (maxL := 3) (ret := (some .boolean)) (by decide) rfl ?_
  intro p e s m args below meth c s₁ B hml hv
  obtain ⟨rfl, hsz, hP, hK, hD0, hSD⟩ := hv
  have hx := B.exec
  have hb := B.bytes
  have hr := B.returns
  have hlocks := B.notSynchronized
  have hts : ∀ w ∈ gT, w.before _ s = true := fun w h => atoms_spec (ws := Cond.code yX10_put cX10_put 3 (some .boolean) :: gT) B.pre w (List.mem_cons_of_mem _ h)
  have hown : s.vm.findClass RX10 = some m.cls := findClass_of_methodNamed B.named
  subst hsz
  have hD := hD0.self (sz := s.heap.size)
  generalize hAe : va_A w0 s.heap.size = A at hD hSD ⊢
  have hA : ∀ q : Nat, s.heap.size ≤ q → A q := fun q h => by rw [← hAe]; exact Or.inr h
  have hl := lv_entry ([.ref p0, .int p1, .int p2]) (n := 3) (Nat.le_of_ble_eq_true rfl)
  rw [lg_entry_eq]
  generalize (lg_sl ([.ref p0, .int p1, .int p2]) ++ List.replicate (3 - (lg_sl ([.ref p0, .int p1, .int p2])).length) Slot.unset).toArray = ls at hl ⊢
  have hl : lv_has ls 3 [(0, .ref p0), (1, .int p1), (2, .int p2)] := hl
  refine nameQ (fun Q hQ => ?_)
  have hw : WD D cy GG A s wr_X10_put__29 wa_X10_put__29 Ps w0 Ps w0 s.heap [] := ⟨hT, hP, hD, va_S.rf, FR.rf, hT.1, [], (List.append_nil _).symm⟩
  obtain ⟨R9, hR⟩ : ∃ q9 : OS × Int32, f_X10_put__17 p1 p2 s0 = q9 := ⟨_, rfl⟩
  have hE := hR
  refine lv_iload_n hx hb dX10_put_0 rfl (lv_at hl 2 rfl) ?_
  refine lv_if_eq (tgt := 14) hx hb dX10_put_1 (by decide) (fun c_1 => ?_) (fun c_1 => ?_)
  · have r_p2 : RI p2 1 0 := rc_eq1 r_p2 rl_0 (ti_eq c_1) (by decide)
    exact (r_p2.no (by decide)).elim
  · refine lv_aload_n hx hb dX10_put_4 rfl (lv_at hl 0 rfl) ?_
    refine tg_get (ci := 10) (ts := ty_MODEL) (C := RX10) (T := TX10) (N := 49) hx hb hts inX10 hown hK hw h_p0 rfl rfl 15 (by decide) (hts _ tw_1152) (fun _ h9 => h9) (ft := vR 35) rfl dX10_put_5 (fun u_1 hv_u_1 m_u_1 => ?_)
    obtain ⟨vu_1, rfl, h_vu_1⟩ := hv_u_1
    refine lv_iload_n hx hb dX10_put_8 rfl (lv_at hl 1 rfl) ?_
    refine lv_aload_n hx hb dX10_put_9 rfl (lv_at hl 0 rfl) ?_
    refine tg_mem (ci := 10) (C := RX10) (T := TX10) (N := 49) hx hb hts inX10 hown hK hw 13 m_f0_13 rfl (by decide) (hts _ tw_1150) (fun _ h9 => h9) dX10_put_10 ?_
    have q_f0_13 : s0.1 13 = f0_13 := OV.eqI (V := vw_MODEL) hw.2.2.1 o_p0 m_f0_13 (by decide)
    have mo9 := m_u_1
    refine tg_iast hx hb hK hw h_vu_1 rfl 18 23 r_p1 (by decide) r_f0_13 (by decide +kernel) (fun _ _ _ _ _ => trivial) (by decide) dX10_put_13 (fun ws H locs hw hF9 hU9 => ?_)
    have x_GFRB_p0 : AX 15 35 F2 Ps ws p0 := AX.ast hF9 hU9 x_F m_u_1 (fun f9 h9 => hF f9 _ r_f0_13 h9)
    have m_f0_13 := FLD.over hF9 m_f0_13 (by decide)
    have m_u_1 := FLD.over hF9 m_u_1 (by decide)
    obtain ⟨sg_2, q_sg_2⟩ : ∃ q9 : OS, sA s0 15 (Int32.toNatClampNeg p1) f0_13 = q9 := ⟨_, rfl⟩
    have o_p0 : OV vw_MODEL Ps ws p0 sg_2 := by rw [← q_sg_2]; exact OV.putA (V := vw_MODEL) (t := 35) hF9 hU9 o_p0 mo9 (by decide) (by decide)
    refine lv_iload_n hx hb dX10_put_14 rfl (lv_at hl 2 rfl) ?_
    simp only [f_X10_put__17, ↓reduceIte, eq_false c_1, q_f0_13, q_sg_2] at hE
    subst hQ
    exact W.zret (v := p2) hx hb hr (tq_nz (r_p2.to (by decide))) (fun t ht hW => ⟨⟨p2, ws, rfl, ⟨⟨⟨(by rw [hR, ← hE]; exact o_p0), (by rw [hR, ← hE]), trivial⟩, r_p2.to (by decide), (fun h0 => absurd (ti_eq h0) (by have h8 := r_p2; unfold RI at h8; rw [Int32.toInt_zero]; omega)), (fun h0 => ⟨⟨_, m_f0_13, r_f0_13⟩, x_GFRB_p0, trivial⟩)⟩, hw.1, hw.2.2.2.2.1⟩, by rw [ht]; exact hw.2.1, va_K.moved hW.alike hK, hw.2.2.1⟩, hw.2.2.2.1.F ht⟩) hw.2.2.2.1.2.2 dX10_put_15
abbrev wr_X10_readParcel__1 : List (Nat × Nat) := [(10, 5), (10, 6), (10, 7), (10, 8), (10, 9), (10, 10), (10, 11), (10, 12), (10, 13)]
abbrev wa_X10_readParcel__1 : List Nat := [35, 42]
set_option maxHeartbeats 4000000 in
set_option maxRecDepth 100000 in
theorem c_X10_readParcel__1 (l : Launch) (D : va_G) (cy : Nat → ClassId) (z : Nat → Nat) (sz : Nat) (Ps : PSI) (w0 : va_W) (hT : HT cy GG Ps w0) (p0 : Nat) (gh : Int) (s0 : OS) (h_p0 : (p0, 55) ∈ Ps) (x_TO_p0_gh : TOP w0 p0 (gh)) (x_RH_p0 : AX 15 35 (fun f => RH2p f) Ps w0 p0) (o_p0 : OV vw_MODEL Ps w0 p0 s0) : Met l yX10_readParcel (Cond.code yX10_readParcel cX10_readParcel 2 (some .boolean) :: gT) ({ frames := 6, cells := 0, slots := 0, locals := 1200 } : Room) (va_Pc [.ref p0] (PRE D cy z w0 sz)) (va_Qi (fun (r : Int32) (u : va_W) => ((OV vw_MODEL Ps u p0 ((f_X10_readParcel__1 s0).1) ∧ (f_X10_readParcel__1 s0).2 = r ∧ True) ∧ (RI r 0 1 ∧ (r = 0 → True) ∧ (¬ r = 0 → (∃ v9 : Int32, FLD u p0 10 13 (.int v9) ∧ RI v9 0 3) ∧ TKP u p0 (gh) ∧ AX 15 35 (fun f => RH2p f) Ps u p0 ∧ True))) ∧ HT cy GG Ps u ∧ FR wr_X10_readParcel__1 wa_X10_readParcel__1 Ps w0 u) (BB D cy (va_A w0 sz) (fun (u : va_W) => u)) (va_A w0 sz)) 0 0 (va_A w0 sz) := by
  refine Met.ofW (cc := cX10_readParcel) (maxL := 2) (ret := (some .boolean)) (by decide) rfl ?_
  intro p e s m args below meth c s₁ B hml hv
  obtain ⟨rfl, hsz, hP, hK, hD0, hSD⟩ := hv
  have hx := B.exec
  have hb := B.bytes
  have hr := B.returns
  have hlocks := B.notSynchronized
  have hts : ∀ w ∈ gT, w.before _ s = true := fun w h => atoms_spec (ws := Cond.code yX10_readParcel cX10_readParcel 2 (some .boolean) :: gT) B.pre w (List.mem_cons_of_mem _ h)
  have hown : s.vm.findClass RX10 = some m.cls := findClass_of_methodNamed B.named
  subst hsz
  have hD := hD0.self (sz := s.heap.size)
  generalize hAe : va_A w0 s.heap.size = A at hD hSD ⊢
  have hA : ∀ q : Nat, s.heap.size ≤ q → A q := fun q h => by rw [← hAe]; exact Or.inr h
  have hl := lv_entry ([.ref p0]) (n := 2) (Nat.le_of_ble_eq_true rfl)
  rw [lg_entry_eq]
  generalize (lg_sl ([.ref p0]) ++ List.replicate (2 - (lg_sl ([.ref p0])).length) Slot.unset).toArray = ls at hl ⊢
  have hl : lv_has ls 2 [(0, .ref p0)] := hl
  refine nameQ (fun Q hQ => ?_)
  have hw : WD D cy GG A s wr_X10_readParcel__1 wa_X10_readParcel__1 Ps w0 Ps w0 s.heap [] := ⟨hT, hP, hD, va_S.rf, FR.rf, hT.1, [], (List.append_nil _).symm⟩
  obtain ⟨R9, hR⟩ : ∃ q9 : OS × Int32, f_X10_readParcel__1 s0 = q9 := ⟨_, rfl⟩
  have hE := hR
  refine lv_aload_n hx hb dX10_readParcel_0 rfl (lv_at hl 0 rfl) ?_
  refine lv_iconst (v := 2) hx hb dX10_readParcel_1 (by decide) ?_
  refine lv_bipush (v := 6) hx hb dX10_readParcel_2 (by decide) ?_
  refine tk_i (va_runV (As := [.int 2, .int 6]) (rest := []) ⟨hx, hb, hml, hown, hts⟩ (c_X10_readFirst__5 l D cy z s.heap.size Ps w0 hw.1 p0 2 6 (gh) s0 h_p0 rl_2 rl_6 x_TO_p0_gh o_p0) (cwV 2 hts (gV tw_1332 tw_1334 ts_45 tw_15 tw_1335) rfl rfl rfl (by decide +kernel) ⟨Nat.le_of_ble_eq_true rfl, Nat.le_of_ble_eq_true rfl⟩) (tg_preV hw hK hSD hA (ci := 10) (q := (RX10, TX10, 49)) rfl h_p0 rfl) rfl rfl hl.1 rfl (lv_room (Nat.le_of_ble_eq_true rfl)) dX10_readParcel_4 ⟨Nat.le_of_ble_eq_true rfl, Nat.le_of_ble_eq_true rfl⟩) hw hA ⟨by decide, by decide⟩ (fun v_1 ws H locs hp_v_1 hw hF9 => ?_)
  have x_RH_p0 := AX.over hF9 x_RH_p0 (by decide)
  obtain ⟨hfn, hp_v_1⟩ := hp_v_1
  obtain ⟨sg_2, q_sg_2⟩ : ∃ q9 : OS, (f_X10_readFirst__4 (2 : Int32) (6 : Int32) s0).1 = q9 := ⟨_, rfl⟩
  have o_p0 : OV vw_MODEL Ps ws p0 sg_2 := by rw [← q_sg_2]; exact hfn.1
  have q_v_1 : (f_X10_readFirst__4 (2 : Int32) (6 : Int32) s0).2 = v_1 := hfn.2.1
  have r_v_1 : RI v_1 0 1 := hp_v_1.1
  by_cases c9_v_1 : v_1 = 0
  · have r_v_1 : RI v_1 0 0 := by rw [c9_v_1]; exact rl_0
    refine lv_if_ne (tgt := 12) hx hb dX10_readParcel_7 (by decide) (fun c_7 => ?_) (fun c_7 => ?_)
    · exact absurd (r_v_1.eq.trans rl_0.eq.symm) ((ti_ne c_7))
    · refine lv_iconst (v := 0) hx hb dX10_readParcel_10 (by decide) ?_
      simp only [f_X10_readParcel__1, ↓reduceIte, q_sg_2, q_v_1, eq_true c9_v_1, eq_true c_7] at hE
      subst hQ
      exact W.zret (v := 0) hx hb hr (rfl) (fun t ht hW => ⟨⟨0, ws, rfl, ⟨⟨⟨(by rw [hR, ← hE]; exact o_p0), (by rw [hR, ← hE]), trivial⟩, rl_0.to (by decide), (fun h0 => trivial), (fun h0 => absurd rfl h0)⟩, hw.1, hw.2.2.2.2.1⟩, by rw [ht]; exact hw.2.1, va_K.moved hW.alike hK, hw.2.2.1⟩, hw.2.2.2.1.F ht⟩) hw.2.2.2.1.2.2 dX10_readParcel_11
  · have r_v_1 : RI v_1 1 1 := rc_neL r_v_1 rl_0 (ti_ne c9_v_1) (by decide)
    have x_TOK_p0_gh := ((hp_v_1.2.2 c9_v_1).1)
    have x_RLT_p0_2_6 := ((hp_v_1.2.2 c9_v_1).2.1)
    refine lv_if_ne (tgt := 12) hx hb dX10_readParcel_7 (by decide) (fun c_7 => ?_) (fun c_7 => ?_)
    · refine lv_aload_n hx hb dX10_readParcel_12 rfl (lv_at hl 0 rfl) ?_
      refine tg_get (ci := 10) (ts := ty_MODEL) (C := RX10) (T := TX10) (N := 49) hx hb hts inX10 hown hK hw h_p0 rfl rfl 15 (by decide) (hts _ tw_1152) (fun _ h9 => h9) (ft := vR 35) rfl dX10_readParcel_13 (fun u_3 hv_u_3 m_u_3 => ?_)
      obtain ⟨vu_3, rfl, h_vu_3⟩ := hv_u_3
      refine lv_iconst (v := 2) hx hb dX10_readParcel_16 (by decide) ?_
      refine tg_iald (lo := 0) (hi := 6) hx hb hK hw h_vu_3 rfl 2 2 rl_2 (by decide) (by decide +kernel) dX10_readParcel_17 (fun v_4 r_v_4 m_v_4 o_v_4 => ?_)
      have q_v_4 : sg_2.2.2.1 15 (Int32.toNatClampNeg (2 : Int32)) = v_4 := OV.eqA (V := vw_MODEL) (t := 35) hw.2.2.1 o_p0 m_u_3 m_v_4 (by decide)
      have r_v_4 : RI v_4 0 5 := by obtain ⟨f9, h9, q9, g9⟩ := AX.use hw x_RLT_p0_2_6 h_vu_3 rfl m_u_3; have e9 := g9 _ _ m_v_4; have j9 : Int32.toNatClampNeg 2 = 2 := (by decide); rw [j9] at e9; have h8 : (f9 2).toInt < 6 := h9; rw [e9] at h8; exact ⟨r_v_4.1, by omega⟩
      refine lv_istore_n (lv' := [(1, .int v_4), (0, .ref p0)]) hx hb dX10_readParcel_18 rfl hl (by decide) rfl (fun ls hl => ?_)
      refine lv_aload_n hx hb dX10_readParcel_19 rfl (lv_at hl 1 rfl) ?_
      refine lv_bipush (v := 10) hx hb dX10_readParcel_20 (by decide) ?_
      refine lv_iload_n hx hb dX10_readParcel_22 rfl (lv_at hl 0 rfl) ?_
      refine lv_iadd hx hb dX10_readParcel_23 (lv_topi (fun v_5 e_v_5 => ?_))
      obtain ⟨t_v_5, r_v_5⟩ := tq_add (lo := 10) (hi := 15) rl_10 r_v_4 (by decide +kernel) e_v_5
      have t_v_5 : v_5.toInt = 10 + v_4.toInt := t_v_5
      have q_v_5 : (10 : Int32) + v_4 = v_5 := e_v_5.symm
      have x_TO_p0_gh : TOP ws p0 (gh) := TKP.top x_TOK_p0_gh
      have hw8 := hw
      refine tk_i (va_runV (As := [.int v_5]) (rest := []) ⟨hx, hb, hml, hown, hts⟩ (c_X10_readNew__5 l D cy z H.size Ps ws hw.1 p0 v_5 (gh) sg_2 h_p0 r_v_5 x_TO_p0_gh o_p0) (cwV 1 hts (gV tw_1340 tw_1342 ts_47 tw_15 tw_1343) rfl rfl rfl (by decide +kernel) ⟨Nat.le_of_ble_eq_true rfl, Nat.le_of_ble_eq_true rfl⟩) (tg_preV hw hK hSD hA (ci := 10) (q := (RX10, TX10, 49)) rfl h_p0 rfl) rfl rfl hl.1 rfl (lv_room (Nat.le_of_ble_eq_true rfl)) dX10_readParcel_24 ⟨Nat.le_of_ble_eq_true rfl, Nat.le_of_ble_eq_true rfl⟩) hw hA ⟨by decide, by decide⟩ (fun v_6 ws H locs hp_v_6 hw hF9 => ?_)
      have m_v_4 := AEL.over hw8 hF9 h_vu_3 m_v_4 (by decide)
      have m_u_3 := FLD.over hF9 m_u_3 (by decide)
      have x_RH_p0 := AX.over hF9 x_RH_p0 (by decide)
      have x_RLT_p0_2_6 := AX.over hF9 x_RLT_p0_2_6 (by decide)
      obtain ⟨hfn, hp_v_6⟩ := hp_v_6
      obtain ⟨sg_7, q_sg_7⟩ : ∃ q9 : OS, (f_X10_readNew__4 v_5 sg_2).1 = q9 := ⟨_, rfl⟩
      have o_p0 : OV vw_MODEL Ps ws p0 sg_7 := by rw [← q_sg_7]; exact hfn.1
      have q_v_6 : (f_X10_readNew__4 v_5 sg_2).2 = v_6 := hfn.2.1
      have r_v_6 : RI v_6 0 1 := hp_v_6.1
      by_cases c9_v_6 : v_6 = 0
      · have r_v_6 : RI v_6 0 0 := by rw [c9_v_6]; exact rl_0
        refine lv_if_eq (tgt := 53) hx hb dX10_readParcel_27 (by decide) (fun c_27 => ?_) (fun c_27 => ?_)
        · refine lv_iconst (v := 0) hx hb dX10_readParcel_53 (by decide) ?_
          simp only [f_X10_readParcel__1, ↓reduceIte, q_sg_2, q_v_1, eq_false c9_v_1, eq_false c_7, q_v_4, q_v_5, q_sg_7, q_v_6, eq_true c9_v_6, eq_true c_27] at hE
          subst hQ
          exact W.zret (v := 0) hx hb hr (rfl) (fun t ht hW => ⟨⟨0, ws, rfl, ⟨⟨⟨(by rw [hR, ← hE]; exact o_p0), (by rw [hR, ← hE]), trivial⟩, rl_0.to (by decide), (fun h0 => trivial), (fun h0 => absurd rfl h0)⟩, hw.1, hw.2.2.2.2.1⟩, by rw [ht]; exact hw.2.1, va_K.moved hW.alike hK, hw.2.2.1⟩, hw.2.2.2.1.F ht⟩) hw.2.2.2.1.2.2 dX10_readParcel_54
        · exact absurd (r_v_6.eq.trans rl_0.eq.symm) ((ti_ne c_27))
      · have r_v_6 : RI v_6 1 1 := rc_neL r_v_6 rl_0 (ti_ne c9_v_6) (by decide)
        have x_TOK_p0_gh := ((hp_v_6.2.2 c9_v_6).1)
        refine lv_if_eq (tgt := 53) hx hb dX10_readParcel_27 (by decide) (fun c_27 => ?_) (fun c_27 => ?_)
        · have r_v_6 : RI v_6 1 0 := rc_eq1 r_v_6 rl_0 (ti_eq c_27) (by decide)
          exact (r_v_6.no (by decide)).elim
        · refine lv_aload_n hx hb dX10_readParcel_30 rfl (lv_at hl 1 rfl) ?_
          refine lv_bipush (v := 18) hx hb dX10_readParcel_31 (by decide) ?_
          refine lv_iload_n hx hb dX10_readParcel_33 rfl (lv_at hl 0 rfl) ?_
          refine lv_iadd hx hb dX10_readParcel_34 (lv_topi (fun v_8 e_v_8 => ?_))
          obtain ⟨t_v_8, r_v_8⟩ := tq_add (lo := 18) (hi := 23) rl_18 r_v_4 (by decide +kernel) e_v_8
          have t_v_8 : v_8.toInt = 18 + v_4.toInt := t_v_8
          have q_v_8 : (18 : Int32) + v_4 = v_8 := e_v_8.symm
          refine lv_aload_n hx hb dX10_readParcel_35 rfl (lv_at hl 1 rfl) ?_
          refine lv_bipush (v := 6) hx hb dX10_readParcel_36 (by decide) ?_
          refine lv_aload_n hx hb dX10_readParcel_38 rfl (lv_at hl 1 rfl) ?_
          refine tg_mem (ci := 10) (C := RX10) (T := TX10) (N := 49) hx hb hts inX10 hown hK hw 15 m_u_3 rfl (by decide) (hts _ tw_1152) (fun _ h9 => h9) dX10_readParcel_39 ?_
          refine lv_iconst (v := 1) hx hb dX10_readParcel_42 (by decide) ?_
          refine tg_iald (lo := 0) (hi := 4) hx hb hK hw h_vu_3 rfl 1 1 rl_1 (by decide) (by decide +kernel) dX10_readParcel_43 (fun v_9 r_v_9 m_v_9 o_v_9 => ?_)
          have q_v_9 : sg_7.2.2.1 15 (Int32.toNatClampNeg (1 : Int32)) = v_9 := OV.eqA (V := vw_MODEL) (t := 35) hw.2.2.1 o_p0 m_u_3 m_v_9 (by decide)
          have x_TO_p0_gh : TOP ws p0 (gh) := TKP.top x_TOK_p0_gh
          have hw8 := hw
          refine tk_i (va_runV (As := [.int 6, .int v_9]) (rest := [.int v_8, .ref p0]) ⟨hx, hb, hml, hown, hts⟩ (c_X10_readOne__5 l D cy z H.size Ps ws hw.1 p0 6 v_9 (gh) sg_7 h_p0 rl_6 r_v_9 x_TO_p0_gh o_p0) (cwV 2 hts (gV tw_1374 tw_1376 ts_54 tw_15 tw_1377) rfl rfl rfl (by decide +kernel) ⟨Nat.le_of_ble_eq_true rfl, Nat.le_of_ble_eq_true rfl⟩) (tg_preV hw hK hSD hA (ci := 10) (q := (RX10, TX10, 49)) rfl h_p0 rfl) rfl rfl hl.1 rfl (lv_room (Nat.le_of_ble_eq_true rfl)) dX10_readParcel_44 ⟨Nat.le_of_ble_eq_true rfl, Nat.le_of_ble_eq_true rfl⟩) hw hA ⟨by decide, by decide⟩ (fun v_10 ws H locs hp_v_10 hw hF9 => ?_)
          have m_v_4 := AEL.over hw8 hF9 h_vu_3 m_v_4 (by decide)
          have m_v_9 := AEL.over hw8 hF9 h_vu_3 m_v_9 (by decide)
          have m_u_3 := FLD.over hF9 m_u_3 (by decide)
          have x_RH_p0 := AX.over hF9 x_RH_p0 (by decide)
          have x_RLT_p0_2_6 := AX.over hF9 x_RLT_p0_2_6 (by decide)
          obtain ⟨hfn, hp_v_10⟩ := hp_v_10
          obtain ⟨sg_11, q_sg_11⟩ : ∃ q9 : OS, (f_X10_readOne__3 (6 : Int32) v_9 sg_7).1 = q9 := ⟨_, rfl⟩
          have o_p0 : OV vw_MODEL Ps ws p0 sg_11 := by rw [← q_sg_11]; exact hfn.1
          have q_v_10 : (f_X10_readOne__3 (6 : Int32) v_9 sg_7).2 = v_10 := hfn.2.1
          have r_v_10 : RI v_10 0 1 := hp_v_10.1
          by_cases c9_v_10 : v_10 = 0
          · have r_v_10 : RI v_10 0 0 := by rw [c9_v_10]; exact rl_0
            refine tk_ir (va_runV (As := [.int v_8, .int v_10]) (rest := []) ⟨hx, hb, hml, hown, hts⟩ (c_X10_put__28 l D cy z H.size Ps ws hw.1 p0 v_8 v_10 (fun f => RH2p f ∧ (f (Int32.toNatClampNeg 2)).toInt < Int32.toInt 6 ∧ True) (fun f => RH2p f ∧ (f (Int32.toNatClampNeg 2)).toInt < Int32.toInt 6 ∧ True) sg_11 h_p0 r_v_8 r_v_10 (AX.and hw x_RH_p0 (AX.and hw x_RLT_p0_2_6 (rx_true hw h_p0))) (fun f9 v9 hv9 H9 => ⟨(have h9 := H9.1; RH_keep h9 (by have k4 := r_v_8.cl (by decide); have k5 := r_v_8; unfold RI at k5; omega)), (have h9 := H9.2.1; by show _ < _; rw [pk_un (by have k4 := r_v_8.cl (by decide); have k5 := r_v_8; unfold RI at k5; have k6 : Int32.toNatClampNeg 2 = 2 := (by decide); omega)]; exact h9), trivial⟩) o_p0) (cwV 2 hts (gV tw_1362 tw_1364 ts_51 tw_15 tw_1365) rfl rfl rfl (by decide +kernel) ⟨Nat.le_of_ble_eq_true rfl, Nat.le_of_ble_eq_true rfl⟩) (tg_preV hw hK hSD hA (ci := 10) (q := (RX10, TX10, 49)) rfl h_p0 rfl) rfl rfl hl.1 rfl (lv_room (Nat.le_of_ble_eq_true rfl)) dX10_readParcel_47 ⟨Nat.le_of_ble_eq_true rfl, Nat.le_of_ble_eq_true rfl⟩) hw hA (fun v_12  H locs hp_v_12 hw => ?_)
            obtain ⟨hfn, hp_v_12⟩ := hp_v_12
            have q_v_12 : (f_X10_put__16 v_8 v_10 sg_11) = v_12 := hfn.1
            have r_v_12 : RI v_12 0 0 := hp_v_12.1
            by_cases c9_v_12 : v_12 = 0
            · have r_v_12 : RI v_12 0 0 := by rw [c9_v_12]; exact rl_0
              have x_RH_p0 : AX 15 35 (fun f => RH2p f) Ps ws p0 := AX.imp ((hp_v_12.2.1 c9_v_12).1) (fun _ h9 => h9.1)
              have x_RLT_p0_2_6 : AX 15 35 (fun f => (f (Int32.toNatClampNeg 2)).toInt < Int32.toInt 6) Ps ws p0 := AX.imp ((hp_v_12.2.1 c9_v_12).1) (fun _ h9 => h9.2.1)
              refine lv_if_ne (tgt := 55) hx hb dX10_readParcel_50 (by decide) (fun c_50 => ?_) (fun c_50 => ?_)
              · exact absurd (r_v_12.eq.trans rl_0.eq.symm) ((ti_ne c_50))
              · refine lv_iconst (v := 0) hx hb dX10_readParcel_53 (by decide) ?_
                simp only [f_X10_readParcel__1, ↓reduceIte, q_sg_2, q_v_1, eq_false c9_v_1, eq_false c_7, q_v_4, q_v_5, q_sg_7, q_v_6, eq_false c9_v_6, eq_false c_27, q_v_8, q_v_9, q_sg_11, q_v_10, eq_true c9_v_10, q_v_12, eq_true c9_v_12, eq_true c_50] at hE
                subst hQ
                exact W.zret (v := 0) hx hb hr (rfl) (fun t ht hW => ⟨⟨0, ws, rfl, ⟨⟨⟨(by rw [hR, ← hE]; exact o_p0), (by rw [hR, ← hE]), trivial⟩, rl_0.to (by decide), (fun h0 => trivial), (fun h0 => absurd rfl h0)⟩, hw.1, hw.2.2.2.2.1⟩, by rw [ht]; exact hw.2.1, va_K.moved hW.alike hK, hw.2.2.1⟩, hw.2.2.2.1.F ht⟩) hw.2.2.2.1.2.2 dX10_readParcel_54
            · exact absurd (Int32.toInt_inj.mp (by rw [Int32.toInt_zero]; unfold RI at r_v_12; omega)) c9_v_12
          · have r_v_10 : RI v_10 1 1 := rc_neL r_v_10 rl_0 (ti_ne c9_v_10) (by decide)
            have r_v_9 : RI v_9 1 4 := ((hp_v_10.2.2 c9_v_10).1)
            obtain ⟨v_13, m_v_13, r_v_13⟩ := ((hp_v_10.2.2 c9_v_10).2.1)
            have x_TOK_p0_gh := ((hp_v_10.2.2 c9_v_10).2.2.1)
            have hw8 := hw
            refine tk_i (va_runV (As := [.int v_8, .int v_10]) (rest := []) ⟨hx, hb, hml, hown, hts⟩ (c_X10_put__29 l D cy z H.size Ps ws hw.1 p0 v_8 v_10 v_13 (fun f => RH2p f ∧ (f (Int32.toNatClampNeg 2)).toInt < Int32.toInt 6 ∧ True) (fun f => RH2p f ∧ (f (Int32.toNatClampNeg 2)).toInt < Int32.toInt 6 ∧ True) sg_11 h_p0 r_v_8 r_v_10 r_v_13 m_v_13 (AX.and hw x_RH_p0 (AX.and hw x_RLT_p0_2_6 (rx_true hw h_p0))) (fun f9 v9 hv9 H9 => ⟨(have h9 := H9.1; RH_keep h9 (by have k4 := r_v_8.cl (by decide); have k5 := r_v_8; unfold RI at k5; omega)), (have h9 := H9.2.1; by show _ < _; rw [pk_un (by have k4 := r_v_8.cl (by decide); have k5 := r_v_8; unfold RI at k5; have k6 : Int32.toNatClampNeg 2 = 2 := (by decide); omega)]; exact h9), trivial⟩) o_p0) (cwV 2 hts (gV tw_1362 tw_1364 ts_51 tw_15 tw_1365) rfl rfl rfl (by decide +kernel) ⟨Nat.le_of_ble_eq_true rfl, Nat.le_of_ble_eq_true rfl⟩) (tg_preV hw hK hSD hA (ci := 10) (q := (RX10, TX10, 49)) rfl h_p0 rfl) rfl rfl hl.1 rfl (lv_room (Nat.le_of_ble_eq_true rfl)) dX10_readParcel_47 ⟨Nat.le_of_ble_eq_true rfl, Nat.le_of_ble_eq_true rfl⟩) hw hA ⟨by decide, by decide⟩ (fun v_14 ws H locs hp_v_14 hw hF9 => ?_)
            have m_u_3 := FLD.over hF9 m_u_3 (by decide)
            have m_v_13 := FLD.over hF9 m_v_13 (by decide)
            have x_TOK_p0_gh := TKP.over hF9 x_TOK_p0_gh (by decide)
            obtain ⟨hfn, hp_v_14⟩ := hp_v_14
            obtain ⟨sg_15, q_sg_15⟩ : ∃ q9 : OS, (f_X10_put__17 v_8 v_10 sg_11).1 = q9 := ⟨_, rfl⟩
            have o_p0 : OV vw_MODEL Ps ws p0 sg_15 := by rw [← q_sg_15]; exact hfn.1
            have q_v_14 : (f_X10_put__17 v_8 v_10 sg_11).2 = v_14 := hfn.2.1
            have r_v_14 : RI v_14 1 1 := hp_v_14.1
            by_cases c9_v_14 : v_14 = 0
            · exact absurd (ti_eq c9_v_14) (by unfold RI at r_v_14; rw [Int32.toInt_zero]; omega)
            · obtain ⟨v_16, m_v_16, r_v_16⟩ := ((hp_v_14.2.2 c9_v_14).1)
              have x_RH_p0 : AX 15 35 (fun f => RH2p f) Ps ws p0 := AX.imp ((hp_v_14.2.2 c9_v_14).2.1) (fun _ h9 => h9.1)
              have x_RLT_p0_2_6 : AX 15 35 (fun f => (f (Int32.toNatClampNeg 2)).toInt < Int32.toInt 6) Ps ws p0 := AX.imp ((hp_v_14.2.2 c9_v_14).2.1) (fun _ h9 => h9.2.1)
              refine lv_if_ne (tgt := 55) hx hb dX10_readParcel_50 (by decide) (fun c_50 => ?_) (fun c_50 => ?_)
              · refine lv_aload_n hx hb dX10_readParcel_55 rfl (lv_at hl 1 rfl) ?_
                refine tg_mem (ci := 10) (C := RX10) (T := TX10) (N := 49) hx hb hts inX10 hown hK hw 15 m_u_3 rfl (by decide) (hts _ tw_1152) (fun _ h9 => h9) dX10_readParcel_56 ?_
                refine lv_iconst (v := 2) hx hb dX10_readParcel_59 (by decide) ?_
                refine lv_dup2_11 hx hb dX10_readParcel_60 rfl rfl ?_
                refine tg_iald (lo := 0) (hi := 6) hx hb hK hw h_vu_3 rfl 2 2 rl_2 (by decide) (by decide +kernel) dX10_readParcel_61 (fun v_17 r_v_17 m_v_17 o_v_17 => ?_)
                have q_v_17 : sg_15.2.2.1 15 (Int32.toNatClampNeg (2 : Int32)) = v_17 := OV.eqA (V := vw_MODEL) (t := 35) hw.2.2.1 o_p0 m_u_3 m_v_17 (by decide)
                have r_v_17 : RI v_17 0 5 := by obtain ⟨f9, h9, q9, g9⟩ := AX.use hw x_RLT_p0_2_6 h_vu_3 rfl m_u_3; have e9 := g9 _ _ m_v_17; have j9 : Int32.toNatClampNeg 2 = 2 := (by decide); rw [j9] at e9; have h8 : (f9 2).toInt < 6 := h9; rw [e9] at h8; exact ⟨r_v_17.1, by omega⟩
                refine lv_iconst (v := 1) hx hb dX10_readParcel_62 (by decide) ?_
                refine lv_iadd hx hb dX10_readParcel_63 (lv_topi (fun v_18 e_v_18 => ?_))
                obtain ⟨t_v_18, r_v_18⟩ := tq_add (lo := 1) (hi := 6) r_v_17 rl_1 (by decide +kernel) e_v_18
                have t_v_18 : v_18.toInt = v_17.toInt + 1 := t_v_18
                have q_v_18 : v_17 + (1 : Int32) = v_18 := e_v_18.symm
                have mo9 := m_u_3
                have hw8 := hw
                refine tg_iast hx hb hK hw h_vu_3 rfl 2 2 rl_2 (by decide) r_v_18 (by decide +kernel) (fun _ _ _ _ _ => trivial) (by decide) dX10_readParcel_64 (fun ws H locs hw hF9 hU9 => ?_)
                have x_RH_p0 : AX 15 35 (fun f => RH2p f) Ps ws p0 := AX.ast hF9 hU9 x_RH_p0 m_u_3 (fun f9 h9 => RH_keep h9 (by decide))
                have x_TOK_p0_gh := TKP.over hF9 x_TOK_p0_gh (by decide)
                have m_u_3 := FLD.over hF9 m_u_3 (by decide)
                have m_v_16 := FLD.over hF9 m_v_16 (by decide)
                obtain ⟨sg_19, q_sg_19⟩ : ∃ q9 : OS, sA sg_15 15 (Int32.toNatClampNeg (2 : Int32)) v_18 = q9 := ⟨_, rfl⟩
                have o_p0 : OV vw_MODEL Ps ws p0 sg_19 := by rw [← q_sg_19]; exact OV.putA (V := vw_MODEL) (t := 35) hF9 hU9 o_p0 mo9 (by decide) (by decide)
                refine lv_iconst (v := 1) hx hb dX10_readParcel_65 (by decide) ?_
                simp only [f_X10_readParcel__1, ↓reduceIte, q_sg_2, q_v_1, eq_false c9_v_1, eq_false c_7, q_v_4, q_v_5, q_sg_7, q_v_6, eq_false c9_v_6, eq_false c_27, q_v_8, q_v_9, q_sg_11, q_v_10, eq_false c9_v_10, q_sg_15, q_v_14, eq_false c9_v_14, eq_false c_50, q_v_17, q_v_18, q_sg_19] at hE
                subst hQ
                exact W.zret (v := 1) hx hb hr (rfl) (fun t ht hW => ⟨⟨1, ws, rfl, ⟨⟨⟨(by rw [hR, ← hE]; exact o_p0), (by rw [hR, ← hE]), trivial⟩, rl_1.to (by decide), (fun _ => trivial), (fun h0 => ⟨⟨_, m_v_16, r_v_16⟩, x_TOK_p0_gh, x_RH_p0, trivial⟩)⟩, hw.1, hw.2.2.2.2.1⟩, by rw [ht]; exact hw.2.1, va_K.moved hW.alike hK, hw.2.2.1⟩, hw.2.2.2.1.F ht⟩) hw.2.2.2.1.2.2 dX10_readParcel_66
              · have r_v_14 : RI v_14 1 0 := rc_eq1 r_v_14 rl_0 (ti_eq c_50) (by decide)
                exact (r_v_14.no (by decide)).elim
    · have r_v_1 : RI v_1 1 0 := rc_eq1 r_v_1 rl_0 (ti_eq c_7) (by decide)
      exact (r_v_1.no (by decide)).elim
abbrev wr_X10_readFirst__6 : List (Nat × Nat) := [(10, 5), (10, 6), (10, 7), (10, 8), (10, 9), (10, 10), (10, 11), (10, 12)]
abbrev wa_X10_readFirst__6 : List Nat := []
set_option maxHeartbeats 4000000 in
set_option maxRecDepth 100000 in
theorem c_X10_readFirst__6 (l : Launch) (D : va_G) (cy : Nat → ClassId) (z : Nat → Nat) (sz : Nat) (Ps : PSI) (w0 : va_W) (hT : HT cy GG Ps w0) (p0 : Nat) (p1 : Int32) (p2 : Int32) (gh : Int) (s0 : OS) (h_p0 : (p0, 55) ∈ Ps) (r_p1 : RI p1 1 1) (r_p2 : RI p2 4 4) (x_TO_p0_gh : TOP w0 p0 (gh)) (o_p0 : OV vw_MODEL Ps w0 p0 s0) : Met l yX10_readFirst (Cond.code yX10_readFirst cX10_readFirst 3 (some .boolean) :: gT) ({ frames := 3, cells := 0, slots := 0, locals := 600 } : Room) (va_Pc [.ref p0, .int p1, .int p2] (PRE D cy z w0 sz)) (va_Qi (fun (r : Int32) (u : va_W) => ((OV vw_MODEL Ps u p0 ((f_X10_readFirst__4 p1 p2 s0).1) ∧ (f_X10_readFirst__4 p1 p2 s0).2 = r ∧ True) ∧ (RI r 0 1 ∧ (r = 0 → True) ∧ (¬ r = 0 → TKP u p0 (gh) ∧ AX 15 35 (fun f => (f (Int32.toNatClampNeg p1)).toInt < Int32.toInt p2) Ps u p0 ∧ True))) ∧ HT cy GG Ps u ∧ FR wr_X10_readFirst__6 wa_X10_readFirst__6 Ps w0 u) (BB D cy (va_A w0 sz) (fun (u : va_W) => u)) (va_A w0 sz)) 0 0 (va_A w0 sz) := by
  refine Met.ofW (cc := cX10_readFirst) (maxL := 3) (ret := (some .boolean)) (by decide) rfl ?_
  intro p e s m args below meth c s₁ B hml hv
  obtain ⟨rfl, hsz, hP, hK, hD0, hSD⟩ := hv
  have hx := B.exec
  have hb := B.bytes
  have hr := B.returns
  have hlocks := B.notSynchronized
  have hts : ∀ w ∈ gT, w.before _ s = true := fun w h => atoms_spec (ws := Cond.code yX10_readFirst cX10_readFirst 3 (some .boolean) :: gT) B.pre w (List.mem_cons_of_mem _ h)
  have hown : s.vm.findClass RX10 = some m.cls := findClass_of_methodNamed B.named
  subst hsz
  have hD := hD0.self (sz := s.heap.size)
  generalize hAe : va_A w0 s.heap.size = A at hD hSD ⊢
  have hA : ∀ q : Nat, s.heap.size ≤ q → A q := fun q h => by rw [← hAe]; exact Or.inr h
  have hl := lv_entry ([.ref p0, .int p1, .int p2]) (n := 3) (Nat.le_of_ble_eq_true rfl)
  rw [lg_entry_eq]
  generalize (lg_sl ([.ref p0, .int p1, .int p2]) ++ List.replicate (3 - (lg_sl ([.ref p0, .int p1, .int p2])).length) Slot.unset).toArray = ls at hl ⊢
  have hl : lv_has ls 3 [(0, .ref p0), (1, .int p1), (2, .int p2)] := hl
  refine nameQ (fun Q hQ => ?_)
  have hw : WD D cy GG A s wr_X10_readFirst__6 wa_X10_readFirst__6 Ps w0 Ps w0 s.heap [] := ⟨hT, hP, hD, va_S.rf, FR.rf, hT.1, [], (List.append_nil _).symm⟩
  obtain ⟨R9, hR⟩ : ∃ q9 : OS × Int32, f_X10_readFirst__4 p1 p2 s0 = q9 := ⟨_, rfl⟩
  have hE := hR
  refine lv_aload_n hx hb dX10_readFirst_0 rfl (lv_at hl 0 rfl) ?_
  refine tg_get (ci := 10) (ts := ty_MODEL) (C := RX10) (T := TX10) (N := 49) hx hb hts inX10 hown hK hw h_p0 rfl rfl 15 (by decide) (hts _ tw_1152) (fun _ h9 => h9) (ft := vR 35) rfl dX10_readFirst_1 (fun u_1 hv_u_1 m_u_1 => ?_)
  obtain ⟨vu_1, rfl, h_vu_1⟩ := hv_u_1
  refine lv_iload_n hx hb dX10_readFirst_4 rfl (lv_at hl 1 rfl) ?_
  refine tg_iald (lo := 0) (hi := 4) hx hb hK hw h_vu_1 rfl 1 1 r_p1 (by decide) (by decide +kernel) dX10_readFirst_5 (fun v_2 r_v_2 m_v_2 o_v_2 => ?_)
  have q_v_2 : s0.2.2.1 15 (Int32.toNatClampNeg p1) = v_2 := OV.eqA (V := vw_MODEL) (t := 35) hw.2.2.1 o_p0 m_u_1 m_v_2 (by decide)
  refine lv_iload_n hx hb dX10_readFirst_6 rfl (lv_at hl 2 rfl) ?_
  refine lv_icmp_ne (tgt := 16) hx hb dX10_readFirst_7 (by decide) (fun c_7 => ?_) (fun c_7 => ?_)
  · have r_v_2 : RI v_2 0 3 := rc_neU r_v_2 r_p2 (ti_ne c_7) (by decide)
    have x_RLT_p0_p1_p2 : AX 15 35 (fun f => (f (Int32.toNatClampNeg p1)).toInt < Int32.toInt p2) Ps w0 p0 := AX.mk hw h_vu_1 rfl m_u_1 (fun f9 g9 _ => by have e9 := g9 _ _ m_v_2; have j9 : Int32.toNatClampNeg p1 = Int32.toNatClampNeg p1 := rfl; rw [j9] at e9; show _; rw [e9]; have k1 := r_v_2.2; have k2 := r_p2.1; omega)
    refine lv_aload_n hx hb dX10_readFirst_16 rfl (lv_at hl 0 rfl) ?_
    have hw8 := hw
    refine tk_v (va_runV (As := []) (rest := []) ⟨hx, hb, hml, hown, hts⟩ (c_X10_go__2 l D cy z s.heap.size Ps w0 hw.1 p0 (gh) s0 h_p0 x_TO_p0_gh o_p0) (cwV 0 hts (gV tw_1298 tw_1300 ts_40 tw_15 tw_1301) rfl rfl rfl (by decide +kernel) ⟨Nat.le_of_ble_eq_true rfl, Nat.le_of_ble_eq_true rfl⟩) (tg_preV hw hK hSD hA (ci := 10) (q := (RX10, TX10, 49)) rfl h_p0 rfl) rfl rfl hl.1 rfl (lv_room (Nat.le_of_ble_eq_true rfl)) dX10_readFirst_17 ⟨Nat.le_of_ble_eq_true rfl, Nat.le_of_ble_eq_true rfl⟩) hw hA ⟨by decide, by decide⟩ (fun ws H locs hp_v_3 hw hF9 => ?_)
    have m_v_2 := AEL.over hw8 hF9 h_vu_1 m_v_2 (by decide)
    have m_u_1 := FLD.over hF9 m_u_1 (by decide)
    have x_RLT_p0_p1_p2 := AX.over hF9 x_RLT_p0_p1_p2 (by decide)
    obtain ⟨hfn, hp_v_3⟩ := hp_v_3
    obtain ⟨sg_4, q_sg_4⟩ : ∃ q9 : OS, (f_X10_go__2 s0) = q9 := ⟨_, rfl⟩
    have o_p0 : OV vw_MODEL Ps ws p0 sg_4 := by rw [← q_sg_4]; exact hfn.1
    have x_TOK_p0_gh := (hp_v_3.1)
    refine lv_iconst (v := 1) hx hb dX10_readFirst_20 (by decide) ?_
    simp only [f_X10_readFirst__4, ↓reduceIte, q_v_2, eq_false c_7, q_sg_4] at hE
    subst hQ
    exact W.zret (v := 1) hx hb hr (rfl) (fun t ht hW => ⟨⟨1, ws, rfl, ⟨⟨⟨(by rw [hR, ← hE]; exact o_p0), (by rw [hR, ← hE]), trivial⟩, rl_1.to (by decide), (fun _ => trivial), (fun h0 => ⟨x_TOK_p0_gh, x_RLT_p0_p1_p2, trivial⟩)⟩, hw.1, hw.2.2.2.2.1⟩, by rw [ht]; exact hw.2.1, va_K.moved hW.alike hK, hw.2.2.1⟩, hw.2.2.2.1.F ht⟩) hw.2.2.2.1.2.2 dX10_readFirst_21
  · have r_v_2 : RI v_2 4 4 := rc_eq1 r_v_2 r_p2 (ti_eq c_7) (by decide)
    refine lv_aload_n hx hb dX10_readFirst_10 rfl (lv_at hl 0 rfl) ?_
    refine lv_iconst (v := 4) hx hb dX10_readFirst_11 (by decide) ?_
    have hw8 := hw
    refine tk_i (va_runV (As := [.int 4]) (rest := []) ⟨hx, hb, hml, hown, hts⟩ (c_X10_bad__1 l D cy z s.heap.size Ps w0 hw.1 p0 4 s0 h_p0 (rl_4.to (by decide)) o_p0) (cwV 1 hts (gV tw_1336 tw_1338 ts_46 tw_15 tw_1339) rfl rfl rfl (by decide +kernel) ⟨Nat.le_of_ble_eq_true rfl, Nat.le_of_ble_eq_true rfl⟩) (tg_preV hw hK hSD hA (ci := 10) (q := (RX10, TX10, 49)) rfl h_p0 rfl) rfl rfl hl.1 rfl (lv_room (Nat.le_of_ble_eq_true rfl)) dX10_readFirst_12 ⟨Nat.le_of_ble_eq_true rfl, Nat.le_of_ble_eq_true rfl⟩) hw hA ⟨by decide, by decide⟩ (fun v_5 ws H locs hp_v_5 hw hF9 => ?_)
    have m_v_2 := AEL.over hw8 hF9 h_vu_1 m_v_2 (by decide)
    have m_u_1 := FLD.over hF9 m_u_1 (by decide)
    have x_TO_p0_gh := TOP.over hF9 x_TO_p0_gh (by decide)
    obtain ⟨hfn, hp_v_5⟩ := hp_v_5
    obtain ⟨sg_6, q_sg_6⟩ : ∃ q9 : OS, (f_X10_bad__1 (4 : Int32) s0).1 = q9 := ⟨_, rfl⟩
    have o_p0 : OV vw_MODEL Ps ws p0 sg_6 := by rw [← q_sg_6]; exact hfn.1
    have q_v_5 : (f_X10_bad__1 (4 : Int32) s0).2 = v_5 := hfn.2.1
    have r_v_5 : RI v_5 0 0 := hp_v_5.1
    simp only [f_X10_readFirst__4, ↓reduceIte, q_v_2, eq_true c_7, q_sg_6, q_v_5] at hE
    subst hQ
    exact W.zret (v := v_5) hx hb hr (tq_nz (r_v_5.to (by decide))) (fun t ht hW => ⟨⟨v_5, ws, rfl, ⟨⟨⟨(by rw [hR, ← hE]; exact o_p0), (by rw [hR, ← hE]), trivial⟩, r_v_5.to (by decide), (fun h0 => trivial), (fun h0 => absurd (Int32.toInt_inj.mp (by have h8 := r_v_5; unfold RI at h8; rw [Int32.toInt_zero]; omega)) h0)⟩, hw.1, hw.2.2.2.2.1⟩, by rw [ht]; exact hw.2.1, va_K.moved hW.alike hK, hw.2.2.1⟩, hw.2.2.2.1.F ht⟩) hw.2.2.2.1.2.2 dX10_readFirst_15
abbrev wr_X10_readNew__6 : List (Nat × Nat) := [(10, 5), (10, 6), (10, 7), (10, 8), (10, 9), (10, 10), (10, 11), (10, 12)]
abbrev wa_X10_readNew__6 : List Nat := [42]
set_option maxHeartbeats 4000000 in
set_option maxRecDepth 100000 in
theorem c_X10_readNew__6 (l : Launch) (D : va_G) (cy : Nat → ClassId) (z : Nat → Nat) (sz : Nat) (Ps : PSI) (w0 : va_W) (hT : HT cy GG Ps w0) (p0 : Nat) (p1 : Int32) (gh : Int) (s0 : OS) (h_p0 : (p0, 55) ∈ Ps) (r_p1 : RI p1 6 9) (x_TO_p0_gh : TOP w0 p0 (gh)) (o_p0 : OV vw_MODEL Ps w0 p0 s0) : Met l yX10_readNew (Cond.code yX10_readNew cX10_readNew 2 (some .boolean) :: gT) ({ frames := 4, cells := 0, slots := 0, locals := 800 } : Room) (va_Pc [.ref p0, .int p1] (PRE D cy z w0 sz)) (va_Qi (fun (r : Int32) (u : va_W) => ((OV vw_MODEL Ps u p0 ((f_X10_readNew__4 p1 s0).1) ∧ (f_X10_readNew__4 p1 s0).2 = r ∧ True) ∧ (RI r 0 1 ∧ (r = 0 → True) ∧ (¬ r = 0 → TKP u p0 (gh) ∧ True))) ∧ HT cy GG Ps u ∧ FR wr_X10_readNew__6 wa_X10_readNew__6 Ps w0 u) (BB D cy (va_A w0 sz) (fun (u : va_W) => u)) (va_A w0 sz)) 0 0 (va_A w0 sz) := by
  refine Met.ofW (cc := cX10_readNew) (maxL := 2) (ret := (some .boolean)) (by decide) rfl ?_
  intro p e s m args below meth c s₁ B hml hv
  obtain ⟨rfl, hsz, hP, hK, hD0, hSD⟩ := hv
  have hx := B.exec
  have hb := B.bytes
  have hr := B.returns
  have hlocks := B.notSynchronized
  have hts : ∀ w ∈ gT, w.before _ s = true := fun w h => atoms_spec (ws := Cond.code yX10_readNew cX10_readNew 2 (some .boolean) :: gT) B.pre w (List.mem_cons_of_mem _ h)
  have hown : s.vm.findClass RX10 = some m.cls := findClass_of_methodNamed B.named
  subst hsz
  have hD := hD0.self (sz := s.heap.size)
  generalize hAe : va_A w0 s.heap.size = A at hD hSD ⊢
  have hA : ∀ q : Nat, s.heap.size ≤ q → A q := fun q h => by rw [← hAe]; exact Or.inr h
  have hl := lv_entry ([.ref p0, .int p1]) (n := 2) (Nat.le_of_ble_eq_true rfl)
  rw [lg_entry_eq]
  generalize (lg_sl ([.ref p0, .int p1]) ++ List.replicate (2 - (lg_sl ([.ref p0, .int p1])).length) Slot.unset).toArray = ls at hl ⊢
  have hl : lv_has ls 2 [(0, .ref p0), (1, .int p1)] := hl
  refine nameQ (fun Q hQ => ?_)
  have hw : WD D cy GG A s wr_X10_readNew__6 wa_X10_readNew__6 Ps w0 Ps w0 s.heap [] := ⟨hT, hP, hD, va_S.rf, FR.rf, hT.1, [], (List.append_nil _).symm⟩
  obtain ⟨R9, hR⟩ : ∃ q9 : OS × Int32, f_X10_readNew__4 p1 s0 = q9 := ⟨_, rfl⟩
  have hE := hR
  refine lv_aload_n hx hb dX10_readNew_0 rfl (lv_at hl 0 rfl) ?_
  refine tk_ir (va_runV (As := []) (rest := []) ⟨hx, hb, hml, hown, hts⟩ (c_X10_isName__1 l D cy z s.heap.size Ps w0 hw.1 p0 s0 h_p0 o_p0) (cwV 0 hts (gV tw_1344 tw_1346 ts_48 tw_15 tw_1347) rfl rfl rfl (by decide +kernel) ⟨Nat.le_of_ble_eq_true rfl, Nat.le_of_ble_eq_true rfl⟩) (tg_preV hw hK hSD hA (ci := 10) (q := (RX10, TX10, 49)) rfl h_p0 rfl) rfl rfl hl.1 rfl (lv_room (Nat.le_of_ble_eq_true rfl)) dX10_readNew_1 ⟨Nat.le_of_ble_eq_true rfl, Nat.le_of_ble_eq_true rfl⟩) hw hA (fun v_1  H locs hp_v_1 hw => ?_)
  obtain ⟨hfn, hp_v_1⟩ := hp_v_1
  have q_v_1 : (f_X10_isName__1 s0) = v_1 := hfn.1
  have r_v_1 : RI v_1 0 1 := hp_v_1.1
  refine lv_if_ne (tgt := 13) hx hb dX10_readNew_4 (by decide) (fun c_4 => ?_) (fun c_4 => ?_)
  · have r_v_1 : RI v_1 1 1 := rc_neL r_v_1 rl_0 (ti_ne c_4) (by decide)
    refine lv_aload_n hx hb dX10_readNew_13 rfl (lv_at hl 0 rfl) ?_
    refine tk_ir (va_runV (As := []) (rest := []) ⟨hx, hb, hml, hown, hts⟩ (c_X10_isTaken__1 l D cy z H.size Ps w0 hw.1 p0 s0 h_p0 o_p0) (cwV 0 hts (gV tw_1348 tw_1350 ts_49 tw_15 tw_1351) rfl rfl rfl (by decide +kernel) ⟨Nat.le_of_ble_eq_true rfl, Nat.le_of_ble_eq_true rfl⟩) (tg_preV hw hK hSD hA (ci := 10) (q := (RX10, TX10, 49)) rfl h_p0 rfl) rfl rfl hl.1 rfl (lv_room (Nat.le_of_ble_eq_true rfl)) dX10_readNew_14 ⟨Nat.le_of_ble_eq_true rfl, Nat.le_of_ble_eq_true rfl⟩) hw hA (fun v_2  H locs hp_v_2 hw => ?_)
    obtain ⟨hfn, hp_v_2⟩ := hp_v_2
    have q_v_2 : (f_X10_isTaken__1 s0) = v_2 := hfn.1
    have r_v_2 : RI v_2 0 1 := hp_v_2.1
    refine lv_if_eq (tgt := 26) hx hb dX10_readNew_17 (by decide) (fun c_17 => ?_) (fun c_17 => ?_)
    · have r_v_2 : RI v_2 0 0 := rc_eq1 r_v_2 rl_0 (ti_eq c_17) (by decide)
      refine lv_aload_n hx hb dX10_readNew_26 rfl (lv_at hl 0 rfl) ?_
      refine tg_get (ci := 10) (ts := ty_MODEL) (C := RX10) (T := TX10) (N := 49) hx hb hts inX10 hown hK hw h_p0 rfl rfl 21 (by decide) (hts _ tw_1158) (fun _ h9 => h9) (ft := vR 42) rfl dX10_readNew_27 (fun u_3 hv_u_3 m_u_3 => ?_)
      obtain ⟨vu_3, rfl, h_vu_3⟩ := hv_u_3
      refine lv_iload_n hx hb dX10_readNew_30 rfl (lv_at hl 1 rfl) ?_
      refine lv_aload_n hx hb dX10_readNew_31 rfl (lv_at hl 0 rfl) ?_
      refine tg_get (ci := 10) (ts := ty_MODEL) (C := RX10) (T := TX10) (N := 49) hx hb hts inX10 hown hK hw h_p0 rfl rfl 12 (by decide) (hts _ tw_1149) (fun _ h9 => h9) (ft := vJ (-9223372036854775808) 9223372036854775807) rfl dX10_readNew_32 (fun u_4 hv_u_4 m_u_4 => ?_)
      obtain ⟨vu_4, rfl, r_vu_4⟩ := hv_u_4
      have q_vu_4 : s0.2.1 12 = vu_4 := OV.eqL (V := vw_MODEL) hw.2.2.1 o_p0 m_u_4 (by decide)
      have mo9 := m_u_3
      refine tg_lastE hx hb hK hw h_vu_3 rfl r_p1 (by decide) r_vu_4 (by decide) (by decide) dX10_readNew_35 (fun ws H locs hw hF9 hU9 => ?_)
      have x_TO_p0_gh := TOP.over hF9 x_TO_p0_gh (by decide)
      have m_u_3 := FLD.over hF9 m_u_3 (by decide)
      have m_u_4 := FLD.over hF9 m_u_4 (by decide)
      obtain ⟨sg_5, q_sg_5⟩ : ∃ q9 : OS, sB s0 21 (Int32.toNatClampNeg p1) vu_4 = q9 := ⟨_, rfl⟩
      have o_p0 : OV vw_MODEL Ps ws p0 sg_5 := by rw [← q_sg_5]; exact OV.putB (V := vw_MODEL) (t := 42) hF9 hU9 o_p0 mo9 (by decide) (by decide)
      refine lv_aload_n hx hb dX10_readNew_36 rfl (lv_at hl 0 rfl) ?_
      refine tk_v (va_runV (As := []) (rest := []) ⟨hx, hb, hml, hown, hts⟩ (c_X10_go__2 l D cy z H.size Ps ws hw.1 p0 (gh) sg_5 h_p0 x_TO_p0_gh o_p0) (cwV 0 hts (gV tw_1298 tw_1300 ts_40 tw_15 tw_1301) rfl rfl rfl (by decide +kernel) ⟨Nat.le_of_ble_eq_true rfl, Nat.le_of_ble_eq_true rfl⟩) (tg_preV hw hK hSD hA (ci := 10) (q := (RX10, TX10, 49)) rfl h_p0 rfl) rfl rfl hl.1 rfl (lv_room (Nat.le_of_ble_eq_true rfl)) dX10_readNew_37 ⟨Nat.le_of_ble_eq_true rfl, Nat.le_of_ble_eq_true rfl⟩) hw hA ⟨by decide, by decide⟩ (fun ws H locs hp_v_6 hw hF9 => ?_)
      have m_u_3 := FLD.over hF9 m_u_3 (by decide)
      obtain ⟨hfn, hp_v_6⟩ := hp_v_6
      obtain ⟨sg_7, q_sg_7⟩ : ∃ q9 : OS, (f_X10_go__2 sg_5) = q9 := ⟨_, rfl⟩
      have o_p0 : OV vw_MODEL Ps ws p0 sg_7 := by rw [← q_sg_7]; exact hfn.1
      have x_TOK_p0_gh := (hp_v_6.1)
      refine lv_iconst (v := 1) hx hb dX10_readNew_40 (by decide) ?_
      simp only [f_X10_readNew__4, ↓reduceIte, q_v_1, eq_false c_4, q_v_2, eq_true c_17, q_vu_4, q_sg_5, q_sg_7] at hE
      subst hQ
      exact W.zret (v := 1) hx hb hr (rfl) (fun t ht hW => ⟨⟨1, ws, rfl, ⟨⟨⟨(by rw [hR, ← hE]; exact o_p0), (by rw [hR, ← hE]), trivial⟩, rl_1.to (by decide), (fun _ => trivial), (fun h0 => ⟨x_TOK_p0_gh, trivial⟩)⟩, hw.1, hw.2.2.2.2.1⟩, by rw [ht]; exact hw.2.1, va_K.moved hW.alike hK, hw.2.2.1⟩, hw.2.2.2.1.F ht⟩) hw.2.2.2.1.2.2 dX10_readNew_41
    · have r_v_2 : RI v_2 1 1 := rc_neL r_v_2 rl_0 (ti_ne c_17) (by decide)
      refine lv_aload_n hx hb dX10_readNew_20 rfl (lv_at hl 0 rfl) ?_
      refine lv_iconst (v := 3) hx hb dX10_readNew_21 (by decide) ?_
      refine tk_i (va_runV (As := [.int 3]) (rest := []) ⟨hx, hb, hml, hown, hts⟩ (c_X10_bad__1 l D cy z H.size Ps w0 hw.1 p0 3 s0 h_p0 (rl_3.to (by decide)) o_p0) (cwV 1 hts (gV tw_1336 tw_1338 ts_46 tw_15 tw_1339) rfl rfl rfl (by decide +kernel) ⟨Nat.le_of_ble_eq_true rfl, Nat.le_of_ble_eq_true rfl⟩) (tg_preV hw hK hSD hA (ci := 10) (q := (RX10, TX10, 49)) rfl h_p0 rfl) rfl rfl hl.1 rfl (lv_room (Nat.le_of_ble_eq_true rfl)) dX10_readNew_22 ⟨Nat.le_of_ble_eq_true rfl, Nat.le_of_ble_eq_true rfl⟩) hw hA ⟨by decide, by decide⟩ (fun v_8 ws H locs hp_v_8 hw hF9 => ?_)
      have x_TO_p0_gh := TOP.over hF9 x_TO_p0_gh (by decide)
      obtain ⟨hfn, hp_v_8⟩ := hp_v_8
      obtain ⟨sg_9, q_sg_9⟩ : ∃ q9 : OS, (f_X10_bad__1 (3 : Int32) s0).1 = q9 := ⟨_, rfl⟩
      have o_p0 : OV vw_MODEL Ps ws p0 sg_9 := by rw [← q_sg_9]; exact hfn.1
      have q_v_8 : (f_X10_bad__1 (3 : Int32) s0).2 = v_8 := hfn.2.1
      have r_v_8 : RI v_8 0 0 := hp_v_8.1
      simp only [f_X10_readNew__4, ↓reduceIte, q_v_1, eq_false c_4, q_v_2, eq_false c_17, q_sg_9, q_v_8] at hE
      subst hQ
      exact W.zret (v := v_8) hx hb hr (tq_nz (r_v_8.to (by decide))) (fun t ht hW => ⟨⟨v_8, ws, rfl, ⟨⟨⟨(by rw [hR, ← hE]; exact o_p0), (by rw [hR, ← hE]), trivial⟩, r_v_8.to (by decide), (fun h0 => trivial), (fun h0 => absurd (Int32.toInt_inj.mp (by have h8 := r_v_8; unfold RI at h8; rw [Int32.toInt_zero]; omega)) h0)⟩, hw.1, hw.2.2.2.2.1⟩, by rw [ht]; exact hw.2.1, va_K.moved hW.alike hK, hw.2.2.1⟩, hw.2.2.2.1.F ht⟩) hw.2.2.2.1.2.2 dX10_readNew_25
  · have r_v_1 : RI v_1 0 0 := rc_eq1 r_v_1 rl_0 (ti_eq c_4) (by decide)
    refine lv_aload_n hx hb dX10_readNew_7 rfl (lv_at hl 0 rfl) ?_
    refine lv_iconst (v := 1) hx hb dX10_readNew_8 (by decide) ?_
    refine tk_i (va_runV (As := [.int 1]) (rest := []) ⟨hx, hb, hml, hown, hts⟩ (c_X10_bad__1 l D cy z H.size Ps w0 hw.1 p0 1 s0 h_p0 (rl_1.to (by decide)) o_p0) (cwV 1 hts (gV tw_1336 tw_1338 ts_46 tw_15 tw_1339) rfl rfl rfl (by decide +kernel) ⟨Nat.le_of_ble_eq_true rfl, Nat.le_of_ble_eq_true rfl⟩) (tg_preV hw hK hSD hA (ci := 10) (q := (RX10, TX10, 49)) rfl h_p0 rfl) rfl rfl hl.1 rfl (lv_room (Nat.le_of_ble_eq_true rfl)) dX10_readNew_9 ⟨Nat.le_of_ble_eq_true rfl, Nat.le_of_ble_eq_true rfl⟩) hw hA ⟨by decide, by decide⟩ (fun v_10 ws H locs hp_v_10 hw hF9 => ?_)
    have x_TO_p0_gh := TOP.over hF9 x_TO_p0_gh (by decide)
    obtain ⟨hfn, hp_v_10⟩ := hp_v_10
    obtain ⟨sg_11, q_sg_11⟩ : ∃ q9 : OS, (f_X10_bad__1 (1 : Int32) s0).1 = q9 := ⟨_, rfl⟩
    have o_p0 : OV vw_MODEL Ps ws p0 sg_11 := by rw [← q_sg_11]; exact hfn.1
    have q_v_10 : (f_X10_bad__1 (1 : Int32) s0).2 = v_10 := hfn.2.1
    have r_v_10 : RI v_10 0 0 := hp_v_10.1
    simp only [f_X10_readNew__4, ↓reduceIte, q_v_1, eq_true c_4, q_sg_11, q_v_10] at hE
    subst hQ
    exact W.zret (v := v_10) hx hb hr (tq_nz (r_v_10.to (by decide))) (fun t ht hW => ⟨⟨v_10, ws, rfl, ⟨⟨⟨(by rw [hR, ← hE]; exact o_p0), (by rw [hR, ← hE]), trivial⟩, r_v_10.to (by decide), (fun h0 => trivial), (fun h0 => absurd (Int32.toInt_inj.mp (by have h8 := r_v_10; unfold RI at h8; rw [Int32.toInt_zero]; omega)) h0)⟩, hw.1, hw.2.2.2.2.1⟩, by rw [ht]; exact hw.2.1, va_K.moved hW.alike hK, hw.2.2.1⟩, hw.2.2.2.1.F ht⟩) hw.2.2.2.1.2.2 dX10_readNew_12
abbrev wr_X10_readRoom__1 : List (Nat × Nat) := [(10, 5), (10, 6), (10, 7), (10, 8), (10, 9), (10, 10), (10, 11), (10, 12)]
abbrev wa_X10_readRoom__1 : List Nat := [35, 42]
set_option maxHeartbeats 4000000 in
set_option maxRecDepth 100000 in
theorem c_X10_readRoom__1 (l : Launch) (D : va_G) (cy : Nat → ClassId) (z : Nat → Nat) (sz : Nat) (Ps : PSI) (w0 : va_W) (hT : HT cy GG Ps w0) (p0 : Nat) (gh : Int) (s0 : OS) (h_p0 : (p0, 55) ∈ Ps) (x_TO_p0_gh : TOP w0 p0 (gh)) (x_RH_p0 : AX 15 35 (fun f => RH2p f) Ps w0 p0) (o_p0 : OV vw_MODEL Ps w0 p0 s0) : Met l yX10_readRoom (Cond.code yX10_readRoom cX10_readRoom 1 (some .boolean) :: gT) ({ frames := 5, cells := 0, slots := 0, locals := 1000 } : Room) (va_Pc [.ref p0] (PRE D cy z w0 sz)) (va_Qi (fun (r : Int32) (u : va_W) => ((OV vw_MODEL Ps u p0 ((f_X10_readRoom__1 s0).1) ∧ (f_X10_readRoom__1 s0).2 = r ∧ True) ∧ (RI r 0 1 ∧ (r = 0 → True) ∧ (¬ r = 0 → TKP u p0 (gh) ∧ AX 15 35 (fun f => RH2p f) Ps u p0 ∧ True))) ∧ HT cy GG Ps u ∧ FR wr_X10_readRoom__1 wa_X10_readRoom__1 Ps w0 u) (BB D cy (va_A w0 sz) (fun (u : va_W) => u)) (va_A w0 sz)) 0 0 (va_A w0 sz) := by
  refine Met.ofW (cc := cX10_readRoom) (maxL := 1) (ret := (some .boolean)) (by decide) rfl ?_
  intro p e s m args below meth c s₁ B hml hv
  obtain ⟨rfl, hsz, hP, hK, hD0, hSD⟩ := hv
  have hx := B.exec
  have hb := B.bytes
  have hr := B.returns
  have hlocks := B.notSynchronized
  have hts : ∀ w ∈ gT, w.before _ s = true := fun w h => atoms_spec (ws := Cond.code yX10_readRoom cX10_readRoom 1 (some .boolean) :: gT) B.pre w (List.mem_cons_of_mem _ h)
  have hown : s.vm.findClass RX10 = some m.cls := findClass_of_methodNamed B.named
  subst hsz
  have hD := hD0.self (sz := s.heap.size)
  generalize hAe : va_A w0 s.heap.size = A at hD hSD ⊢
  have hA : ∀ q : Nat, s.heap.size ≤ q → A q := fun q h => by rw [← hAe]; exact Or.inr h
  have hl := lv_entry ([.ref p0]) (n := 1) (Nat.le_of_ble_eq_true rfl)
  rw [lg_entry_eq]
  generalize (lg_sl ([.ref p0]) ++ List.replicate (1 - (lg_sl ([.ref p0])).length) Slot.unset).toArray = ls at hl ⊢
  have hl : lv_has ls 1 [(0, .ref p0)] := hl
  refine nameQ (fun Q hQ => ?_)
  have hw : WD D cy GG A s wr_X10_readRoom__1 wa_X10_readRoom__1 Ps w0 Ps w0 s.heap [] := ⟨hT, hP, hD, va_S.rf, FR.rf, hT.1, [], (List.append_nil _).symm⟩
  obtain ⟨R9, hR⟩ : ∃ q9 : OS × Int32, f_X10_readRoom__1 s0 = q9 := ⟨_, rfl⟩
  have hE := hR
  refine lv_aload_n hx hb dX10_readRoom_0 rfl (lv_at hl 0 rfl) ?_
  refine lv_iconst (v := 1) hx hb dX10_readRoom_1 (by decide) ?_
  refine lv_iconst (v := 4) hx hb dX10_readRoom_2 (by decide) ?_
  refine tk_i (va_runV (As := [.int 1, .int 4]) (rest := []) ⟨hx, hb, hml, hown, hts⟩ (c_X10_readFirst__6 l D cy z s.heap.size Ps w0 hw.1 p0 1 4 (gh) s0 h_p0 rl_1 rl_4 x_TO_p0_gh o_p0) (cwV 2 hts (gV tw_1332 tw_1334 ts_45 tw_15 tw_1335) rfl rfl rfl (by decide +kernel) ⟨Nat.le_of_ble_eq_true rfl, Nat.le_of_ble_eq_true rfl⟩) (tg_preV hw hK hSD hA (ci := 10) (q := (RX10, TX10, 49)) rfl h_p0 rfl) rfl rfl hl.1 rfl (lv_room (Nat.le_of_ble_eq_true rfl)) dX10_readRoom_3 ⟨Nat.le_of_ble_eq_true rfl, Nat.le_of_ble_eq_true rfl⟩) hw hA ⟨by decide, by decide⟩ (fun v_1 ws H locs hp_v_1 hw hF9 => ?_)
  have x_RH_p0 := AX.over hF9 x_RH_p0 (by decide)
  obtain ⟨hfn, hp_v_1⟩ := hp_v_1
  obtain ⟨sg_2, q_sg_2⟩ : ∃ q9 : OS, (f_X10_readFirst__4 (1 : Int32) (4 : Int32) s0).1 = q9 := ⟨_, rfl⟩
  have o_p0 : OV vw_MODEL Ps ws p0 sg_2 := by rw [← q_sg_2]; exact hfn.1
  have q_v_1 : (f_X10_readFirst__4 (1 : Int32) (4 : Int32) s0).2 = v_1 := hfn.2.1
  have r_v_1 : RI v_1 0 1 := hp_v_1.1
  by_cases c9_v_1 : v_1 = 0
  · have r_v_1 : RI v_1 0 0 := by rw [c9_v_1]; exact rl_0
    refine lv_if_eq (tgt := 25) hx hb dX10_readRoom_6 (by decide) (fun c_6 => ?_) (fun c_6 => ?_)
    · refine lv_iconst (v := 0) hx hb dX10_readRoom_25 (by decide) ?_
      simp only [f_X10_readRoom__1, ↓reduceIte, q_sg_2, q_v_1, eq_true c9_v_1, eq_true c_6] at hE
      subst hQ
      exact W.zret (v := 0) hx hb hr (rfl) (fun t ht hW => ⟨⟨0, ws, rfl, ⟨⟨⟨(by rw [hR, ← hE]; exact o_p0), (by rw [hR, ← hE]), trivial⟩, rl_0.to (by decide), (fun h0 => trivial), (fun h0 => absurd rfl h0)⟩, hw.1, hw.2.2.2.2.1⟩, by rw [ht]; exact hw.2.1, va_K.moved hW.alike hK, hw.2.2.1⟩, hw.2.2.2.1.F ht⟩) hw.2.2.2.1.2.2 dX10_readRoom_26
    · exact absurd (r_v_1.eq.trans rl_0.eq.symm) ((ti_ne c_6))
  · have r_v_1 : RI v_1 1 1 := rc_neL r_v_1 rl_0 (ti_ne c9_v_1) (by decide)
    have x_TOK_p0_gh := ((hp_v_1.2.2 c9_v_1).1)
    have x_RLT_p0_1_4 := ((hp_v_1.2.2 c9_v_1).2.1)
    refine lv_if_eq (tgt := 25) hx hb dX10_readRoom_6 (by decide) (fun c_6 => ?_) (fun c_6 => ?_)
    · have r_v_1 : RI v_1 1 0 := rc_eq1 r_v_1 rl_0 (ti_eq c_6) (by decide)
      exact (r_v_1.no (by decide)).elim
    · refine lv_aload_n hx hb dX10_readRoom_9 rfl (lv_at hl 0 rfl) ?_
      refine lv_bipush (v := 6) hx hb dX10_readRoom_10 (by decide) ?_
      refine lv_aload_n hx hb dX10_readRoom_12 rfl (lv_at hl 0 rfl) ?_
      refine tg_get (ci := 10) (ts := ty_MODEL) (C := RX10) (T := TX10) (N := 49) hx hb hts inX10 hown hK hw h_p0 rfl rfl 15 (by decide) (hts _ tw_1152) (fun _ h9 => h9) (ft := vR 35) rfl dX10_readRoom_13 (fun u_3 hv_u_3 m_u_3 => ?_)
      obtain ⟨vu_3, rfl, h_vu_3⟩ := hv_u_3
      refine lv_iconst (v := 1) hx hb dX10_readRoom_16 (by decide) ?_
      refine tg_iald (lo := 0) (hi := 4) hx hb hK hw h_vu_3 rfl 1 1 rl_1 (by decide) (by decide +kernel) dX10_readRoom_17 (fun v_4 r_v_4 m_v_4 o_v_4 => ?_)
      have q_v_4 : sg_2.2.2.1 15 (Int32.toNatClampNeg (1 : Int32)) = v_4 := OV.eqA (V := vw_MODEL) (t := 35) hw.2.2.1 o_p0 m_u_3 m_v_4 (by decide)
      have r_v_4 : RI v_4 0 3 := by obtain ⟨f9, h9, q9, g9⟩ := AX.use hw x_RLT_p0_1_4 h_vu_3 rfl m_u_3; have e9 := g9 _ _ m_v_4; have j9 : Int32.toNatClampNeg 1 = 1 := (by decide); rw [j9] at e9; have h8 : (f9 1).toInt < 4 := h9; rw [e9] at h8; exact ⟨r_v_4.1, by omega⟩
      refine lv_iadd hx hb dX10_readRoom_18 (lv_topi (fun v_5 e_v_5 => ?_))
      obtain ⟨t_v_5, r_v_5⟩ := tq_add (lo := 6) (hi := 9) rl_6 r_v_4 (by decide +kernel) e_v_5
      have t_v_5 : v_5.toInt = 6 + v_4.toInt := t_v_5
      have q_v_5 : (6 : Int32) + v_4 = v_5 := e_v_5.symm
      have x_TO_p0_gh : TOP ws p0 (gh) := TKP.top x_TOK_p0_gh
      have hw8 := hw
      refine tk_i (va_runV (As := [.int v_5]) (rest := []) ⟨hx, hb, hml, hown, hts⟩ (c_X10_readNew__6 l D cy z H.size Ps ws hw.1 p0 v_5 (gh) sg_2 h_p0 r_v_5 x_TO_p0_gh o_p0) (cwV 1 hts (gV tw_1340 tw_1342 ts_47 tw_15 tw_1343) rfl rfl rfl (by decide +kernel) ⟨Nat.le_of_ble_eq_true rfl, Nat.le_of_ble_eq_true rfl⟩) (tg_preV hw hK hSD hA (ci := 10) (q := (RX10, TX10, 49)) rfl h_p0 rfl) rfl rfl hl.1 rfl (lv_room (Nat.le_of_ble_eq_true rfl)) dX10_readRoom_19 ⟨Nat.le_of_ble_eq_true rfl, Nat.le_of_ble_eq_true rfl⟩) hw hA ⟨by decide, by decide⟩ (fun v_6 ws H locs hp_v_6 hw hF9 => ?_)
      have m_v_4 := AEL.over hw8 hF9 h_vu_3 m_v_4 (by decide)
      have m_u_3 := FLD.over hF9 m_u_3 (by decide)
      have x_RH_p0 := AX.over hF9 x_RH_p0 (by decide)
      have x_RLT_p0_1_4 := AX.over hF9 x_RLT_p0_1_4 (by decide)
      obtain ⟨hfn, hp_v_6⟩ := hp_v_6
      obtain ⟨sg_7, q_sg_7⟩ : ∃ q9 : OS, (f_X10_readNew__4 v_5 sg_2).1 = q9 := ⟨_, rfl⟩
      have o_p0 : OV vw_MODEL Ps ws p0 sg_7 := by rw [← q_sg_7]; exact hfn.1
      have q_v_6 : (f_X10_readNew__4 v_5 sg_2).2 = v_6 := hfn.2.1
      have r_v_6 : RI v_6 0 1 := hp_v_6.1
      by_cases c9_v_6 : v_6 = 0
      · have r_v_6 : RI v_6 0 0 := by rw [c9_v_6]; exact rl_0
        refine lv_if_ne (tgt := 27) hx hb dX10_readRoom_22 (by decide) (fun c_22 => ?_) (fun c_22 => ?_)
        · exact absurd (r_v_6.eq.trans rl_0.eq.symm) ((ti_ne c_22))
        · refine lv_iconst (v := 0) hx hb dX10_readRoom_25 (by decide) ?_
          simp only [f_X10_readRoom__1, ↓reduceIte, q_sg_2, q_v_1, eq_false c9_v_1, eq_false c_6, q_v_4, q_v_5, q_sg_7, q_v_6, eq_true c9_v_6, eq_true c_22] at hE
          subst hQ
          exact W.zret (v := 0) hx hb hr (rfl) (fun t ht hW => ⟨⟨0, ws, rfl, ⟨⟨⟨(by rw [hR, ← hE]; exact o_p0), (by rw [hR, ← hE]), trivial⟩, rl_0.to (by decide), (fun h0 => trivial), (fun h0 => absurd rfl h0)⟩, hw.1, hw.2.2.2.2.1⟩, by rw [ht]; exact hw.2.1, va_K.moved hW.alike hK, hw.2.2.1⟩, hw.2.2.2.1.F ht⟩) hw.2.2.2.1.2.2 dX10_readRoom_26
      · have r_v_6 : RI v_6 1 1 := rc_neL r_v_6 rl_0 (ti_ne c9_v_6) (by decide)
        have x_TOK_p0_gh := ((hp_v_6.2.2 c9_v_6).1)
        refine lv_if_ne (tgt := 27) hx hb dX10_readRoom_22 (by decide) (fun c_22 => ?_) (fun c_22 => ?_)
        · refine lv_aload_n hx hb dX10_readRoom_27 rfl (lv_at hl 0 rfl) ?_
          refine tg_mem (ci := 10) (C := RX10) (T := TX10) (N := 49) hx hb hts inX10 hown hK hw 15 m_u_3 rfl (by decide) (hts _ tw_1152) (fun _ h9 => h9) dX10_readRoom_28 ?_
          refine lv_iconst (v := 1) hx hb dX10_readRoom_31 (by decide) ?_
          refine lv_dup2_11 hx hb dX10_readRoom_32 rfl rfl ?_
          refine tg_imem hx hb hK hw h_vu_3 rfl rl_1 (by decide) m_v_4 dX10_readRoom_33 ?_
          have r_v_4 : RI v_4 0 3 := by obtain ⟨f9, h9, q9, g9⟩ := AX.use hw x_RLT_p0_1_4 h_vu_3 rfl m_u_3; have e9 := g9 _ _ m_v_4; have j9 : Int32.toNatClampNeg 1 = 1 := (by decide); rw [j9] at e9; have h8 : (f9 1).toInt < 4 := h9; rw [e9] at h8; exact ⟨r_v_4.1, by omega⟩
          refine lv_iconst (v := 1) hx hb dX10_readRoom_34 (by decide) ?_
          refine lv_iadd hx hb dX10_readRoom_35 (lv_topi (fun v_9 e_v_9 => ?_))
          obtain ⟨t_v_9, r_v_9⟩ := tq_add (lo := 1) (hi := 4) r_v_4 rl_1 (by decide +kernel) e_v_9
          have t_v_9 : v_9.toInt = v_4.toInt + 1 := t_v_9
          have q_v_9 : v_4 + (1 : Int32) = v_9 := e_v_9.symm
          have mo9 := m_u_3
          have hw8 := hw
          refine tg_iast hx hb hK hw h_vu_3 rfl 1 1 rl_1 (by decide) r_v_9 (by decide +kernel) (fun _ _ _ _ _ => trivial) (by decide) dX10_readRoom_36 (fun ws H locs hw hF9 hU9 => ?_)
          have x_RH_p0 : AX 15 35 (fun f => RH2p f) Ps ws p0 := AX.ast hF9 hU9 x_RH_p0 m_u_3 (fun f9 h9 => RH_keep h9 (by decide))
          have x_TOK_p0_gh := TKP.over hF9 x_TOK_p0_gh (by decide)
          have m_u_3 := FLD.over hF9 m_u_3 (by decide)
          obtain ⟨sg_10, q_sg_10⟩ : ∃ q9 : OS, sA sg_7 15 (Int32.toNatClampNeg (1 : Int32)) v_9 = q9 := ⟨_, rfl⟩
          have o_p0 : OV vw_MODEL Ps ws p0 sg_10 := by rw [← q_sg_10]; exact OV.putA (V := vw_MODEL) (t := 35) hF9 hU9 o_p0 mo9 (by decide) (by decide)
          refine lv_iconst (v := 1) hx hb dX10_readRoom_37 (by decide) ?_
          simp only [f_X10_readRoom__1, ↓reduceIte, q_sg_2, q_v_1, eq_false c9_v_1, eq_false c_6, q_v_4, q_v_5, q_sg_7, q_v_6, eq_false c9_v_6, eq_false c_22, q_v_9, q_sg_10] at hE
          subst hQ
          exact W.zret (v := 1) hx hb hr (rfl) (fun t ht hW => ⟨⟨1, ws, rfl, ⟨⟨⟨(by rw [hR, ← hE]; exact o_p0), (by rw [hR, ← hE]), trivial⟩, rl_1.to (by decide), (fun _ => trivial), (fun h0 => ⟨x_TOK_p0_gh, x_RH_p0, trivial⟩)⟩, hw.1, hw.2.2.2.2.1⟩, by rw [ht]; exact hw.2.1, va_K.moved hW.alike hK, hw.2.2.1⟩, hw.2.2.2.1.F ht⟩) hw.2.2.2.1.2.2 dX10_readRoom_38
        · have r_v_6 : RI v_6 1 0 := rc_eq1 r_v_6 rl_0 (ti_eq c_22) (by decide)
          exact (r_v_6.no (by decide)).elim
abbrev wr_X10_readFirst__7 : List (Nat × Nat) := [(10, 5), (10, 6), (10, 7), (10, 8), (10, 9), (10, 10), (10, 11), (10, 12)]
abbrev wa_X10_readFirst__7 : List Nat := []
set_option maxHeartbeats 4000000 in
set_option maxRecDepth 100000 in
theorem c_X10_readFirst__7 (l : Launch) (D : va_G) (cy : Nat → ClassId) (z : Nat → Nat) (sz : Nat) (Ps : PSI) (w0 : va_W) (hT : HT cy GG Ps w0) (p0 : Nat) (p1 : Int32) (p2 : Int32) (gh : Int) (s0 : OS) (h_p0 : (p0, 55) ∈ Ps) (r_p1 : RI p1 0 0) (r_p2 : RI p2 6 6) (x_TO_p0_gh : TOP w0 p0 (gh)) (o_p0 : OV vw_MODEL Ps w0 p0 s0) : Met l yX10_readFirst (Cond.code yX10_readFirst cX10_readFirst 3 (some .boolean) :: gT) ({ frames := 3, cells := 0, slots := 0, locals := 600 } : Room) (va_Pc [.ref p0, .int p1, .int p2] (PRE D cy z w0 sz)) (va_Qi (fun (r : Int32) (u : va_W) => ((OV vw_MODEL Ps u p0 ((f_X10_readFirst__4 p1 p2 s0).1) ∧ (f_X10_readFirst__4 p1 p2 s0).2 = r ∧ True) ∧ (RI r 0 1 ∧ (r = 0 → True) ∧ (¬ r = 0 → TKP u p0 (gh) ∧ AX 15 35 (fun f => (f (Int32.toNatClampNeg p1)).toInt < Int32.toInt p2) Ps u p0 ∧ True))) ∧ HT cy GG Ps u ∧ FR wr_X10_readFirst__7 wa_X10_readFirst__7 Ps w0 u) (BB D cy (va_A w0 sz) (fun (u : va_W) => u)) (va_A w0 sz)) 0 0 (va_A w0 sz) := by
  refine Met.ofW (cc := cX10_readFirst) (maxL := 3) (ret := (some .boolean)) (by decide) rfl ?_
  intro p e s m args below meth c s₁ B hml hv
  obtain ⟨rfl, hsz, hP, hK, hD0, hSD⟩ := hv
  have hx := B.exec
  have hb := B.bytes
  have hr := B.returns
  have hlocks := B.notSynchronized
  have hts : ∀ w ∈ gT, w.before _ s = true := fun w h => atoms_spec (ws := Cond.code yX10_readFirst cX10_readFirst 3 (some .boolean) :: gT) B.pre w (List.mem_cons_of_mem _ h)
  have hown : s.vm.findClass RX10 = some m.cls := findClass_of_methodNamed B.named
  subst hsz
  have hD := hD0.self (sz := s.heap.size)
  generalize hAe : va_A w0 s.heap.size = A at hD hSD ⊢
  have hA : ∀ q : Nat, s.heap.size ≤ q → A q := fun q h => by rw [← hAe]; exact Or.inr h
  have hl := lv_entry ([.ref p0, .int p1, .int p2]) (n := 3) (Nat.le_of_ble_eq_true rfl)
  rw [lg_entry_eq]
  generalize (lg_sl ([.ref p0, .int p1, .int p2]) ++ List.replicate (3 - (lg_sl ([.ref p0, .int p1, .int p2])).length) Slot.unset).toArray = ls at hl ⊢
  have hl : lv_has ls 3 [(0, .ref p0), (1, .int p1), (2, .int p2)] := hl
  refine nameQ (fun Q hQ => ?_)
  have hw : WD D cy GG A s wr_X10_readFirst__7 wa_X10_readFirst__7 Ps w0 Ps w0 s.heap [] := ⟨hT, hP, hD, va_S.rf, FR.rf, hT.1, [], (List.append_nil _).symm⟩
  obtain ⟨R9, hR⟩ : ∃ q9 : OS × Int32, f_X10_readFirst__4 p1 p2 s0 = q9 := ⟨_, rfl⟩
  have hE := hR
  refine lv_aload_n hx hb dX10_readFirst_0 rfl (lv_at hl 0 rfl) ?_
  refine tg_get (ci := 10) (ts := ty_MODEL) (C := RX10) (T := TX10) (N := 49) hx hb hts inX10 hown hK hw h_p0 rfl rfl 15 (by decide) (hts _ tw_1152) (fun _ h9 => h9) (ft := vR 35) rfl dX10_readFirst_1 (fun u_1 hv_u_1 m_u_1 => ?_)
  obtain ⟨vu_1, rfl, h_vu_1⟩ := hv_u_1
  refine lv_iload_n hx hb dX10_readFirst_4 rfl (lv_at hl 1 rfl) ?_
  refine tg_iald (lo := 0) (hi := 6) hx hb hK hw h_vu_1 rfl 0 0 r_p1 (by decide) (by decide +kernel) dX10_readFirst_5 (fun v_2 r_v_2 m_v_2 o_v_2 => ?_)
  have q_v_2 : s0.2.2.1 15 (Int32.toNatClampNeg p1) = v_2 := OV.eqA (V := vw_MODEL) (t := 35) hw.2.2.1 o_p0 m_u_1 m_v_2 (by decide)
  refine lv_iload_n hx hb dX10_readFirst_6 rfl (lv_at hl 2 rfl) ?_
  refine lv_icmp_ne (tgt := 16) hx hb dX10_readFirst_7 (by decide) (fun c_7 => ?_) (fun c_7 => ?_)
  · have r_v_2 : RI v_2 0 5 := rc_neU r_v_2 r_p2 (ti_ne c_7) (by decide)
    have x_RLT_p0_p1_p2 : AX 15 35 (fun f => (f (Int32.toNatClampNeg p1)).toInt < Int32.toInt p2) Ps w0 p0 := AX.mk hw h_vu_1 rfl m_u_1 (fun f9 g9 _ => by have e9 := g9 _ _ m_v_2; have j9 : Int32.toNatClampNeg p1 = Int32.toNatClampNeg p1 := rfl; rw [j9] at e9; show _; rw [e9]; have k1 := r_v_2.2; have k2 := r_p2.1; omega)
    refine lv_aload_n hx hb dX10_readFirst_16 rfl (lv_at hl 0 rfl) ?_
    have hw8 := hw
    refine tk_v (va_runV (As := []) (rest := []) ⟨hx, hb, hml, hown, hts⟩ (c_X10_go__2 l D cy z s.heap.size Ps w0 hw.1 p0 (gh) s0 h_p0 x_TO_p0_gh o_p0) (cwV 0 hts (gV tw_1298 tw_1300 ts_40 tw_15 tw_1301) rfl rfl rfl (by decide +kernel) ⟨Nat.le_of_ble_eq_true rfl, Nat.le_of_ble_eq_true rfl⟩) (tg_preV hw hK hSD hA (ci := 10) (q := (RX10, TX10, 49)) rfl h_p0 rfl) rfl rfl hl.1 rfl (lv_room (Nat.le_of_ble_eq_true rfl)) dX10_readFirst_17 ⟨Nat.le_of_ble_eq_true rfl, Nat.le_of_ble_eq_true rfl⟩) hw hA ⟨by decide, by decide⟩ (fun ws H locs hp_v_3 hw hF9 => ?_)
    have m_v_2 := AEL.over hw8 hF9 h_vu_1 m_v_2 (by decide)
    have m_u_1 := FLD.over hF9 m_u_1 (by decide)
    have x_RLT_p0_p1_p2 := AX.over hF9 x_RLT_p0_p1_p2 (by decide)
    obtain ⟨hfn, hp_v_3⟩ := hp_v_3
    obtain ⟨sg_4, q_sg_4⟩ : ∃ q9 : OS, (f_X10_go__2 s0) = q9 := ⟨_, rfl⟩
    have o_p0 : OV vw_MODEL Ps ws p0 sg_4 := by rw [← q_sg_4]; exact hfn.1
    have x_TOK_p0_gh := (hp_v_3.1)
    refine lv_iconst (v := 1) hx hb dX10_readFirst_20 (by decide) ?_
    simp only [f_X10_readFirst__4, ↓reduceIte, q_v_2, eq_false c_7, q_sg_4] at hE
    subst hQ
    exact W.zret (v := 1) hx hb hr (rfl) (fun t ht hW => ⟨⟨1, ws, rfl, ⟨⟨⟨(by rw [hR, ← hE]; exact o_p0), (by rw [hR, ← hE]), trivial⟩, rl_1.to (by decide), (fun _ => trivial), (fun h0 => ⟨x_TOK_p0_gh, x_RLT_p0_p1_p2, trivial⟩)⟩, hw.1, hw.2.2.2.2.1⟩, by rw [ht]; exact hw.2.1, va_K.moved hW.alike hK, hw.2.2.1⟩, hw.2.2.2.1.F ht⟩) hw.2.2.2.1.2.2 dX10_readFirst_21
  · have r_v_2 : RI v_2 6 6 := rc_eq1 r_v_2 r_p2 (ti_eq c_7) (by decide)
    refine lv_aload_n hx hb dX10_readFirst_10 rfl (lv_at hl 0 rfl) ?_
    refine lv_iconst (v := 4) hx hb dX10_readFirst_11 (by decide) ?_
    have hw8 := hw
    refine tk_i (va_runV (As := [.int 4]) (rest := []) ⟨hx, hb, hml, hown, hts⟩ (c_X10_bad__1 l D cy z s.heap.size Ps w0 hw.1 p0 4 s0 h_p0 (rl_4.to (by decide)) o_p0) (cwV 1 hts (gV tw_1336 tw_1338 ts_46 tw_15 tw_1339) rfl rfl rfl (by decide +kernel) ⟨Nat.le_of_ble_eq_true rfl, Nat.le_of_ble_eq_true rfl⟩) (tg_preV hw hK hSD hA (ci := 10) (q := (RX10, TX10, 49)) rfl h_p0 rfl) rfl rfl hl.1 rfl (lv_room (Nat.le_of_ble_eq_true rfl)) dX10_readFirst_12 ⟨Nat.le_of_ble_eq_true rfl, Nat.le_of_ble_eq_true rfl⟩) hw hA ⟨by decide, by decide⟩ (fun v_5 ws H locs hp_v_5 hw hF9 => ?_)
    have m_v_2 := AEL.over hw8 hF9 h_vu_1 m_v_2 (by decide)
    have m_u_1 := FLD.over hF9 m_u_1 (by decide)
    have x_TO_p0_gh := TOP.over hF9 x_TO_p0_gh (by decide)
    obtain ⟨hfn, hp_v_5⟩ := hp_v_5
    obtain ⟨sg_6, q_sg_6⟩ : ∃ q9 : OS, (f_X10_bad__1 (4 : Int32) s0).1 = q9 := ⟨_, rfl⟩
    have o_p0 : OV vw_MODEL Ps ws p0 sg_6 := by rw [← q_sg_6]; exact hfn.1
    have q_v_5 : (f_X10_bad__1 (4 : Int32) s0).2 = v_5 := hfn.2.1
    have r_v_5 : RI v_5 0 0 := hp_v_5.1
    simp only [f_X10_readFirst__4, ↓reduceIte, q_v_2, eq_true c_7, q_sg_6, q_v_5] at hE
    subst hQ
    exact W.zret (v := v_5) hx hb hr (tq_nz (r_v_5.to (by decide))) (fun t ht hW => ⟨⟨v_5, ws, rfl, ⟨⟨⟨(by rw [hR, ← hE]; exact o_p0), (by rw [hR, ← hE]), trivial⟩, r_v_5.to (by decide), (fun h0 => trivial), (fun h0 => absurd (Int32.toInt_inj.mp (by have h8 := r_v_5; unfold RI at h8; rw [Int32.toInt_zero]; omega)) h0)⟩, hw.1, hw.2.2.2.2.1⟩, by rw [ht]; exact hw.2.1, va_K.moved hW.alike hK, hw.2.2.1⟩, hw.2.2.2.1.F ht⟩) hw.2.2.2.1.2.2 dX10_readFirst_15
abbrev wr_X10_readNew__7 : List (Nat × Nat) := [(10, 5), (10, 6), (10, 7), (10, 8), (10, 9), (10, 10), (10, 11), (10, 12)]
abbrev wa_X10_readNew__7 : List Nat := [42]
set_option maxHeartbeats 4000000 in
set_option maxRecDepth 100000 in
theorem c_X10_readNew__7 (l : Launch) (D : va_G) (cy : Nat → ClassId) (z : Nat → Nat) (sz : Nat) (Ps : PSI) (w0 : va_W) (hT : HT cy GG Ps w0) (p0 : Nat) (p1 : Int32) (gh : Int) (s0 : OS) (h_p0 : (p0, 55) ∈ Ps) (r_p1 : RI p1 0 5) (x_TO_p0_gh : TOP w0 p0 (gh)) (o_p0 : OV vw_MODEL Ps w0 p0 s0) : Met l yX10_readNew (Cond.code yX10_readNew cX10_readNew 2 (some .boolean) :: gT) ({ frames := 4, cells := 0, slots := 0, locals := 800 } : Room) (va_Pc [.ref p0, .int p1] (PRE D cy z w0 sz)) (va_Qi (fun (r : Int32) (u : va_W) => ((OV vw_MODEL Ps u p0 ((f_X10_readNew__4 p1 s0).1) ∧ (f_X10_readNew__4 p1 s0).2 = r ∧ True) ∧ (RI r 0 1 ∧ (r = 0 → True) ∧ (¬ r = 0 → TKP u p0 (gh) ∧ True))) ∧ HT cy GG Ps u ∧ FR wr_X10_readNew__7 wa_X10_readNew__7 Ps w0 u) (BB D cy (va_A w0 sz) (fun (u : va_W) => u)) (va_A w0 sz)) 0 0 (va_A w0 sz) := by
  refine Met.ofW (cc := cX10_readNew) (maxL := 2) (ret := (some .boolean)) (by decide) rfl ?_
  intro p e s m args below meth c s₁ B hml hv
  obtain ⟨rfl, hsz, hP, hK, hD0, hSD⟩ := hv
  have hx := B.exec
  have hb := B.bytes
  have hr := B.returns
  have hlocks := B.notSynchronized
  have hts : ∀ w ∈ gT, w.before _ s = true := fun w h => atoms_spec (ws := Cond.code yX10_readNew cX10_readNew 2 (some .boolean) :: gT) B.pre w (List.mem_cons_of_mem _ h)
  have hown : s.vm.findClass RX10 = some m.cls := findClass_of_methodNamed B.named
  subst hsz
  have hD := hD0.self (sz := s.heap.size)
  generalize hAe : va_A w0 s.heap.size = A at hD hSD ⊢
  have hA : ∀ q : Nat, s.heap.size ≤ q → A q := fun q h => by rw [← hAe]; exact Or.inr h
  have hl := lv_entry ([.ref p0, .int p1]) (n := 2) (Nat.le_of_ble_eq_true rfl)
  rw [lg_entry_eq]
  generalize (lg_sl ([.ref p0, .int p1]) ++ List.replicate (2 - (lg_sl ([.ref p0, .int p1])).length) Slot.unset).toArray = ls at hl ⊢
  have hl : lv_has ls 2 [(0, .ref p0), (1, .int p1)] := hl
  refine nameQ (fun Q hQ => ?_)
  have hw : WD D cy GG A s wr_X10_readNew__7 wa_X10_readNew__7 Ps w0 Ps w0 s.heap [] := ⟨hT, hP, hD, va_S.rf, FR.rf, hT.1, [], (List.append_nil _).symm⟩
  obtain ⟨R9, hR⟩ : ∃ q9 : OS × Int32, f_X10_readNew__4 p1 s0 = q9 := ⟨_, rfl⟩
  have hE := hR
  refine lv_aload_n hx hb dX10_readNew_0 rfl (lv_at hl 0 rfl) ?_
  refine tk_ir (va_runV (As := []) (rest := []) ⟨hx, hb, hml, hown, hts⟩ (c_X10_isName__1 l D cy z s.heap.size Ps w0 hw.1 p0 s0 h_p0 o_p0) (cwV 0 hts (gV tw_1344 tw_1346 ts_48 tw_15 tw_1347) rfl rfl rfl (by decide +kernel) ⟨Nat.le_of_ble_eq_true rfl, Nat.le_of_ble_eq_true rfl⟩) (tg_preV hw hK hSD hA (ci := 10) (q := (RX10, TX10, 49)) rfl h_p0 rfl) rfl rfl hl.1 rfl (lv_room (Nat.le_of_ble_eq_true rfl)) dX10_readNew_1 ⟨Nat.le_of_ble_eq_true rfl, Nat.le_of_ble_eq_true rfl⟩) hw hA (fun v_1  H locs hp_v_1 hw => ?_)
  obtain ⟨hfn, hp_v_1⟩ := hp_v_1
  have q_v_1 : (f_X10_isName__1 s0) = v_1 := hfn.1
  have r_v_1 : RI v_1 0 1 := hp_v_1.1
  refine lv_if_ne (tgt := 13) hx hb dX10_readNew_4 (by decide) (fun c_4 => ?_) (fun c_4 => ?_)
  · have r_v_1 : RI v_1 1 1 := rc_neL r_v_1 rl_0 (ti_ne c_4) (by decide)
    refine lv_aload_n hx hb dX10_readNew_13 rfl (lv_at hl 0 rfl) ?_
    refine tk_ir (va_runV (As := []) (rest := []) ⟨hx, hb, hml, hown, hts⟩ (c_X10_isTaken__1 l D cy z H.size Ps w0 hw.1 p0 s0 h_p0 o_p0) (cwV 0 hts (gV tw_1348 tw_1350 ts_49 tw_15 tw_1351) rfl rfl rfl (by decide +kernel) ⟨Nat.le_of_ble_eq_true rfl, Nat.le_of_ble_eq_true rfl⟩) (tg_preV hw hK hSD hA (ci := 10) (q := (RX10, TX10, 49)) rfl h_p0 rfl) rfl rfl hl.1 rfl (lv_room (Nat.le_of_ble_eq_true rfl)) dX10_readNew_14 ⟨Nat.le_of_ble_eq_true rfl, Nat.le_of_ble_eq_true rfl⟩) hw hA (fun v_2  H locs hp_v_2 hw => ?_)
    obtain ⟨hfn, hp_v_2⟩ := hp_v_2
    have q_v_2 : (f_X10_isTaken__1 s0) = v_2 := hfn.1
    have r_v_2 : RI v_2 0 1 := hp_v_2.1
    refine lv_if_eq (tgt := 26) hx hb dX10_readNew_17 (by decide) (fun c_17 => ?_) (fun c_17 => ?_)
    · have r_v_2 : RI v_2 0 0 := rc_eq1 r_v_2 rl_0 (ti_eq c_17) (by decide)
      refine lv_aload_n hx hb dX10_readNew_26 rfl (lv_at hl 0 rfl) ?_
      refine tg_get (ci := 10) (ts := ty_MODEL) (C := RX10) (T := TX10) (N := 49) hx hb hts inX10 hown hK hw h_p0 rfl rfl 21 (by decide) (hts _ tw_1158) (fun _ h9 => h9) (ft := vR 42) rfl dX10_readNew_27 (fun u_3 hv_u_3 m_u_3 => ?_)
      obtain ⟨vu_3, rfl, h_vu_3⟩ := hv_u_3
      refine lv_iload_n hx hb dX10_readNew_30 rfl (lv_at hl 1 rfl) ?_
      refine lv_aload_n hx hb dX10_readNew_31 rfl (lv_at hl 0 rfl) ?_
      refine tg_get (ci := 10) (ts := ty_MODEL) (C := RX10) (T := TX10) (N := 49) hx hb hts inX10 hown hK hw h_p0 rfl rfl 12 (by decide) (hts _ tw_1149) (fun _ h9 => h9) (ft := vJ (-9223372036854775808) 9223372036854775807) rfl dX10_readNew_32 (fun u_4 hv_u_4 m_u_4 => ?_)
      obtain ⟨vu_4, rfl, r_vu_4⟩ := hv_u_4
      have q_vu_4 : s0.2.1 12 = vu_4 := OV.eqL (V := vw_MODEL) hw.2.2.1 o_p0 m_u_4 (by decide)
      have mo9 := m_u_3
      refine tg_lastE hx hb hK hw h_vu_3 rfl r_p1 (by decide) r_vu_4 (by decide) (by decide) dX10_readNew_35 (fun ws H locs hw hF9 hU9 => ?_)
      have x_TO_p0_gh := TOP.over hF9 x_TO_p0_gh (by decide)
      have m_u_3 := FLD.over hF9 m_u_3 (by decide)
      have m_u_4 := FLD.over hF9 m_u_4 (by decide)
      obtain ⟨sg_5, q_sg_5⟩ : ∃ q9 : OS, sB s0 21 (Int32.toNatClampNeg p1) vu_4 = q9 := ⟨_, rfl⟩
      have o_p0 : OV vw_MODEL Ps ws p0 sg_5 := by rw [← q_sg_5]; exact OV.putB (V := vw_MODEL) (t := 42) hF9 hU9 o_p0 mo9 (by decide) (by decide)
      refine lv_aload_n hx hb dX10_readNew_36 rfl (lv_at hl 0 rfl) ?_
      refine tk_v (va_runV (As := []) (rest := []) ⟨hx, hb, hml, hown, hts⟩ (c_X10_go__2 l D cy z H.size Ps ws hw.1 p0 (gh) sg_5 h_p0 x_TO_p0_gh o_p0) (cwV 0 hts (gV tw_1298 tw_1300 ts_40 tw_15 tw_1301) rfl rfl rfl (by decide +kernel) ⟨Nat.le_of_ble_eq_true rfl, Nat.le_of_ble_eq_true rfl⟩) (tg_preV hw hK hSD hA (ci := 10) (q := (RX10, TX10, 49)) rfl h_p0 rfl) rfl rfl hl.1 rfl (lv_room (Nat.le_of_ble_eq_true rfl)) dX10_readNew_37 ⟨Nat.le_of_ble_eq_true rfl, Nat.le_of_ble_eq_true rfl⟩) hw hA ⟨by decide, by decide⟩ (fun ws H locs hp_v_6 hw hF9 => ?_)
      have m_u_3 := FLD.over hF9 m_u_3 (by decide)
      obtain ⟨hfn, hp_v_6⟩ := hp_v_6
      obtain ⟨sg_7, q_sg_7⟩ : ∃ q9 : OS, (f_X10_go__2 sg_5) = q9 := ⟨_, rfl⟩
      have o_p0 : OV vw_MODEL Ps ws p0 sg_7 := by rw [← q_sg_7]; exact hfn.1
      have x_TOK_p0_gh := (hp_v_6.1)
      refine lv_iconst (v := 1) hx hb dX10_readNew_40 (by decide) ?_
      simp only [f_X10_readNew__4, ↓reduceIte, q_v_1, eq_false c_4, q_v_2, eq_true c_17, q_vu_4, q_sg_5, q_sg_7] at hE
      subst hQ
      exact W.zret (v := 1) hx hb hr (rfl) (fun t ht hW => ⟨⟨1, ws, rfl, ⟨⟨⟨(by rw [hR, ← hE]; exact o_p0), (by rw [hR, ← hE]), trivial⟩, rl_1.to (by decide), (fun _ => trivial), (fun h0 => ⟨x_TOK_p0_gh, trivial⟩)⟩, hw.1, hw.2.2.2.2.1⟩, by rw [ht]; exact hw.2.1, va_K.moved hW.alike hK, hw.2.2.1⟩, hw.2.2.2.1.F ht⟩) hw.2.2.2.1.2.2 dX10_readNew_41
    · have r_v_2 : RI v_2 1 1 := rc_neL r_v_2 rl_0 (ti_ne c_17) (by decide)
      refine lv_aload_n hx hb dX10_readNew_20 rfl (lv_at hl 0 rfl) ?_
      refine lv_iconst (v := 3) hx hb dX10_readNew_21 (by decide) ?_
      refine tk_i (va_runV (As := [.int 3]) (rest := []) ⟨hx, hb, hml, hown, hts⟩ (c_X10_bad__1 l D cy z H.size Ps w0 hw.1 p0 3 s0 h_p0 (rl_3.to (by decide)) o_p0) (cwV 1 hts (gV tw_1336 tw_1338 ts_46 tw_15 tw_1339) rfl rfl rfl (by decide +kernel) ⟨Nat.le_of_ble_eq_true rfl, Nat.le_of_ble_eq_true rfl⟩) (tg_preV hw hK hSD hA (ci := 10) (q := (RX10, TX10, 49)) rfl h_p0 rfl) rfl rfl hl.1 rfl (lv_room (Nat.le_of_ble_eq_true rfl)) dX10_readNew_22 ⟨Nat.le_of_ble_eq_true rfl, Nat.le_of_ble_eq_true rfl⟩) hw hA ⟨by decide, by decide⟩ (fun v_8 ws H locs hp_v_8 hw hF9 => ?_)
      have x_TO_p0_gh := TOP.over hF9 x_TO_p0_gh (by decide)
      obtain ⟨hfn, hp_v_8⟩ := hp_v_8
      obtain ⟨sg_9, q_sg_9⟩ : ∃ q9 : OS, (f_X10_bad__1 (3 : Int32) s0).1 = q9 := ⟨_, rfl⟩
      have o_p0 : OV vw_MODEL Ps ws p0 sg_9 := by rw [← q_sg_9]; exact hfn.1
      have q_v_8 : (f_X10_bad__1 (3 : Int32) s0).2 = v_8 := hfn.2.1
      have r_v_8 : RI v_8 0 0 := hp_v_8.1
      simp only [f_X10_readNew__4, ↓reduceIte, q_v_1, eq_false c_4, q_v_2, eq_false c_17, q_sg_9, q_v_8] at hE
      subst hQ
      exact W.zret (v := v_8) hx hb hr (tq_nz (r_v_8.to (by decide))) (fun t ht hW => ⟨⟨v_8, ws, rfl, ⟨⟨⟨(by rw [hR, ← hE]; exact o_p0), (by rw [hR, ← hE]), trivial⟩, r_v_8.to (by decide), (fun h0 => trivial), (fun h0 => absurd (Int32.toInt_inj.mp (by have h8 := r_v_8; unfold RI at h8; rw [Int32.toInt_zero]; omega)) h0)⟩, hw.1, hw.2.2.2.2.1⟩, by rw [ht]; exact hw.2.1, va_K.moved hW.alike hK, hw.2.2.1⟩, hw.2.2.2.1.F ht⟩) hw.2.2.2.1.2.2 dX10_readNew_25
  · have r_v_1 : RI v_1 0 0 := rc_eq1 r_v_1 rl_0 (ti_eq c_4) (by decide)
    refine lv_aload_n hx hb dX10_readNew_7 rfl (lv_at hl 0 rfl) ?_
    refine lv_iconst (v := 1) hx hb dX10_readNew_8 (by decide) ?_
    refine tk_i (va_runV (As := [.int 1]) (rest := []) ⟨hx, hb, hml, hown, hts⟩ (c_X10_bad__1 l D cy z H.size Ps w0 hw.1 p0 1 s0 h_p0 (rl_1.to (by decide)) o_p0) (cwV 1 hts (gV tw_1336 tw_1338 ts_46 tw_15 tw_1339) rfl rfl rfl (by decide +kernel) ⟨Nat.le_of_ble_eq_true rfl, Nat.le_of_ble_eq_true rfl⟩) (tg_preV hw hK hSD hA (ci := 10) (q := (RX10, TX10, 49)) rfl h_p0 rfl) rfl rfl hl.1 rfl (lv_room (Nat.le_of_ble_eq_true rfl)) dX10_readNew_9 ⟨Nat.le_of_ble_eq_true rfl, Nat.le_of_ble_eq_true rfl⟩) hw hA ⟨by decide, by decide⟩ (fun v_10 ws H locs hp_v_10 hw hF9 => ?_)
    have x_TO_p0_gh := TOP.over hF9 x_TO_p0_gh (by decide)
    obtain ⟨hfn, hp_v_10⟩ := hp_v_10
    obtain ⟨sg_11, q_sg_11⟩ : ∃ q9 : OS, (f_X10_bad__1 (1 : Int32) s0).1 = q9 := ⟨_, rfl⟩
    have o_p0 : OV vw_MODEL Ps ws p0 sg_11 := by rw [← q_sg_11]; exact hfn.1
    have q_v_10 : (f_X10_bad__1 (1 : Int32) s0).2 = v_10 := hfn.2.1
    have r_v_10 : RI v_10 0 0 := hp_v_10.1
    simp only [f_X10_readNew__4, ↓reduceIte, q_v_1, eq_true c_4, q_sg_11, q_v_10] at hE
    subst hQ
    exact W.zret (v := v_10) hx hb hr (tq_nz (r_v_10.to (by decide))) (fun t ht hW => ⟨⟨v_10, ws, rfl, ⟨⟨⟨(by rw [hR, ← hE]; exact o_p0), (by rw [hR, ← hE]), trivial⟩, r_v_10.to (by decide), (fun h0 => trivial), (fun h0 => absurd (Int32.toInt_inj.mp (by have h8 := r_v_10; unfold RI at h8; rw [Int32.toInt_zero]; omega)) h0)⟩, hw.1, hw.2.2.2.2.1⟩, by rw [ht]; exact hw.2.1, va_K.moved hW.alike hK, hw.2.2.1⟩, hw.2.2.2.1.F ht⟩) hw.2.2.2.1.2.2 dX10_readNew_12
abbrev wr_X10_isIn__18 : List (Nat × Nat) := []
abbrev wa_X10_isIn__18 : List Nat := []
set_option maxHeartbeats 4000000 in
set_option maxRecDepth 100000 in
theorem c_X10_isIn__18 (l : Launch) (D : va_G) (cy : Nat → ClassId) (z : Nat → Nat) (sz : Nat) (Ps : PSI) (w0 : va_W) (hT : HT cy GG Ps w0) (p0 : Int32) (p1 : Int32) (p2 : Int32) (r_p0 : RI p0 (-2147483648) 2147483647) (r_p1 : RI p1 1 1) (r_p2 : RI p2 60 60) : Met l yX10_isIn (Cond.code yX10_isIn cX10_isIn 3 (some .boolean) :: gT) ({ frames := 0, cells := 0, slots := 0, locals := 200 } : Room) (va_Pc [.int p0, .int p1, .int p2] (PRE D cy z w0 sz)) (va_Qi (fun (r : Int32) (u : Unit) => ((f_X10_isIn__14 p0 p1 p2) = r ∧ True) ∧ (RI r 0 1 ∧ (r = 0 → True) ∧ (¬ r = 0 → RI p0 1 60 ∧ True))) (BB D cy (va_A w0 sz) (fun (u : Unit) => w0)) (va_A w0 sz)) 0 0 (va_A w0 sz) := by
  refine Met.ofW (cc := cX10_isIn) (maxL := 3) (ret := (some .boolean)) (by decide) rfl ?_
  intro p e s m args below meth c s₁ B hml hv
  obtain ⟨rfl, hsz, hP, hK, hD0, hSD⟩ := hv
  have hx := B.exec
  have hb := B.bytes
  have hr := B.returns
  have hlocks := B.notSynchronized
  have hts : ∀ w ∈ gT, w.before _ s = true := fun w h => atoms_spec (ws := Cond.code yX10_isIn cX10_isIn 3 (some .boolean) :: gT) B.pre w (List.mem_cons_of_mem _ h)
  have hown : s.vm.findClass RX10 = some m.cls := findClass_of_methodNamed B.named
  subst hsz
  have hD := hD0.self (sz := s.heap.size)
  generalize hAe : va_A w0 s.heap.size = A at hD hSD ⊢
  have hA : ∀ q : Nat, s.heap.size ≤ q → A q := fun q h => by rw [← hAe]; exact Or.inr h
  have hl := lv_entry ([.int p0, .int p1, .int p2]) (n := 3) (Nat.le_of_ble_eq_true rfl)
  rw [lg_entry_eq]
  generalize (lg_sl ([.int p0, .int p1, .int p2]) ++ List.replicate (3 - (lg_sl ([.int p0, .int p1, .int p2])).length) Slot.unset).toArray = ls at hl ⊢
  have hl : lv_has ls 3 [(0, .int p0), (1, .int p1), (2, .int p2)] := hl
  refine nameQ (fun Q hQ => ?_)
  have hw : WD D cy GG A s wr_X10_isIn__18 wa_X10_isIn__18 Ps w0 Ps w0 s.heap [] := ⟨hT, hP, hD, va_S.rf, FR.rf, hT.1, [], (List.append_nil _).symm⟩
  obtain ⟨R9, hR⟩ : ∃ q9 : Int32, f_X10_isIn__14 p0 p1 p2 = q9 := ⟨_, rfl⟩
  have hE := hR
  refine lv_iload_n hx hb dX10_isIn_0 rfl (lv_at hl 0 rfl) ?_
  refine lv_iload_n hx hb dX10_isIn_1 rfl (lv_at hl 1 rfl) ?_
  refine lv_icmp_lt (tgt := 14) hx hb dX10_isIn_2 (by decide) (fun c_2 => ?_) (fun c_2 => ?_)
  · have r_p0 : RI p0 (-2147483648) 0 := rc_lt1 r_p0 r_p1 (ti_lt c_2) (by decide)
    refine lv_iconst (v := 0) hx hb dX10_isIn_14 (by decide) ?_
    simp only [f_X10_isIn__14, ↓reduceIte, eq_true c_2] at hE
    subst hQ
    exact W.zret (v := 0) hx hb hr (rfl) (fun t ht hW => ⟨⟨0, (), rfl, ⟨⟨(by rw [hR, ← hE]), trivial⟩, rl_0.to (by decide), (fun h0 => trivial), (fun h0 => absurd rfl h0)⟩, by rw [ht]; exact hw.2.1, va_K.moved hW.alike hK, hw.2.2.1⟩, hw.2.2.2.1.F ht⟩) hw.2.2.2.1.2.2 dX10_isIn_15
  · have r_p0 : RI p0 1 2147483647 := rc_le2 r_p1 r_p0 (ti_nlt c_2) (by decide)
    refine lv_iload_n hx hb dX10_isIn_5 rfl (lv_at hl 0 rfl) ?_
    refine lv_iload_n hx hb dX10_isIn_6 rfl (lv_at hl 2 rfl) ?_
    refine lv_icmp_gt (tgt := 14) hx hb dX10_isIn_7 (by decide) (fun c_7 => ?_) (fun c_7 => ?_)
    · have r_p0 : RI p0 61 2147483647 := rc_lt2 r_p2 r_p0 (ti_lt c_7) (by decide)
      refine lv_iconst (v := 0) hx hb dX10_isIn_14 (by decide) ?_
      simp only [f_X10_isIn__14, ↓reduceIte, eq_false c_2, eq_true c_7] at hE
      subst hQ
      exact W.zret (v := 0) hx hb hr (rfl) (fun t ht hW => ⟨⟨0, (), rfl, ⟨⟨(by rw [hR, ← hE]), trivial⟩, rl_0.to (by decide), (fun h0 => trivial), (fun h0 => absurd rfl h0)⟩, by rw [ht]; exact hw.2.1, va_K.moved hW.alike hK, hw.2.2.1⟩, hw.2.2.2.1.F ht⟩) hw.2.2.2.1.2.2 dX10_isIn_15
    · have r_p0 : RI p0 1 60 := rc_le1 r_p0 r_p2 (ti_nlt c_7) (by decide)
      refine lv_iconst (v := 1) hx hb dX10_isIn_10 (by decide) ?_
      refine lv_goto (tgt := 15) hx hb dX10_isIn_11 (by decide) ?_
      simp only [f_X10_isIn__14, ↓reduceIte, eq_false c_2, eq_false c_7] at hE
      subst hQ
      exact W.zret (v := 1) hx hb hr (rfl) (fun t ht hW => ⟨⟨1, (), rfl, ⟨⟨(by rw [hR, ← hE]), trivial⟩, rl_1.to (by decide), (fun _ => trivial), (fun h0 => ⟨r_p0, trivial⟩)⟩, by rw [ht]; exact hw.2.1, va_K.moved hW.alike hK, hw.2.2.1⟩, hw.2.2.2.1.F ht⟩) hw.2.2.2.1.2.2 dX10_isIn_15
abbrev wr_X10_readNumber__11 : List (Nat × Nat) := [(10, 5), (10, 6), (10, 7), (10, 8), (10, 9), (10, 10), (10, 11), (10, 12), (10, 13)]
abbrev wa_X10_readNumber__11 : List Nat := []
set_option maxHeartbeats 4000000 in
set_option maxRecDepth 100000 in
theorem c_X10_readNumber__11 (l : Launch) (D : va_G) (cy : Nat → ClassId) (z : Nat → Nat) (sz : Nat) (Ps : PSI) (w0 : va_W) (hT : HT cy GG Ps w0) (p0 : Nat) (p1 : Int32) (p2 : Int32) (gh : Int) (s0 : OS) (h_p0 : (p0, 55) ∈ Ps) (r_p1 : RI p1 1 1) (r_p2 : RI p2 60 60) (x_TO_p0_gh : TOP w0 p0 (gh)) (o_p0 : OV vw_MODEL Ps w0 p0 s0) : Met l yX10_readNumber (Cond.code yX10_readNumber cX10_readNumber 3 (some .boolean) :: gT) ({ frames := 3, cells := 0, slots := 0, locals := 600 } : Room) (va_Pc [.ref p0, .int p1, .int p2] (PRE D cy z w0 sz)) (va_Qi (fun (r : Int32) (u : va_W) => ((OV vw_MODEL Ps u p0 ((f_X10_readNumber__7 p1 p2 s0).1) ∧ (f_X10_readNumber__7 p1 p2 s0).2 = r ∧ True) ∧ (RI r 0 1 ∧ (r = 0 → True) ∧ (¬ r = 0 → (∃ v9 : Int32, FLD u p0 10 13 (.int v9) ∧ RI v9 1 60) ∧ TKP u p0 (gh) ∧ True))) ∧ HT cy GG Ps u ∧ FR wr_X10_readNumber__11 wa_X10_readNumber__11 Ps w0 u) (BB D cy (va_A w0 sz) (fun (u : va_W) => u)) (va_A w0 sz)) 0 0 (va_A w0 sz) := by
  refine Met.ofW (cc := cX10_readNumber) (maxL := 3) (ret := (some .boolean)) (by decide) rfl ?_
  intro p e s m args below meth c s₁ B hml hv
  obtain ⟨rfl, hsz, hP, hK, hD0, hSD⟩ := hv
  have hx := B.exec
  have hb := B.bytes
  have hr := B.returns
  have hlocks := B.notSynchronized
  have hts : ∀ w ∈ gT, w.before _ s = true := fun w h => atoms_spec (ws := Cond.code yX10_readNumber cX10_readNumber 3 (some .boolean) :: gT) B.pre w (List.mem_cons_of_mem _ h)
  have hown : s.vm.findClass RX10 = some m.cls := findClass_of_methodNamed B.named
  subst hsz
  have hD := hD0.self (sz := s.heap.size)
  generalize hAe : va_A w0 s.heap.size = A at hD hSD ⊢
  have hA : ∀ q : Nat, s.heap.size ≤ q → A q := fun q h => by rw [← hAe]; exact Or.inr h
  have hl := lv_entry ([.ref p0, .int p1, .int p2]) (n := 3) (Nat.le_of_ble_eq_true rfl)
  rw [lg_entry_eq]
  generalize (lg_sl ([.ref p0, .int p1, .int p2]) ++ List.replicate (3 - (lg_sl ([.ref p0, .int p1, .int p2])).length) Slot.unset).toArray = ls at hl ⊢
  have hl : lv_has ls 3 [(0, .ref p0), (1, .int p1), (2, .int p2)] := hl
  refine nameQ (fun Q hQ => ?_)
  have hw : WD D cy GG A s wr_X10_readNumber__11 wa_X10_readNumber__11 Ps w0 Ps w0 s.heap [] := ⟨hT, hP, hD, va_S.rf, FR.rf, hT.1, [], (List.append_nil _).symm⟩
  obtain ⟨R9, hR⟩ : ∃ q9 : OS × Int32, f_X10_readNumber__7 p1 p2 s0 = q9 := ⟨_, rfl⟩
  have hE := hR
  refine lv_aload_n hx hb dX10_readNumber_0 rfl (lv_at hl 0 rfl) ?_
  refine tg_get (ci := 10) (ts := ty_MODEL) (C := RX10) (T := TX10) (N := 49) hx hb hts inX10 hown hK hw h_p0 rfl rfl 7 (by decide) (hts _ tw_1144) (fun _ h9 => h9) (ft := vI (-2147483648) 2147483647) rfl dX10_readNumber_1 (fun u_1 hv_u_1 m_u_1 => ?_)
  obtain ⟨vu_1, rfl, r_vu_1⟩ := hv_u_1
  have q_vu_1 : s0.1 7 = vu_1 := OV.eqI (V := vw_MODEL) hw.2.2.1 o_p0 m_u_1 (by decide)
  refine lv_iconst (v := 3) hx hb dX10_readNumber_4 (by decide) ?_
  refine lv_icmp_eq (tgt := 14) hx hb dX10_readNumber_5 (by decide) (fun c_5 => ?_) (fun c_5 => ?_)
  · have r_vu_1 : RI vu_1 3 3 := rc_eq1 r_vu_1 rl_3 (ti_eq c_5) (by decide)
    refine lv_aload_n hx hb dX10_readNumber_14 rfl (lv_at hl 0 rfl) ?_
    refine tg_get (ci := 10) (ts := ty_MODEL) (C := RX10) (T := TX10) (N := 49) hx hb hts inX10 hown hK hw h_p0 rfl rfl 8 (by decide) (hts _ tw_1145) (fun _ h9 => h9) (ft := vI (-2147483648) 2147483647) rfl dX10_readNumber_15 (fun u_2 hv_u_2 m_u_2 => ?_)
    obtain ⟨vu_2, rfl, r_vu_2⟩ := hv_u_2
    have q_vu_2 : s0.1 8 = vu_2 := OV.eqI (V := vw_MODEL) hw.2.2.1 o_p0 m_u_2 (by decide)
    refine lv_iload_n hx hb dX10_readNumber_18 rfl (lv_at hl 1 rfl) ?_
    refine lv_iload_n hx hb dX10_readNumber_19 rfl (lv_at hl 2 rfl) ?_
    refine tk_ir (va_runS (As := [.int vu_2, .int p1, .int p2]) (rest := []) ⟨hx, hb, hml, hown, hts⟩ (c_X10_isIn__18 l D cy z s.heap.size Ps w0 hw.1 vu_2 p1 p2 r_vu_2 r_p1 r_p2) (va_cwS 3 hts (gS tw_1359 tw_1360 tw_15 tw_1361) rfl rfl rfl (by decide +kernel) ⟨Nat.le_of_ble_eq_true rfl, Nat.le_of_ble_eq_true rfl⟩) (tg_preS hw hK hSD hA) rfl rfl hl.1 rfl (lv_room (Nat.le_of_ble_eq_true rfl)) dX10_readNumber_20 ⟨Nat.le_of_ble_eq_true rfl, Nat.le_of_ble_eq_true rfl⟩) hw hA (fun v_3  H locs hp_v_3 hw => ?_)
    obtain ⟨hfn, hp_v_3⟩ := hp_v_3
    have q_v_3 : (f_X10_isIn__14 vu_2 p1 p2) = v_3 := hfn.1
    have r_v_3 : RI v_3 0 1 := hp_v_3.1
    refine lv_if_ne (tgt := 32) hx hb dX10_readNumber_23 (by decide) (fun c_23 => ?_) (fun c_23 => ?_)
    · have r_v_3 : RI v_3 1 1 := rc_neL r_v_3 rl_0 (ti_ne c_23) (by decide)
      have r_vu_2 : RI vu_2 1 60 := ((hp_v_3.2.2 c_23).1)
      refine lv_aload_n hx hb dX10_readNumber_32 rfl (lv_at hl 0 rfl) ?_
      refine lv_aload_n hx hb dX10_readNumber_33 rfl (lv_at hl 0 rfl) ?_
      refine tg_mem (ci := 10) (C := RX10) (T := TX10) (N := 49) hx hb hts inX10 hown hK hw 8 m_u_2 rfl (by decide) (hts _ tw_1145) (fun _ h9 => h9) dX10_readNumber_34 ?_
      refine tg_put (ci := 10) (ts := ty_MODEL) (v := .int vu_2) (ty := .int) (C := RX10) (T := TX10) (N := 49) hx hb hts inX10 tyX10 tyX10_ok nmX10 hown hK hw h_p0 rfl rfl 13 (by decide) (hts _ tw_1150) (fun _ h9 => h9) rfl (by decide +kernel) rfl rfl (ft := vI (-2147483648) 2147483647) rfl ⟨_, rfl, (r_vu_2.to (by decide))⟩ (by decide) dX10_readNumber_37 (fun ws H locs hw n_k_4 hF9 => ?_)
      have m_u_1 := FLD.over hF9 m_u_1 (by decide)
      have m_u_2 := FLD.over hF9 m_u_2 (by decide)
      have x_TO_p0_gh := TOP.over hF9 x_TO_p0_gh (by decide)
      obtain ⟨sg_5, q_sg_5⟩ : ∃ q9 : OS, sI s0 13 vu_2 = q9 := ⟨_, rfl⟩
      have o_p0 : OV vw_MODEL Ps ws p0 sg_5 := by rw [← q_sg_5]; exact OV.putI (V := vw_MODEL) hF9 n_k_4 o_p0 (by decide)
      refine lv_aload_n hx hb dX10_readNumber_40 rfl (lv_at hl 0 rfl) ?_
      refine tk_v (va_runV (As := []) (rest := []) ⟨hx, hb, hml, hown, hts⟩ (c_X10_go__2 l D cy z H.size Ps ws hw.1 p0 (gh) sg_5 h_p0 x_TO_p0_gh o_p0) (cwV 0 hts (gV tw_1298 tw_1300 ts_40 tw_15 tw_1301) rfl rfl rfl (by decide +kernel) ⟨Nat.le_of_ble_eq_true rfl, Nat.le_of_ble_eq_true rfl⟩) (tg_preV hw hK hSD hA (ci := 10) (q := (RX10, TX10, 49)) rfl h_p0 rfl) rfl rfl hl.1 rfl (lv_room (Nat.le_of_ble_eq_true rfl)) dX10_readNumber_41 ⟨Nat.le_of_ble_eq_true rfl, Nat.le_of_ble_eq_true rfl⟩) hw hA ⟨by decide, by decide⟩ (fun ws H locs hp_v_6 hw hF9 => ?_)
      have n_k_4 := FLD.over hF9 n_k_4 (by decide)
      obtain ⟨hfn, hp_v_6⟩ := hp_v_6
      obtain ⟨sg_7, q_sg_7⟩ : ∃ q9 : OS, (f_X10_go__2 sg_5) = q9 := ⟨_, rfl⟩
      have o_p0 : OV vw_MODEL Ps ws p0 sg_7 := by rw [← q_sg_7]; exact hfn.1
      have x_TOK_p0_gh := (hp_v_6.1)
      refine lv_iconst (v := 1) hx hb dX10_readNumber_44 (by decide) ?_
      simp only [f_X10_readNumber__7, ↓reduceIte, q_vu_1, eq_true c_5, q_vu_2, q_v_3, eq_false c_23, q_sg_5, q_sg_7] at hE
      subst hQ
      exact W.zret (v := 1) hx hb hr (rfl) (fun t ht hW => ⟨⟨1, ws, rfl, ⟨⟨⟨(by rw [hR, ← hE]; exact o_p0), (by rw [hR, ← hE]), trivial⟩, rl_1.to (by decide), (fun _ => trivial), (fun h0 => ⟨⟨_, n_k_4, r_vu_2⟩, x_TOK_p0_gh, trivial⟩)⟩, hw.1, hw.2.2.2.2.1⟩, by rw [ht]; exact hw.2.1, va_K.moved hW.alike hK, hw.2.2.1⟩, hw.2.2.2.1.F ht⟩) hw.2.2.2.1.2.2 dX10_readNumber_45
    · have r_v_3 : RI v_3 0 0 := rc_eq1 r_v_3 rl_0 (ti_eq c_23) (by decide)
      refine lv_aload_n hx hb dX10_readNumber_26 rfl (lv_at hl 0 rfl) ?_
      refine lv_iconst (v := 2) hx hb dX10_readNumber_27 (by decide) ?_
      refine tk_i (va_runV (As := [.int 2]) (rest := []) ⟨hx, hb, hml, hown, hts⟩ (c_X10_bad__1 l D cy z H.size Ps w0 hw.1 p0 2 s0 h_p0 (rl_2.to (by decide)) o_p0) (cwV 1 hts (gV tw_1336 tw_1338 ts_46 tw_15 tw_1339) rfl rfl rfl (by decide +kernel) ⟨Nat.le_of_ble_eq_true rfl, Nat.le_of_ble_eq_true rfl⟩) (tg_preV hw hK hSD hA (ci := 10) (q := (RX10, TX10, 49)) rfl h_p0 rfl) rfl rfl hl.1 rfl (lv_room (Nat.le_of_ble_eq_true rfl)) dX10_readNumber_28 ⟨Nat.le_of_ble_eq_true rfl, Nat.le_of_ble_eq_true rfl⟩) hw hA ⟨by decide, by decide⟩ (fun v_8 ws H locs hp_v_8 hw hF9 => ?_)
      have m_u_1 := FLD.over hF9 m_u_1 (by decide)
      have m_u_2 := FLD.over hF9 m_u_2 (by decide)
      have x_TO_p0_gh := TOP.over hF9 x_TO_p0_gh (by decide)
      obtain ⟨hfn, hp_v_8⟩ := hp_v_8
      obtain ⟨sg_9, q_sg_9⟩ : ∃ q9 : OS, (f_X10_bad__1 (2 : Int32) s0).1 = q9 := ⟨_, rfl⟩
      have o_p0 : OV vw_MODEL Ps ws p0 sg_9 := by rw [← q_sg_9]; exact hfn.1
      have q_v_8 : (f_X10_bad__1 (2 : Int32) s0).2 = v_8 := hfn.2.1
      have r_v_8 : RI v_8 0 0 := hp_v_8.1
      simp only [f_X10_readNumber__7, ↓reduceIte, q_vu_1, eq_true c_5, q_vu_2, q_v_3, eq_true c_23, q_sg_9, q_v_8] at hE
      subst hQ
      exact W.zret (v := v_8) hx hb hr (tq_nz (r_v_8.to (by decide))) (fun t ht hW => ⟨⟨v_8, ws, rfl, ⟨⟨⟨(by rw [hR, ← hE]; exact o_p0), (by rw [hR, ← hE]), trivial⟩, r_v_8.to (by decide), (fun h0 => trivial), (fun h0 => absurd (Int32.toInt_inj.mp (by have h8 := r_v_8; unfold RI at h8; rw [Int32.toInt_zero]; omega)) h0)⟩, hw.1, hw.2.2.2.2.1⟩, by rw [ht]; exact hw.2.1, va_K.moved hW.alike hK, hw.2.2.1⟩, hw.2.2.2.1.F ht⟩) hw.2.2.2.1.2.2 dX10_readNumber_31
  · refine lv_aload_n hx hb dX10_readNumber_8 rfl (lv_at hl 0 rfl) ?_
    refine lv_iconst (v := 1) hx hb dX10_readNumber_9 (by decide) ?_
    refine tk_i (va_runV (As := [.int 1]) (rest := []) ⟨hx, hb, hml, hown, hts⟩ (c_X10_bad__1 l D cy z s.heap.size Ps w0 hw.1 p0 1 s0 h_p0 (rl_1.to (by decide)) o_p0) (cwV 1 hts (gV tw_1336 tw_1338 ts_46 tw_15 tw_1339) rfl rfl rfl (by decide +kernel) ⟨Nat.le_of_ble_eq_true rfl, Nat.le_of_ble_eq_true rfl⟩) (tg_preV hw hK hSD hA (ci := 10) (q := (RX10, TX10, 49)) rfl h_p0 rfl) rfl rfl hl.1 rfl (lv_room (Nat.le_of_ble_eq_true rfl)) dX10_readNumber_10 ⟨Nat.le_of_ble_eq_true rfl, Nat.le_of_ble_eq_true rfl⟩) hw hA ⟨by decide, by decide⟩ (fun v_10 ws H locs hp_v_10 hw hF9 => ?_)
    have m_u_1 := FLD.over hF9 m_u_1 (by decide)
    have x_TO_p0_gh := TOP.over hF9 x_TO_p0_gh (by decide)
    obtain ⟨hfn, hp_v_10⟩ := hp_v_10
    obtain ⟨sg_11, q_sg_11⟩ : ∃ q9 : OS, (f_X10_bad__1 (1 : Int32) s0).1 = q9 := ⟨_, rfl⟩
    have o_p0 : OV vw_MODEL Ps ws p0 sg_11 := by rw [← q_sg_11]; exact hfn.1
    have q_v_10 : (f_X10_bad__1 (1 : Int32) s0).2 = v_10 := hfn.2.1
    have r_v_10 : RI v_10 0 0 := hp_v_10.1
    simp only [f_X10_readNumber__7, ↓reduceIte, q_vu_1, eq_false c_5, q_sg_11, q_v_10] at hE
    subst hQ
    exact W.zret (v := v_10) hx hb hr (tq_nz (r_v_10.to (by decide))) (fun t ht hW => ⟨⟨v_10, ws, rfl, ⟨⟨⟨(by rw [hR, ← hE]; exact o_p0), (by rw [hR, ← hE]), trivial⟩, r_v_10.to (by decide), (fun h0 => trivial), (fun h0 => absurd (Int32.toInt_inj.mp (by have h8 := r_v_10; unfold RI at h8; rw [Int32.toInt_zero]; omega)) h0)⟩, hw.1, hw.2.2.2.2.1⟩, by rw [ht]; exact hw.2.1, va_K.moved hW.alike hK, hw.2.2.1⟩, hw.2.2.2.1.F ht⟩) hw.2.2.2.1.2.2 dX10_readNumber_13
abbrev wr_X10_put__30 : List (Nat × Nat) := []
abbrev wa_X10_put__30 : List Nat := []
set_option maxHeartbeats 4000000 in
set_option maxRecDepth 100000 in
theorem c_X10_put__30 (l : Launch) (D : va_G) (cy : Nat → ClassId) (z : Nat → Nat) (sz : Nat) (Ps : PSI) (w0 : va_W) (hT : HT cy GG Ps w0) (p0 : Nat) (p1 : Int32) (p2 : Int32) (F : (Nat → Int32) → Prop) (F2 : (Nat → Int32) → Prop) (s0 : OS) (h_p0 : (p0, 55) ∈ Ps) (r_p1 : RI p1 6 11) (r_p2 : RI p2 0 0) (x_F : AX 15 35 F Ps w0 p0) (hF : ∀ (f : Nat → Int32) (v : Int32), RI v (-2147483648) 2147483647 → F f → F2 (upd f (Int32.toNatClampNeg p1) v)) (o_p0 : OV vw_MODEL Ps w0 p0 s0) : Met l yX10_put (Cond.code yX10_put cX10_put 3 (some .boolean) :: gT) ({ frames := 0, cells := 0, slots := 0, locals := 200 } : Room) (va_Pc [.ref p0, .int p1, .int p2] (PRE D cy z w0 sz)) (va_Qi (fun (r : Int32) (u : Unit) => ((f_X10_put__16 p1 p2 s0) = r ∧ True) ∧ (RI r 0 0 ∧ (r = 0 → AX 15 35 F Ps w0 p0 ∧ True) ∧ (¬ r = 0 → AX 15 35 F2 Ps w0 p0 ∧ True))) (BB D cy (va_A w0 sz) (fun (u : Unit) => w0)) (va_A w0 sz)) 0 0 (va_A w0 sz) := by
  refine Met.ofW (cc := cX10_put) (maxL := 3) (ret := (some .boolean)) (by decide) rfl ?_
  intro p e s m args below meth c s₁ B hml hv
  obtain ⟨rfl, hsz, hP, hK, hD0, hSD⟩ := hv
  have hx := B.exec
  have hb := B.bytes
  have hr := B.returns
  have hlocks := B.notSynchronized
  have hts : ∀ w ∈ gT, w.before _ s = true := fun w h => atoms_spec (ws := Cond.code yX10_put cX10_put 3 (some .boolean) :: gT) B.pre w (List.mem_cons_of_mem _ h)
  have hown : s.vm.findClass RX10 = some m.cls := findClass_of_methodNamed B.named
  subst hsz
  have hD := hD0.self (sz := s.heap.size)
  generalize hAe : va_A w0 s.heap.size = A at hD hSD ⊢
  have hA : ∀ q : Nat, s.heap.size ≤ q → A q := fun q h => by rw [← hAe]; exact Or.inr h
  have hl := lv_entry ([.ref p0, .int p1, .int p2]) (n := 3) (Nat.le_of_ble_eq_true rfl)
  rw [lg_entry_eq]
  generalize (lg_sl ([.ref p0, .int p1, .int p2]) ++ List.replicate (3 - (lg_sl ([.ref p0, .int p1, .int p2])).length) Slot.unset).toArray = ls at hl ⊢
  have hl : lv_has ls 3 [(0, .ref p0), (1, .int p1), (2, .int p2)] := hl
  refine nameQ (fun Q hQ => ?_)
  have hw : WD D cy GG A s wr_X10_put__30 wa_X10_put__30 Ps w0 Ps w0 s.heap [] := ⟨hT, hP, hD, va_S.rf, FR.rf, hT.1, [], (List.append_nil _).symm⟩
  obtain ⟨R9, hR⟩ : ∃ q9 : Int32, f_X10_put__16 p1 p2 s0 = q9 := ⟨_, rfl⟩
  have hE := hR
  refine lv_iload_n hx hb dX10_put_0 rfl (lv_at hl 2 rfl) ?_
  refine lv_if_eq (tgt := 14) hx hb dX10_put_1 (by decide) (fun c_1 => ?_) (fun c_1 => ?_)
  · refine lv_iload_n hx hb dX10_put_14 rfl (lv_at hl 2 rfl) ?_
    simp only [f_X10_put__16, ↓reduceIte, eq_true c_1] at hE
    subst hQ
    exact W.zret (v := p2) hx hb hr (tq_nz (r_p2.to (by decide))) (fun t ht hW => ⟨⟨p2, (), rfl, ⟨⟨(by rw [hR, ← hE]), trivial⟩, r_p2.to (by decide), (fun h0 => ⟨x_F, trivial⟩), (fun h0 => absurd (Int32.toInt_inj.mp (by have h8 := r_p2; unfold RI at h8; rw [Int32.toInt_zero]; omega)) h0)⟩, by rw [ht]; exact hw.2.1, va_K.moved hW.alike hK, hw.2.2.1⟩, hw.2.2.2.1.F ht⟩) hw.2.2.2.1.2.2 dX10_put_15
  · exact absurd (r_p2.eq.trans rl_0.eq.symm) ((ti_ne c_1))
abbrev wr_X10_put__31 : List (Nat × Nat) := []
abbrev wa_X10_put__31 : List Nat := [35]
set_option maxHeartbeats 4000000 in
set_option maxRecDepth 100000 in
theorem c_X10_put__31 (l : Launch) (D : va_G) (cy : Nat → ClassId) (z : Nat → Nat) (sz : Nat) (Ps : PSI) (w0 : va_W) (hT : HT cy GG Ps w0) (p0 : Nat) (p1 : Int32) (p2 : Int32) (f0_13 : Int32) (F : (Nat → Int32) → Prop) (F2 : (Nat → Int32) → Prop) (s0 : OS) (h_p0 : (p0, 55) ∈ Ps) (r_p1 : RI p1 6 11) (r_p2 : RI p2 1 1) (r_f0_13 : RI f0_13 1 60) (m_f0_13 : FLD w0 p0 10 13 (.int f0_13)) (x_F : AX 15 35 F Ps w0 p0) (hF : ∀ (f : Nat → Int32) (v : Int32), RI v 1 60 → F f → F2 (upd f (Int32.toNatClampNeg p1) v)) (o_p0 : OV vw_MODEL Ps w0 p0 s0) : Met l yX10_put (Cond.code yX10_put cX10_put 3 (some .boolean) :: gT) ({ frames := 0, cells := 0, slots := 0, locals := 200 } : Room) (va_Pc [.ref p0, .int p1, .int p2] (PRE D cy z w0 sz)) (va_Qi (fun (r : Int32) (u : va_W) => ((OV vw_MODEL Ps u p0 ((f_X10_put__17 p1 p2 s0).1) ∧ (f_X10_put__17 p1 p2 s0).2 = r ∧ True) ∧ (RI r 1 1 ∧ (r = 0 → AX 15 35 F Ps u p0 ∧ True) ∧ (¬ r = 0 → (∃ v9 : Int32, FLD u p0 10 13 (.int v9) ∧ RI v9 1 60) ∧ AX 15 35 F2 Ps u p0 ∧ True))) ∧ HT cy GG Ps u ∧ FR wr_X10_put__31 wa_X10_put__31 Ps w0 u) (BB D cy (va_A w0 sz) (fun (u : va_W) => u)) (va_A w0 sz)) 0 0 (va_A w0 sz) := by
  refine Met.ofW (cc := cX10_put) (maxL := 3) (ret := (some .boolean)) (by decide) rfl ?_
  intro p e s m args below meth c s₁ B hml hv
  obtain ⟨rfl, hsz, hP, hK, hD0, hSD⟩ := hv
  have hx := B.exec
  have hb := B.bytes
  have hr := B.returns
  have hlocks := B.notSynchronized
  have hts : ∀ w ∈ gT, w.before _ s = true := fun w h => atoms_spec (ws := Cond.code yX10_put cX10_put 3 (some .boolean) :: gT) B.pre w (List.mem_cons_of_mem _ h)
  have hown : s.vm.findClass RX10 = some m.cls := findClass_of_methodNamed B.named
  subst hsz
  have hD := hD0.self (sz := s.heap.size)
  generalize hAe : va_A w0 s.heap.size = A at hD hSD ⊢
  have hA : ∀ q : Nat, s.heap.size ≤ q → A q := fun q h => by rw [← hAe]; exact Or.inr h
  have hl := lv_entry ([.ref p0, .int p1, .int p2]) (n := 3) (Nat.le_of_ble_eq_true rfl)
  rw [lg_entry_eq]
  generalize (lg_sl ([.ref p0, .int p1, .int p2]) ++ List.replicate (3 - (lg_sl ([.ref p0, .int p1, .int p2])).length) Slot.unset).toArray = ls at hl ⊢
  have hl : lv_has ls 3 [(0, .ref p0), (1, .int p1), (2, .int p2)] := hl
  refine nameQ (fun Q hQ => ?_)
  have hw : WD D cy GG A s wr_X10_put__31 wa_X10_put__31 Ps w0 Ps w0 s.heap [] := ⟨hT, hP, hD, va_S.rf, FR.rf, hT.1, [], (List.append_nil _).symm⟩
  obtain ⟨R9, hR⟩ : ∃ q9 : OS × Int32, f_X10_put__17 p1 p2 s0 = q9 := ⟨_, rfl⟩
  have hE := hR
  refine lv_iload_n hx hb dX10_put_0 rfl (lv_at hl 2 rfl) ?_
  refine lv_if_eq (tgt := 14) hx hb dX10_put_1 (by decide) (fun c_1 => ?_) (fun c_1 => ?_)
  · have r_p2 : RI p2 1 0 := rc_eq1 r_p2 rl_0 (ti_eq c_1) (by decide)
    exact (r_p2.no (by decide)).elim
  · refine lv_aload_n hx hb dX10_put_4 rfl (lv_at hl 0 rfl) ?_
    refine tg_get (ci := 10) (ts := ty_MODEL) (C := RX10) (T := TX10) (N := 49) hx hb hts inX10 hown hK hw h_p0 rfl rfl 15 (by decide) (hts _ tw_1152) (fun _ h9 => h9) (ft := vR 35) rfl dX10_put_5 (fun u_1 hv_u_1 m_u_1 => ?_)
    obtain ⟨vu_1, rfl, h_vu_1⟩ := hv_u_1
    refine lv_iload_n hx hb dX10_put_8 rfl (lv_at hl 1 rfl) ?_
    refine lv_aload_n hx hb dX10_put_9 rfl (lv_at hl 0 rfl) ?_
    refine tg_mem (ci := 10) (C := RX10) (T := TX10) (N := 49) hx hb hts inX10 hown hK hw 13 m_f0_13 rfl (by decide) (hts _ tw_1150) (fun _ h9 => h9) dX10_put_10 ?_
    have q_f0_13 : s0.1 13 = f0_13 := OV.eqI (V := vw_MODEL) hw.2.2.1 o_p0 m_f0_13 (by decide)
    have mo9 := m_u_1
    refine tg_iast hx hb hK hw h_vu_1 rfl 6 11 r_p1 (by decide) r_f0_13 (by decide +kernel) (fun _ _ _ _ _ => trivial) (by decide) dX10_put_13 (fun ws H locs hw hF9 hU9 => ?_)
    have x_GFRB_p0 : AX 15 35 F2 Ps ws p0 := AX.ast hF9 hU9 x_F m_u_1 (fun f9 h9 => hF f9 _ r_f0_13 h9)
    have m_f0_13 := FLD.over hF9 m_f0_13 (by decide)
    have m_u_1 := FLD.over hF9 m_u_1 (by decide)
    obtain ⟨sg_2, q_sg_2⟩ : ∃ q9 : OS, sA s0 15 (Int32.toNatClampNeg p1) f0_13 = q9 := ⟨_, rfl⟩
    have o_p0 : OV vw_MODEL Ps ws p0 sg_2 := by rw [← q_sg_2]; exact OV.putA (V := vw_MODEL) (t := 35) hF9 hU9 o_p0 mo9 (by decide) (by decide)
    refine lv_iload_n hx hb dX10_put_14 rfl (lv_at hl 2 rfl) ?_
    simp only [f_X10_put__17, ↓reduceIte, eq_false c_1, q_f0_13, q_sg_2] at hE
    subst hQ
    exact W.zret (v := p2) hx hb hr (tq_nz (r_p2.to (by decide))) (fun t ht hW => ⟨⟨p2, ws, rfl, ⟨⟨⟨(by rw [hR, ← hE]; exact o_p0), (by rw [hR, ← hE]), trivial⟩, r_p2.to (by decide), (fun h0 => absurd (ti_eq h0) (by have h8 := r_p2; unfold RI at h8; rw [Int32.toInt_zero]; omega)), (fun h0 => ⟨⟨_, m_f0_13, r_f0_13⟩, x_GFRB_p0, trivial⟩)⟩, hw.1, hw.2.2.2.2.1⟩, by rw [ht]; exact hw.2.1, va_K.moved hW.alike hK, hw.2.2.1⟩, hw.2.2.2.1.F ht⟩) hw.2.2.2.1.2.2 dX10_put_15
abbrev wr_X10_readNewIdea__1 : List (Nat × Nat) := [(10, 5), (10, 6), (10, 7), (10, 8), (10, 9), (10, 10), (10, 11), (10, 12), (10, 13)]
abbrev wa_X10_readNewIdea__1 : List Nat := [35, 42]
set_option maxHeartbeats 4000000 in
set_option maxRecDepth 100000 in
theorem c_X10_readNewIdea__1 (l : Launch) (D : va_G) (cy : Nat → ClassId) (z : Nat → Nat) (sz : Nat) (Ps : PSI) (w0 : va_W) (hT : HT cy GG Ps w0) (p0 : Nat) (gh : Int) (s0 : OS) (h_p0 : (p0, 55) ∈ Ps) (x_TO_p0_gh : TOP w0 p0 (gh)) (x_RH_p0 : AX 15 35 (fun f => RH2p f) Ps w0 p0) (o_p0 : OV vw_MODEL Ps w0 p0 s0) : Met l yX10_readNewIdea (Cond.code yX10_readNewIdea cX10_readNewIdea 2 (some .boolean) :: gT) ({ frames := 5, cells := 0, slots := 0, locals := 1000 } : Room) (va_Pc [.ref p0] (PRE D cy z w0 sz)) (va_Qi (fun (r : Int32) (u : va_W) => ((OV vw_MODEL Ps u p0 ((f_X10_readNewIdea__1 s0).1) ∧ (f_X10_readNewIdea__1 s0).2 = r ∧ True) ∧ (RI r 0 1 ∧ (r = 0 → True) ∧ (¬ r = 0 → (∃ v9 : Int32, FLD u p0 10 13 (.int v9) ∧ RI v9 1 60) ∧ TKP u p0 (gh) ∧ AX 15 35 (fun f => RH2p f) Ps u p0 ∧ True))) ∧ HT cy GG Ps u ∧ FR wr_X10_readNewIdea__1 wa_X10_readNewIdea__1 Ps w0 u) (BB D cy (va_A w0 sz) (fun (u : va_W) => u)) (va_A w0 sz)) 0 0 (va_A w0 sz) := by
  refine Met.ofW (cc := cX10_readNewIdea) (maxL := 2) (ret := (some .boolean)) (by decide) rfl ?_
  intro p e s m args below meth c s₁ B hml hv
  obtain ⟨rfl, hsz, hP, hK, hD0, hSD⟩ := hv
  have hx := B.exec
  have hb := B.bytes
  have hr := B.returns
  have hlocks := B.notSynchronized
  have hts : ∀ w ∈ gT, w.before _ s = true := fun w h => atoms_spec (ws := Cond.code yX10_readNewIdea cX10_readNewIdea 2 (some .boolean) :: gT) B.pre w (List.mem_cons_of_mem _ h)
  have hown : s.vm.findClass RX10 = some m.cls := findClass_of_methodNamed B.named
  subst hsz
  have hD := hD0.self (sz := s.heap.size)
  generalize hAe : va_A w0 s.heap.size = A at hD hSD ⊢
  have hA : ∀ q : Nat, s.heap.size ≤ q → A q := fun q h => by rw [← hAe]; exact Or.inr h
  have hl := lv_entry ([.ref p0]) (n := 2) (Nat.le_of_ble_eq_true rfl)
  rw [lg_entry_eq]
  generalize (lg_sl ([.ref p0]) ++ List.replicate (2 - (lg_sl ([.ref p0])).length) Slot.unset).toArray = ls at hl ⊢
  have hl : lv_has ls 2 [(0, .ref p0)] := hl
  refine nameQ (fun Q hQ => ?_)
  have hw : WD D cy GG A s wr_X10_readNewIdea__1 wa_X10_readNewIdea__1 Ps w0 Ps w0 s.heap [] := ⟨hT, hP, hD, va_S.rf, FR.rf, hT.1, [], (List.append_nil _).symm⟩
  obtain ⟨R9, hR⟩ : ∃ q9 : OS × Int32, f_X10_readNewIdea__1 s0 = q9 := ⟨_, rfl⟩
  have hE := hR
  refine lv_aload_n hx hb dX10_readNewIdea_0 rfl (lv_at hl 0 rfl) ?_
  refine lv_iconst (v := 0) hx hb dX10_readNewIdea_1 (by decide) ?_
  refine lv_bipush (v := 6) hx hb dX10_readNewIdea_2 (by decide) ?_
  refine tk_i (va_runV (As := [.int 0, .int 6]) (rest := []) ⟨hx, hb, hml, hown, hts⟩ (c_X10_readFirst__7 l D cy z s.heap.size Ps w0 hw.1 p0 0 6 (gh) s0 h_p0 rl_0 rl_6 x_TO_p0_gh o_p0) (cwV 2 hts (gV tw_1332 tw_1334 ts_45 tw_15 tw_1335) rfl rfl rfl (by decide +kernel) ⟨Nat.le_of_ble_eq_true rfl, Nat.le_of_ble_eq_true rfl⟩) (tg_preV hw hK hSD hA (ci := 10) (q := (RX10, TX10, 49)) rfl h_p0 rfl) rfl rfl hl.1 rfl (lv_room (Nat.le_of_ble_eq_true rfl)) dX10_readNewIdea_4 ⟨Nat.le_of_ble_eq_true rfl, Nat.le_of_ble_eq_true rfl⟩) hw hA ⟨by decide, by decide⟩ (fun v_1 ws H locs hp_v_1 hw hF9 => ?_)
  have x_RH_p0 := AX.over hF9 x_RH_p0 (by decide)
  obtain ⟨hfn, hp_v_1⟩ := hp_v_1
  obtain ⟨sg_2, q_sg_2⟩ : ∃ q9 : OS, (f_X10_readFirst__4 (0 : Int32) (6 : Int32) s0).1 = q9 := ⟨_, rfl⟩
  have o_p0 : OV vw_MODEL Ps ws p0 sg_2 := by rw [← q_sg_2]; exact hfn.1
  have q_v_1 : (f_X10_readFirst__4 (0 : Int32) (6 : Int32) s0).2 = v_1 := hfn.2.1
  have r_v_1 : RI v_1 0 1 := hp_v_1.1
  by_cases c9_v_1 : v_1 = 0
  · have r_v_1 : RI v_1 0 0 := by rw [c9_v_1]; exact rl_0
    refine lv_if_ne (tgt := 12) hx hb dX10_readNewIdea_7 (by decide) (fun c_7 => ?_) (fun c_7 => ?_)
    · exact absurd (r_v_1.eq.trans rl_0.eq.symm) ((ti_ne c_7))
    · refine lv_iconst (v := 0) hx hb dX10_readNewIdea_10 (by decide) ?_
      simp only [f_X10_readNewIdea__1, ↓reduceIte, q_sg_2, q_v_1, eq_true c9_v_1, eq_true c_7] at hE
      subst hQ
      exact W.zret (v := 0) hx hb hr (rfl) (fun t ht hW => ⟨⟨0, ws, rfl, ⟨⟨⟨(by rw [hR, ← hE]; exact o_p0), (by rw [hR, ← hE]), trivial⟩, rl_0.to (by decide), (fun h0 => trivial), (fun h0 => absurd rfl h0)⟩, hw.1, hw.2.2.2.2.1⟩, by rw [ht]; exact hw.2.1, va_K.moved hW.alike hK, hw.2.2.1⟩, hw.2.2.2.1.F ht⟩) hw.2.2.2.1.2.2 dX10_readNewIdea_11
  · have r_v_1 : RI v_1 1 1 := rc_neL r_v_1 rl_0 (ti_ne c9_v_1) (by decide)
    have x_TOK_p0_gh := ((hp_v_1.2.2 c9_v_1).1)
    have x_RLT_p0_0_6 := ((hp_v_1.2.2 c9_v_1).2.1)
    refine lv_if_ne (tgt := 12) hx hb dX10_readNewIdea_7 (by decide) (fun c_7 => ?_) (fun c_7 => ?_)
    · refine lv_aload_n hx hb dX10_readNewIdea_12 rfl (lv_at hl 0 rfl) ?_
      refine tg_get (ci := 10) (ts := ty_MODEL) (C := RX10) (T := TX10) (N := 49) hx hb hts inX10 hown hK hw h_p0 rfl rfl 15 (by decide) (hts _ tw_1152) (fun _ h9 => h9) (ft := vR 35) rfl dX10_readNewIdea_13 (fun u_3 hv_u_3 m_u_3 => ?_)
      obtain ⟨vu_3, rfl, h_vu_3⟩ := hv_u_3
      refine lv_iconst (v := 0) hx hb dX10_readNewIdea_16 (by decide) ?_
      refine tg_iald (lo := 0) (hi := 6) hx hb hK hw h_vu_3 rfl 0 0 rl_0 (by decide) (by decide +kernel) dX10_readNewIdea_17 (fun v_4 r_v_4 m_v_4 o_v_4 => ?_)
      have q_v_4 : sg_2.2.2.1 15 (Int32.toNatClampNeg (0 : Int32)) = v_4 := OV.eqA (V := vw_MODEL) (t := 35) hw.2.2.1 o_p0 m_u_3 m_v_4 (by decide)
      have r_v_4 : RI v_4 0 5 := by obtain ⟨f9, h9, q9, g9⟩ := AX.use hw x_RLT_p0_0_6 h_vu_3 rfl m_u_3; have e9 := g9 _ _ m_v_4; have j9 : Int32.toNatClampNeg 0 = 0 := (by decide); rw [j9] at e9; have h8 : (f9 0).toInt < 6 := h9; rw [e9] at h8; exact ⟨r_v_4.1, by omega⟩
      refine lv_istore_n (lv' := [(1, .int v_4), (0, .ref p0)]) hx hb dX10_readNewIdea_18 rfl hl (by decide) rfl (fun ls hl => ?_)
      have x_EQ0_p0_v_4 : AX 15 35 (fun f => f 0 = v_4) Ps ws p0 := AX.mk hw h_vu_3 rfl m_u_3 (fun f9 g9 _ => by have e9 := g9 _ _ m_v_4; have j9 : Int32.toNatClampNeg 0 = 0 := (by decide); rw [j9] at e9; exact e9)
      refine lv_aload_n hx hb dX10_readNewIdea_19 rfl (lv_at hl 1 rfl) ?_
      refine lv_iload_n hx hb dX10_readNewIdea_20 rfl (lv_at hl 0 rfl) ?_
      have x_TO_p0_gh : TOP ws p0 (gh) := TKP.top x_TOK_p0_gh
      have hw8 := hw
      refine tk_i (va_runV (As := [.int v_4]) (rest := []) ⟨hx, hb, hml, hown, hts⟩ (c_X10_readNew__7 l D cy z H.size Ps ws hw.1 p0 v_4 (gh) sg_2 h_p0 r_v_4 x_TO_p0_gh o_p0) (cwV 1 hts (gV tw_1340 tw_1342 ts_47 tw_15 tw_1343) rfl rfl rfl (by decide +kernel) ⟨Nat.le_of_ble_eq_true rfl, Nat.le_of_ble_eq_true rfl⟩) (tg_preV hw hK hSD hA (ci := 10) (q := (RX10, TX10, 49)) rfl h_p0 rfl) rfl rfl hl.1 rfl (lv_room (Nat.le_of_ble_eq_true rfl)) dX10_readNewIdea_21 ⟨Nat.le_of_ble_eq_true rfl, Nat.le_of_ble_eq_true rfl⟩) hw hA ⟨by decide, by decide⟩ (fun v_5 ws H locs hp_v_5 hw hF9 => ?_)
      have m_v_4 := AEL.over hw8 hF9 h_vu_3 m_v_4 (by decide)
      have m_u_3 := FLD.over hF9 m_u_3 (by decide)
      have x_RH_p0 := AX.over hF9 x_RH_p0 (by decide)
      have x_RLT_p0_0_6 := AX.over hF9 x_RLT_p0_0_6 (by decide)
      have x_EQ0_p0_v_4 := AX.over hF9 x_EQ0_p0_v_4 (by decide)
      obtain ⟨hfn, hp_v_5⟩ := hp_v_5
      obtain ⟨sg_6, q_sg_6⟩ : ∃ q9 : OS, (f_X10_readNew__4 v_4 sg_2).1 = q9 := ⟨_, rfl⟩
      have o_p0 : OV vw_MODEL Ps ws p0 sg_6 := by rw [← q_sg_6]; exact hfn.1
      have q_v_5 : (f_X10_readNew__4 v_4 sg_2).2 = v_5 := hfn.2.1
      have r_v_5 : RI v_5 0 1 := hp_v_5.1
      by_cases c9_v_5 : v_5 = 0
      · have r_v_5 : RI v_5 0 0 := by rw [c9_v_5]; exact rl_0
        refine lv_if_eq (tgt := 45) hx hb dX10_readNewIdea_24 (by decide) (fun c_24 => ?_) (fun c_24 => ?_)
        · refine lv_iconst (v := 0) hx hb dX10_readNewIdea_45 (by decide) ?_
          simp only [f_X10_readNewIdea__1, ↓reduceIte, q_sg_2, q_v_1, eq_false c9_v_1, eq_false c_7, q_v_4, q_sg_6, q_v_5, eq_true c9_v_5, eq_true c_24] at hE
          subst hQ
          exact W.zret (v := 0) hx hb hr (rfl) (fun t ht hW => ⟨⟨0, ws, rfl, ⟨⟨⟨(by rw [hR, ← hE]; exact o_p0), (by rw [hR, ← hE]), trivial⟩, rl_0.to (by decide), (fun h0 => trivial), (fun h0 => absurd rfl h0)⟩, hw.1, hw.2.2.2.2.1⟩, by rw [ht]; exact hw.2.1, va_K.moved hW.alike hK, hw.2.2.1⟩, hw.2.2.2.1.F ht⟩) hw.2.2.2.1.2.2 dX10_readNewIdea_46
        · exact absurd (r_v_5.eq.trans rl_0.eq.symm) ((ti_ne c_24))
      · have r_v_5 : RI v_5 1 1 := rc_neL r_v_5 rl_0 (ti_ne c9_v_5) (by decide)
        have x_TOK_p0_gh := ((hp_v_5.2.2 c9_v_5).1)
        refine lv_if_eq (tgt := 45) hx hb dX10_readNewIdea_24 (by decide) (fun c_24 => ?_) (fun c_24 => ?_)
        · have r_v_5 : RI v_5 1 0 := rc_eq1 r_v_5 rl_0 (ti_eq c_24) (by decide)
          exact (r_v_5.no (by decide)).elim
        · refine lv_aload_n hx hb dX10_readNewIdea_27 rfl (lv_at hl 1 rfl) ?_
          refine lv_bipush (v := 6) hx hb dX10_readNewIdea_28 (by decide) ?_
          refine lv_iload_n hx hb dX10_readNewIdea_30 rfl (lv_at hl 0 rfl) ?_
          refine lv_iadd hx hb dX10_readNewIdea_31 (lv_topi (fun v_7 e_v_7 => ?_))
          obtain ⟨t_v_7, r_v_7⟩ := tq_add (lo := 6) (hi := 11) rl_6 r_v_4 (by decide +kernel) e_v_7
          have t_v_7 : v_7.toInt = 6 + v_4.toInt := t_v_7
          have q_v_7 : (6 : Int32) + v_4 = v_7 := e_v_7.symm
          refine lv_aload_n hx hb dX10_readNewIdea_32 rfl (lv_at hl 1 rfl) ?_
          refine lv_iconst (v := 1) hx hb dX10_readNewIdea_33 (by decide) ?_
          refine lv_bipush (v := 60) hx hb dX10_readNewIdea_34 (by decide) ?_
          have x_TO_p0_gh : TOP ws p0 (gh) := TKP.top x_TOK_p0_gh
          have hw8 := hw
          refine tk_i (va_runV (As := [.int 1, .int 60]) (rest := [.int v_7, .ref p0]) ⟨hx, hb, hml, hown, hts⟩ (c_X10_readNumber__11 l D cy z H.size Ps ws hw.1 p0 1 60 (gh) sg_6 h_p0 rl_1 rl_60 x_TO_p0_gh o_p0) (cwV 2 hts (gV tw_1355 tw_1357 ts_50 tw_15 tw_1358) rfl rfl rfl (by decide +kernel) ⟨Nat.le_of_ble_eq_true rfl, Nat.le_of_ble_eq_true rfl⟩) (tg_preV hw hK hSD hA (ci := 10) (q := (RX10, TX10, 49)) rfl h_p0 rfl) rfl rfl hl.1 rfl (lv_room (Nat.le_of_ble_eq_true rfl)) dX10_readNewIdea_36 ⟨Nat.le_of_ble_eq_true rfl, Nat.le_of_ble_eq_true rfl⟩) hw hA ⟨by decide, by decide⟩ (fun v_8 ws H locs hp_v_8 hw hF9 => ?_)
          have m_v_4 := AEL.over hw8 hF9 h_vu_3 m_v_4 (by decide)
          have m_u_3 := FLD.over hF9 m_u_3 (by decide)
          have x_RH_p0 := AX.over hF9 x_RH_p0 (by decide)
          have x_RLT_p0_0_6 := AX.over hF9 x_RLT_p0_0_6 (by decide)
          have x_EQ0_p0_v_4 := AX.over hF9 x_EQ0_p0_v_4 (by decide)
          obtain ⟨hfn, hp_v_8⟩ := hp_v_8
          obtain ⟨sg_9, q_sg_9⟩ : ∃ q9 : OS, (f_X10_readNumber__7 (1 : Int32) (60 : Int32) sg_6).1 = q9 := ⟨_, rfl⟩
          have o_p0 : OV vw_MODEL Ps ws p0 sg_9 := by rw [← q_sg_9]; exact hfn.1
          have q_v_8 : (f_X10_readNumber__7 (1 : Int32) (60 : Int32) sg_6).2 = v_8 := hfn.2.1
          have r_v_8 : RI v_8 0 1 := hp_v_8.1
          by_cases c9_v_8 : v_8 = 0
          · have r_v_8 : RI v_8 0 0 := by rw [c9_v_8]; exact rl_0
            refine tk_ir (va_runV (As := [.int v_7, .int v_8]) (rest := []) ⟨hx, hb, hml, hown, hts⟩ (c_X10_put__30 l D cy z H.size Ps ws hw.1 p0 v_7 v_8 (fun f => RH2p f ∧ (f (Int32.toNatClampNeg 0)).toInt < Int32.toInt 6 ∧ f 0 = v_4 ∧ True) (fun f => (f (Int32.toNatClampNeg 0)).toInt < Int32.toInt 6 ∧ f 0 = v_4 ∧ True) sg_9 h_p0 r_v_7 r_v_8 (AX.and hw x_RH_p0 (AX.and hw x_RLT_p0_0_6 (AX.and hw x_EQ0_p0_v_4 (rx_true hw h_p0)))) (fun f9 v9 hv9 H9 => ⟨(have h9 := H9.2.1; by show _ < _; rw [pk_un (by have k4 := r_v_7.cl (by decide); have k5 := r_v_7; unfold RI at k5; have k6 : Int32.toNatClampNeg 0 = 0 := (by decide); omega)]; exact h9), (have h9 := H9.2.2.1; by show _ = _; rw [pk_un (by have k4 := r_v_7.cl (by decide); have k5 := r_v_7; unfold RI at k5; omega)]; exact h9), trivial⟩) o_p0) (cwV 2 hts (gV tw_1362 tw_1364 ts_51 tw_15 tw_1365) rfl rfl rfl (by decide +kernel) ⟨Nat.le_of_ble_eq_true rfl, Nat.le_of_ble_eq_true rfl⟩) (tg_preV hw hK hSD hA (ci := 10) (q := (RX10, TX10, 49)) rfl h_p0 rfl) rfl rfl hl.1 rfl (lv_room (Nat.le_of_ble_eq_true rfl)) dX10_readNewIdea_39 ⟨Nat.le_of_ble_eq_true rfl, Nat.le_of_ble_eq_true rfl⟩) hw hA (fun v_10  H locs hp_v_10 hw => ?_)
            obtain ⟨hfn, hp_v_10⟩ := hp_v_10
            have q_v_10 : (f_X10_put__16 v_7 v_8 sg_9) = v_10 := hfn.1
            have r_v_10 : RI v_10 0 0 := hp_v_10.1
            by_cases c9_v_10 : v_10 = 0
            · have r_v_10 : RI v_10 0 0 := by rw [c9_v_10]; exact rl_0
              have x_RH_p0 : AX 15 35 (fun f => RH2p f) Ps ws p0 := AX.imp ((hp_v_10.2.1 c9_v_10).1) (fun _ h9 => h9.1)
              have x_RLT_p0_0_6 : AX 15 35 (fun f => (f (Int32.toNatClampNeg 0)).toInt < Int32.toInt 6) Ps ws p0 := AX.imp ((hp_v_10.2.1 c9_v_10).1) (fun _ h9 => h9.2.1)
              have x_EQ0_p0_v_4 : AX 15 35 (fun f => f 0 = v_4) Ps ws p0 := AX.imp ((hp_v_10.2.1 c9_v_10).1) (fun _ h9 => h9.2.2.1)
              refine lv_if_ne (tgt := 47) hx hb dX10_readNewIdea_42 (by decide) (fun c_42 => ?_) (fun c_42 => ?_)
              · exact absurd (r_v_10.eq.trans rl_0.eq.symm) ((ti_ne c_42))
              · refine lv_iconst (v := 0) hx hb dX10_readNewIdea_45 (by decide) ?_
                simp only [f_X10_readNewIdea__1, ↓reduceIte, q_sg_2, q_v_1, eq_false c9_v_1, eq_false c_7, q_v_4, q_sg_6, q_v_5, eq_false c9_v_5, eq_false c_24, q_v_7, q_sg_9, q_v_8, eq_true c9_v_8, q_v_10, eq_true c9_v_10, eq_true c_42] at hE
                subst hQ
                exact W.zret (v := 0) hx hb hr (rfl) (fun t ht hW => ⟨⟨0, ws, rfl, ⟨⟨⟨(by rw [hR, ← hE]; exact o_p0), (by rw [hR, ← hE]), trivial⟩, rl_0.to (by decide), (fun h0 => trivial), (fun h0 => absurd rfl h0)⟩, hw.1, hw.2.2.2.2.1⟩, by rw [ht]; exact hw.2.1, va_K.moved hW.alike hK, hw.2.2.1⟩, hw.2.2.2.1.F ht⟩) hw.2.2.2.1.2.2 dX10_readNewIdea_46
            · exact absurd (Int32.toInt_inj.mp (by rw [Int32.toInt_zero]; unfold RI at r_v_10; omega)) c9_v_10
          · have r_v_8 : RI v_8 1 1 := rc_neL r_v_8 rl_0 (ti_ne c9_v_8) (by decide)
            obtain ⟨v_11, m_v_11, r_v_11⟩ := ((hp_v_8.2.2 c9_v_8).1)
            have x_TOK_p0_gh := ((hp_v_8.2.2 c9_v_8).2.1)
            have hw8 := hw
            refine tk_i (va_runV (As := [.int v_7, .int v_8]) (rest := []) ⟨hx, hb, hml, hown, hts⟩ (c_X10_put__31 l D cy z H.size Ps ws hw.1 p0 v_7 v_8 v_11 (fun f => RH2p f ∧ (f (Int32.toNatClampNeg 0)).toInt < Int32.toInt 6 ∧ f 0 = v_4 ∧ True) (fun f => RH2p f ∧ (f (Int32.toNatClampNeg 0)).toInt < Int32.toInt 6 ∧ f 0 = v_4 ∧ 1 ≤ (f (6 + Int32.toNatClampNeg v_4)).toInt ∧ True) sg_9 h_p0 r_v_7 r_v_8 r_v_11 m_v_11 (AX.and hw x_RH_p0 (AX.and hw x_RLT_p0_0_6 (AX.and hw x_EQ0_p0_v_4 (rx_true hw h_p0)))) (fun f9 v9 hv9 H9 => ⟨(have h9 := H9.1; RH_put h9 (Int.le_trans (by decide) hv9.1) (by have k4 := r_v_7.cl (by decide); have k5 := r_v_7; unfold RI at k5; omega)), (have h9 := H9.2.1; by show _ < _; rw [pk_un (by have k4 := r_v_7.cl (by decide); have k5 := r_v_7; unfold RI at k5; have k6 : Int32.toNatClampNeg 0 = 0 := (by decide); omega)]; exact h9), (have h9 := H9.2.2.1; by show _ = _; rw [pk_un (by have k4 := r_v_7.cl (by decide); have k5 := r_v_7; unfold RI at k5; omega)]; exact h9), (by have k4 : Int32.toNatClampNeg v_7 = 6 + Int32.toNatClampNeg v_4 := (by have k1 := r_v_7.cl (by decide); have k2 := r_v_4.cl (by decide); omega); show 1 ≤ _; rw [← k4, pk_us]; exact hv9.1), trivial⟩) o_p0) (cwV 2 hts (gV tw_1362 tw_1364 ts_51 tw_15 tw_1365) rfl rfl rfl (by decide +kernel) ⟨Nat.le_of_ble_eq_true rfl, Nat.le_of_ble_eq_true rfl⟩) (tg_preV hw hK hSD hA (ci := 10) (q := (RX10, TX10, 49)) rfl h_p0 rfl) rfl rfl hl.1 rfl (lv_room (Nat.le_of_ble_eq_true rfl)) dX10_readNewIdea_39 ⟨Nat.le_of_ble_eq_true rfl, Nat.le_of_ble_eq_true rfl⟩) hw hA ⟨by decide, by decide⟩ (fun v_12 ws H locs hp_v_12 hw hF9 => ?_)
            have m_u_3 := FLD.over hF9 m_u_3 (by decide)
            have m_v_11 := FLD.over hF9 m_v_11 (by decide)
            have x_TOK_p0_gh := TKP.over hF9 x_TOK_p0_gh (by decide)
            obtain ⟨hfn, hp_v_12⟩ := hp_v_12
            obtain ⟨sg_13, q_sg_13⟩ : ∃ q9 : OS, (f_X10_put__17 v_7 v_8 sg_9).1 = q9 := ⟨_, rfl⟩
            have o_p0 : OV vw_MODEL Ps ws p0 sg_13 := by rw [← q_sg_13]; exact hfn.1
            have q_v_12 : (f_X10_put__17 v_7 v_8 sg_9).2 = v_12 := hfn.2.1
            have r_v_12 : RI v_12 1 1 := hp_v_12.1
            by_cases c9_v_12 : v_12 = 0
            · exact absurd (ti_eq c9_v_12) (by unfold RI at r_v_12; rw [Int32.toInt_zero]; omega)
            · obtain ⟨v_14, m_v_14, r_v_14⟩ := ((hp_v_12.2.2 c9_v_12).1)
              have x_RH_p0 : AX 15 35 (fun f => RH2p f) Ps ws p0 := AX.imp ((hp_v_12.2.2 c9_v_12).2.1) (fun _ h9 => h9.1)
              have x_RLT_p0_0_6 : AX 15 35 (fun f => (f (Int32.toNatClampNeg 0)).toInt < Int32.toInt 6) Ps ws p0 := AX.imp ((hp_v_12.2.2 c9_v_12).2.1) (fun _ h9 => h9.2.1)
              have x_EQ0_p0_v_4 : AX 15 35 (fun f => f 0 = v_4) Ps ws p0 := AX.imp ((hp_v_12.2.2 c9_v_12).2.1) (fun _ h9 => h9.2.2.1)
              have x_N1_p0_v_4 : AX 15 35 (fun f => 1 ≤ (f (6 + Int32.toNatClampNeg v_4)).toInt) Ps ws p0 := AX.imp ((hp_v_12.2.2 c9_v_12).2.1) (fun _ h9 => h9.2.2.2.1)
              refine lv_if_ne (tgt := 47) hx hb dX10_readNewIdea_42 (by decide) (fun c_42 => ?_) (fun c_42 => ?_)
              · refine lv_aload_n hx hb dX10_readNewIdea_47 rfl (lv_at hl 1 rfl) ?_
                refine tg_mem (ci := 10) (C := RX10) (T := TX10) (N := 49) hx hb hts inX10 hown hK hw 15 m_u_3 rfl (by decide) (hts _ tw_1152) (fun _ h9 => h9) dX10_readNewIdea_48 ?_
                refine lv_iconst (v := 0) hx hb dX10_readNewIdea_51 (by decide) ?_
                refine lv_dup2_11 hx hb dX10_readNewIdea_52 rfl rfl ?_
                refine tg_iald (lo := 0) (hi := 6) hx hb hK hw h_vu_3 rfl 0 0 rl_0 (by decide) (by decide +kernel) dX10_readNewIdea_53 (fun v_15 r_v_15 m_v_15 o_v_15 => ?_)
                have q_v_15 : sg_13.2.2.1 15 (Int32.toNatClampNeg (0 : Int32)) = v_15 := OV.eqA (V := vw_MODEL) (t := 35) hw.2.2.1 o_p0 m_u_3 m_v_15 (by decide)
                have r_v_15 : RI v_15 0 5 := by obtain ⟨f9, h9, q9, g9⟩ := AX.use hw x_RLT_p0_0_6 h_vu_3 rfl m_u_3; have e9 := g9 _ _ m_v_15; have j9 : Int32.toNatClampNeg 0 = 0 := (by decide); rw [j9] at e9; have h8 : (f9 0).toInt < 6 := h9; rw [e9] at h8; exact ⟨r_v_15.1, by omega⟩
                refine lv_iconst (v := 1) hx hb dX10_readNewIdea_54 (by decide) ?_
                refine lv_iadd hx hb dX10_readNewIdea_55 (lv_topi (fun v_16 e_v_16 => ?_))
                obtain ⟨t_v_16, r_v_16⟩ := tq_add (lo := 1) (hi := 6) r_v_15 rl_1 (by decide +kernel) e_v_16
                have t_v_16 : v_16.toInt = v_15.toInt + 1 := t_v_16
                have q_v_16 : v_15 + (1 : Int32) = v_16 := e_v_16.symm
                have x_E9 : AX 15 35 (fun f => f 0 = v_15) Ps ws p0 := AX.mk hw h_vu_3 rfl m_u_3 (fun f9 g9 _ => by have e9 := g9 _ _ m_v_15; have j9 : Int32.toNatClampNeg 0 = 0 := (by decide); rw [j9] at e9; exact e9)
                have x_RHC_p0_v_15 : AX 15 35 (fun f => RH2p f ∧ f 0 = v_15 ∧ 1 ≤ (f (6 + Int32.toNatClampNeg v_15)).toInt) Ps ws p0 := AX.imp (AX.and hw (AX.and hw x_RH_p0 x_E9) (AX.and hw x_EQ0_p0_v_4 x_N1_p0_v_4)) (fun f9 h9 => ⟨h9.1.1, h9.1.2, by have e8 := h9.2.1.symm.trans h9.1.2; have e7 := h9.2.2; rw [e8] at e7; exact e7⟩)
                have mo9 := m_u_3
                have hw8 := hw
                refine tg_iast hx hb hK hw h_vu_3 rfl 0 0 rl_0 (by decide) r_v_16 (by decide +kernel) (fun _ _ _ _ _ => trivial) (by decide) dX10_readNewIdea_56 (fun ws H locs hw hF9 hU9 => ?_)
                have x_RH_p0 : AX 15 35 (fun f => RH2p f) Ps ws p0 := AX.ast hF9 hU9 x_RHC_p0_v_15 m_u_3 (fun f9 h9 => RH_inc h9.1 h9.2.1 h9.2.2 (r_v_15.to (by decide)) t_v_16)
                have x_TOK_p0_gh := TKP.over hF9 x_TOK_p0_gh (by decide)
                have m_u_3 := FLD.over hF9 m_u_3 (by decide)
                have m_v_14 := FLD.over hF9 m_v_14 (by decide)
                obtain ⟨sg_17, q_sg_17⟩ : ∃ q9 : OS, sA sg_13 15 (Int32.toNatClampNeg (0 : Int32)) v_16 = q9 := ⟨_, rfl⟩
                have o_p0 : OV vw_MODEL Ps ws p0 sg_17 := by rw [← q_sg_17]; exact OV.putA (V := vw_MODEL) (t := 35) hF9 hU9 o_p0 mo9 (by decide) (by decide)
                refine lv_iconst (v := 1) hx hb dX10_readNewIdea_57 (by decide) ?_
                simp only [f_X10_readNewIdea__1, ↓reduceIte, q_sg_2, q_v_1, eq_false c9_v_1, eq_false c_7, q_v_4, q_sg_6, q_v_5, eq_false c9_v_5, eq_false c_24, q_v_7, q_sg_9, q_v_8, eq_false c9_v_8, q_sg_13, q_v_12, eq_false c9_v_12, eq_false c_42, q_v_15, q_v_16, q_sg_17] at hE
                subst hQ
                exact W.zret (v := 1) hx hb hr (rfl) (fun t ht hW => ⟨⟨1, ws, rfl, ⟨⟨⟨(by rw [hR, ← hE]; exact o_p0), (by rw [hR, ← hE]), trivial⟩, rl_1.to (by decide), (fun _ => trivial), (fun h0 => ⟨⟨_, m_v_14, r_v_14⟩, x_TOK_p0_gh, x_RH_p0, trivial⟩)⟩, hw.1, hw.2.2.2.2.1⟩, by rw [ht]; exact hw.2.1, va_K.moved hW.alike hK, hw.2.2.1⟩, hw.2.2.2.1.F ht⟩) hw.2.2.2.1.2.2 dX10_readNewIdea_58
              · have r_v_12 : RI v_12 1 0 := rc_eq1 r_v_12 rl_0 (ti_eq c_42) (by decide)
                exact (r_v_12.no (by decide)).elim
    · have r_v_1 : RI v_1 1 0 := rc_eq1 r_v_1 rl_0 (ti_eq c_7) (by decide)
      exact (r_v_1.no (by decide)).elim
abbrev wr_X10_readLine__1 : List (Nat × Nat) := [(10, 5), (10, 6), (10, 7), (10, 8), (10, 9), (10, 10), (10, 11), (10, 12), (10, 13)]
abbrev wa_X10_readLine__1 : List Nat := [35, 42, 45]
set_option maxHeartbeats 4000000 in
set_option maxRecDepth 100000 in
theorem c_X10_readLine__1 (l : Launch) (D : va_G) (cy : Nat → ClassId) (z : Nat → Nat) (sz : Nat) (Ps : PSI) (w0 : va_W) (hT : HT cy GG Ps w0) (p0 : Nat) (gh : Int) (s0 : OS) (h_p0 : (p0, 55) ∈ Ps) (x_TO_p0_gh : TOP w0 p0 (gh)) (x_RH_p0 : AX 15 35 (fun f => RH2p f) Ps w0 p0) (o_p0 : OV vw_MODEL Ps w0 p0 s0) : Met l yX10_readLine (Cond.code yX10_readLine cX10_readLine 1 (some .boolean) :: gT) ({ frames := 8, cells := 0, slots := 0, locals := 1600 } : Room) (va_Pc [.ref p0] (PRE D cy z w0 sz)) (va_Qi (fun (r : Int32) (u : va_W) => ((OV vw_MODEL Ps u p0 ((f_X10_readLine__1 s0).1) ∧ (f_X10_readLine__1 s0).2 = r ∧ True) ∧ (RI r 0 1 ∧ (r = 0 → True) ∧ (¬ r = 0 → TKP u p0 (gh) ∧ AX 15 35 (fun f => RH2p f) Ps u p0 ∧ True))) ∧ HT cy GG Ps u ∧ FR wr_X10_readLine__1 wa_X10_readLine__1 Ps w0 u) (BB D cy (va_A w0 sz) (fun (u : va_W) => u)) (va_A w0 sz)) 0 0 (va_A w0 sz) := by
  refine Met.ofW (cc := cX10_readLine) (maxL := 1) (ret := (some .boolean)) (by decide) rfl ?_
  intro p e s m args below meth c s₁ B hml hv
  obtain ⟨rfl, hsz, hP, hK, hD0, hSD⟩ := hv
  have hx := B.exec
  have hb := B.bytes
  have hr := B.returns
  have hlocks := B.notSynchronized
  have hts : ∀ w ∈ gT, w.before _ s = true := fun w h => atoms_spec (ws := Cond.code yX10_readLine cX10_readLine 1 (some .boolean) :: gT) B.pre w (List.mem_cons_of_mem _ h)
  have hown : s.vm.findClass RX10 = some m.cls := findClass_of_methodNamed B.named
  subst hsz
  have hD := hD0.self (sz := s.heap.size)
  generalize hAe : va_A w0 s.heap.size = A at hD hSD ⊢
  have hA : ∀ q : Nat, s.heap.size ≤ q → A q := fun q h => by rw [← hAe]; exact Or.inr h
  have hl := lv_entry ([.ref p0]) (n := 1) (Nat.le_of_ble_eq_true rfl)
  rw [lg_entry_eq]
  generalize (lg_sl ([.ref p0]) ++ List.replicate (1 - (lg_sl ([.ref p0])).length) Slot.unset).toArray = ls at hl ⊢
  have hl : lv_has ls 1 [(0, .ref p0)] := hl
  refine nameQ (fun Q hQ => ?_)
  have hw : WD D cy GG A s wr_X10_readLine__1 wa_X10_readLine__1 Ps w0 Ps w0 s.heap [] := ⟨hT, hP, hD, va_S.rf, FR.rf, hT.1, [], (List.append_nil _).symm⟩
  obtain ⟨R9, hR⟩ : ∃ q9 : OS × Int32, f_X10_readLine__1 s0 = q9 := ⟨_, rfl⟩
  have hE := hR
  refine lv_aload_n hx hb dX10_readLine_0 rfl (lv_at hl 0 rfl) ?_
  refine lv_iconst (v := 0) hx hb dX10_readLine_1 (by decide) ?_
  refine tk_ir (va_runV (As := [.int 0]) (rest := []) ⟨hx, hb, hml, hown, hts⟩ (c_X10_isWord__4 l D cy z s.heap.size Ps w0 hw.1 p0 0 s0 h_p0 (rl_0.to (by decide)) o_p0) (cwV 1 hts (gV tw_1318 tw_1320 ts_43 tw_15 tw_1321) rfl rfl rfl (by decide +kernel) ⟨Nat.le_of_ble_eq_true rfl, Nat.le_of_ble_eq_true rfl⟩) (tg_preV hw hK hSD hA (ci := 10) (q := (RX10, TX10, 49)) rfl h_p0 rfl) rfl rfl hl.1 rfl (lv_room (Nat.le_of_ble_eq_true rfl)) dX10_readLine_2 ⟨Nat.le_of_ble_eq_true rfl, Nat.le_of_ble_eq_true rfl⟩) hw hA (fun v_1  H locs hp_v_1 hw => ?_)
  obtain ⟨hfn, hp_v_1⟩ := hp_v_1
  have q_v_1 : (f_X10_isWord__4 (0 : Int32) s0) = v_1 := hfn.1
  have r_v_1 : RI v_1 0 1 := hp_v_1.1
  refine lv_if_eq (tgt := 13) hx hb dX10_readLine_5 (by decide) (fun c_5 => ?_) (fun c_5 => ?_)
  · have r_v_1 : RI v_1 0 0 := rc_eq1 r_v_1 rl_0 (ti_eq c_5) (by decide)
    refine lv_aload_n hx hb dX10_readLine_13 rfl (lv_at hl 0 rfl) ?_
    refine lv_iconst (v := 1) hx hb dX10_readLine_14 (by decide) ?_
    refine tk_ir (va_runV (As := [.int 1]) (rest := []) ⟨hx, hb, hml, hown, hts⟩ (c_X10_isWord__4 l D cy z H.size Ps w0 hw.1 p0 1 s0 h_p0 (rl_1.to (by decide)) o_p0) (cwV 1 hts (gV tw_1318 tw_1320 ts_43 tw_15 tw_1321) rfl rfl rfl (by decide +kernel) ⟨Nat.le_of_ble_eq_true rfl, Nat.le_of_ble_eq_true rfl⟩) (tg_preV hw hK hSD hA (ci := 10) (q := (RX10, TX10, 49)) rfl h_p0 rfl) rfl rfl hl.1 rfl (lv_room (Nat.le_of_ble_eq_true rfl)) dX10_readLine_15 ⟨Nat.le_of_ble_eq_true rfl, Nat.le_of_ble_eq_true rfl⟩) hw hA (fun v_2  H locs hp_v_2 hw => ?_)
    obtain ⟨hfn, hp_v_2⟩ := hp_v_2
    have q_v_2 : (f_X10_isWord__4 (1 : Int32) s0) = v_2 := hfn.1
    have r_v_2 : RI v_2 0 1 := hp_v_2.1
    refine lv_if_eq (tgt := 26) hx hb dX10_readLine_18 (by decide) (fun c_18 => ?_) (fun c_18 => ?_)
    · have r_v_2 : RI v_2 0 0 := rc_eq1 r_v_2 rl_0 (ti_eq c_18) (by decide)
      refine lv_aload_n hx hb dX10_readLine_26 rfl (lv_at hl 0 rfl) ?_
      refine lv_iconst (v := 2) hx hb dX10_readLine_27 (by decide) ?_
      refine tk_ir (va_runV (As := [.int 2]) (rest := []) ⟨hx, hb, hml, hown, hts⟩ (c_X10_isWord__4 l D cy z H.size Ps w0 hw.1 p0 2 s0 h_p0 (rl_2.to (by decide)) o_p0) (cwV 1 hts (gV tw_1318 tw_1320 ts_43 tw_15 tw_1321) rfl rfl rfl (by decide +kernel) ⟨Nat.le_of_ble_eq_true rfl, Nat.le_of_ble_eq_true rfl⟩) (tg_preV hw hK hSD hA (ci := 10) (q := (RX10, TX10, 49)) rfl h_p0 rfl) rfl rfl hl.1 rfl (lv_room (Nat.le_of_ble_eq_true rfl)) dX10_readLine_28 ⟨Nat.le_of_ble_eq_true rfl, Nat.le_of_ble_eq_true rfl⟩) hw hA (fun v_3  H locs hp_v_3 hw => ?_)
      obtain ⟨hfn, hp_v_3⟩ := hp_v_3
      have q_v_3 : (f_X10_isWord__4 (2 : Int32) s0) = v_3 := hfn.1
      have r_v_3 : RI v_3 0 1 := hp_v_3.1
      refine lv_if_eq (tgt := 39) hx hb dX10_readLine_31 (by decide) (fun c_31 => ?_) (fun c_31 => ?_)
      · have r_v_3 : RI v_3 0 0 := rc_eq1 r_v_3 rl_0 (ti_eq c_31) (by decide)
        refine lv_aload_n hx hb dX10_readLine_39 rfl (lv_at hl 0 rfl) ?_
        refine lv_iconst (v := 3) hx hb dX10_readLine_40 (by decide) ?_
        refine tk_ir (va_runV (As := [.int 3]) (rest := []) ⟨hx, hb, hml, hown, hts⟩ (c_X10_isWord__4 l D cy z H.size Ps w0 hw.1 p0 3 s0 h_p0 (rl_3.to (by decide)) o_p0) (cwV 1 hts (gV tw_1318 tw_1320 ts_43 tw_15 tw_1321) rfl rfl rfl (by decide +kernel) ⟨Nat.le_of_ble_eq_true rfl, Nat.le_of_ble_eq_true rfl⟩) (tg_preV hw hK hSD hA (ci := 10) (q := (RX10, TX10, 49)) rfl h_p0 rfl) rfl rfl hl.1 rfl (lv_room (Nat.le_of_ble_eq_true rfl)) dX10_readLine_41 ⟨Nat.le_of_ble_eq_true rfl, Nat.le_of_ble_eq_true rfl⟩) hw hA (fun v_4  H locs hp_v_4 hw => ?_)
        obtain ⟨hfn, hp_v_4⟩ := hp_v_4
        have q_v_4 : (f_X10_isWord__4 (3 : Int32) s0) = v_4 := hfn.1
        have r_v_4 : RI v_4 0 1 := hp_v_4.1
        refine lv_if_eq (tgt := 52) hx hb dX10_readLine_44 (by decide) (fun c_44 => ?_) (fun c_44 => ?_)
        · have r_v_4 : RI v_4 0 0 := rc_eq1 r_v_4 rl_0 (ti_eq c_44) (by decide)
          refine lv_aload_n hx hb dX10_readLine_52 rfl (lv_at hl 0 rfl) ?_
          refine lv_iconst (v := 4) hx hb dX10_readLine_53 (by decide) ?_
          refine tk_ir (va_runV (As := [.int 4]) (rest := []) ⟨hx, hb, hml, hown, hts⟩ (c_X10_isWord__4 l D cy z H.size Ps w0 hw.1 p0 4 s0 h_p0 (rl_4.to (by decide)) o_p0) (cwV 1 hts (gV tw_1318 tw_1320 ts_43 tw_15 tw_1321) rfl rfl rfl (by decide +kernel) ⟨Nat.le_of_ble_eq_true rfl, Nat.le_of_ble_eq_true rfl⟩) (tg_preV hw hK hSD hA (ci := 10) (q := (RX10, TX10, 49)) rfl h_p0 rfl) rfl rfl hl.1 rfl (lv_room (Nat.le_of_ble_eq_true rfl)) dX10_readLine_54 ⟨Nat.le_of_ble_eq_true rfl, Nat.le_of_ble_eq_true rfl⟩) hw hA (fun v_5  H locs hp_v_5 hw => ?_)
          obtain ⟨hfn, hp_v_5⟩ := hp_v_5
          have q_v_5 : (f_X10_isWord__4 (4 : Int32) s0) = v_5 := hfn.1
          have r_v_5 : RI v_5 0 1 := hp_v_5.1
          refine lv_if_eq (tgt := 65) hx hb dX10_readLine_57 (by decide) (fun c_57 => ?_) (fun c_57 => ?_)
          · have r_v_5 : RI v_5 0 0 := rc_eq1 r_v_5 rl_0 (ti_eq c_57) (by decide)
            refine lv_aload_n hx hb dX10_readLine_65 rfl (lv_at hl 0 rfl) ?_
            refine lv_iconst (v := 5) hx hb dX10_readLine_66 (by decide) ?_
            refine tk_ir (va_runV (As := [.int 5]) (rest := []) ⟨hx, hb, hml, hown, hts⟩ (c_X10_isWord__4 l D cy z H.size Ps w0 hw.1 p0 5 s0 h_p0 (rl_5.to (by decide)) o_p0) (cwV 1 hts (gV tw_1318 tw_1320 ts_43 tw_15 tw_1321) rfl rfl rfl (by decide +kernel) ⟨Nat.le_of_ble_eq_true rfl, Nat.le_of_ble_eq_true rfl⟩) (tg_preV hw hK hSD hA (ci := 10) (q := (RX10, TX10, 49)) rfl h_p0 rfl) rfl rfl hl.1 rfl (lv_room (Nat.le_of_ble_eq_true rfl)) dX10_readLine_67 ⟨Nat.le_of_ble_eq_true rfl, Nat.le_of_ble_eq_true rfl⟩) hw hA (fun v_6  H locs hp_v_6 hw => ?_)
            obtain ⟨hfn, hp_v_6⟩ := hp_v_6
            have q_v_6 : (f_X10_isWord__4 (5 : Int32) s0) = v_6 := hfn.1
            have r_v_6 : RI v_6 0 1 := hp_v_6.1
            refine lv_if_eq (tgt := 78) hx hb dX10_readLine_70 (by decide) (fun c_70 => ?_) (fun c_70 => ?_)
            · have r_v_6 : RI v_6 0 0 := rc_eq1 r_v_6 rl_0 (ti_eq c_70) (by decide)
              refine lv_aload_n hx hb dX10_readLine_78 rfl (lv_at hl 0 rfl) ?_
              refine lv_bipush (v := 6) hx hb dX10_readLine_79 (by decide) ?_
              refine tk_ir (va_runV (As := [.int 6]) (rest := []) ⟨hx, hb, hml, hown, hts⟩ (c_X10_isWord__4 l D cy z H.size Ps w0 hw.1 p0 6 s0 h_p0 (rl_6.to (by decide)) o_p0) (cwV 1 hts (gV tw_1318 tw_1320 ts_43 tw_15 tw_1321) rfl rfl rfl (by decide +kernel) ⟨Nat.le_of_ble_eq_true rfl, Nat.le_of_ble_eq_true rfl⟩) (tg_preV hw hK hSD hA (ci := 10) (q := (RX10, TX10, 49)) rfl h_p0 rfl) rfl rfl hl.1 rfl (lv_room (Nat.le_of_ble_eq_true rfl)) dX10_readLine_81 ⟨Nat.le_of_ble_eq_true rfl, Nat.le_of_ble_eq_true rfl⟩) hw hA (fun v_7  H locs hp_v_7 hw => ?_)
              obtain ⟨hfn, hp_v_7⟩ := hp_v_7
              have q_v_7 : (f_X10_isWord__4 (6 : Int32) s0) = v_7 := hfn.1
              have r_v_7 : RI v_7 0 1 := hp_v_7.1
              refine lv_if_eq (tgt := 92) hx hb dX10_readLine_84 (by decide) (fun c_84 => ?_) (fun c_84 => ?_)
              · have r_v_7 : RI v_7 0 0 := rc_eq1 r_v_7 rl_0 (ti_eq c_84) (by decide)
                refine lv_aload_n hx hb dX10_readLine_92 rfl (lv_at hl 0 rfl) ?_
                refine lv_bipush (v := 7) hx hb dX10_readLine_93 (by decide) ?_
                refine tk_ir (va_runV (As := [.int 7]) (rest := []) ⟨hx, hb, hml, hown, hts⟩ (c_X10_isWord__4 l D cy z H.size Ps w0 hw.1 p0 7 s0 h_p0 (rl_7.to (by decide)) o_p0) (cwV 1 hts (gV tw_1318 tw_1320 ts_43 tw_15 tw_1321) rfl rfl rfl (by decide +kernel) ⟨Nat.le_of_ble_eq_true rfl, Nat.le_of_ble_eq_true rfl⟩) (tg_preV hw hK hSD hA (ci := 10) (q := (RX10, TX10, 49)) rfl h_p0 rfl) rfl rfl hl.1 rfl (lv_room (Nat.le_of_ble_eq_true rfl)) dX10_readLine_95 ⟨Nat.le_of_ble_eq_true rfl, Nat.le_of_ble_eq_true rfl⟩) hw hA (fun v_8  H locs hp_v_8 hw => ?_)
                obtain ⟨hfn, hp_v_8⟩ := hp_v_8
                have q_v_8 : (f_X10_isWord__4 (7 : Int32) s0) = v_8 := hfn.1
                have r_v_8 : RI v_8 0 1 := hp_v_8.1
                refine lv_if_eq (tgt := 110) hx hb dX10_readLine_98 (by decide) (fun c_98 => ?_) (fun c_98 => ?_)
                · have r_v_8 : RI v_8 0 0 := rc_eq1 r_v_8 rl_0 (ti_eq c_98) (by decide)
                  refine lv_aload_n hx hb dX10_readLine_110 rfl (lv_at hl 0 rfl) ?_
                  refine lv_bipush (v := 8) hx hb dX10_readLine_111 (by decide) ?_
                  refine tk_ir (va_runV (As := [.int 8]) (rest := []) ⟨hx, hb, hml, hown, hts⟩ (c_X10_isWord__4 l D cy z H.size Ps w0 hw.1 p0 8 s0 h_p0 (rl_8.to (by decide)) o_p0) (cwV 1 hts (gV tw_1318 tw_1320 ts_43 tw_15 tw_1321) rfl rfl rfl (by decide +kernel) ⟨Nat.le_of_ble_eq_true rfl, Nat.le_of_ble_eq_true rfl⟩) (tg_preV hw hK hSD hA (ci := 10) (q := (RX10, TX10, 49)) rfl h_p0 rfl) rfl rfl hl.1 rfl (lv_room (Nat.le_of_ble_eq_true rfl)) dX10_readLine_113 ⟨Nat.le_of_ble_eq_true rfl, Nat.le_of_ble_eq_true rfl⟩) hw hA (fun v_9  H locs hp_v_9 hw => ?_)
                  obtain ⟨hfn, hp_v_9⟩ := hp_v_9
                  have q_v_9 : (f_X10_isWord__4 (8 : Int32) s0) = v_9 := hfn.1
                  have r_v_9 : RI v_9 0 1 := hp_v_9.1
                  refine lv_if_eq (tgt := 131) hx hb dX10_readLine_116 (by decide) (fun c_116 => ?_) (fun c_116 => ?_)
                  · have r_v_9 : RI v_9 0 0 := rc_eq1 r_v_9 rl_0 (ti_eq c_116) (by decide)
                    refine lv_aload_n hx hb dX10_readLine_131 rfl (lv_at hl 0 rfl) ?_
                    refine lv_iconst (v := 1) hx hb dX10_readLine_132 (by decide) ?_
                    refine tk_i (va_runV (As := [.int 1]) (rest := []) ⟨hx, hb, hml, hown, hts⟩ (c_X10_bad__1 l D cy z H.size Ps w0 hw.1 p0 1 s0 h_p0 (rl_1.to (by decide)) o_p0) (cwV 1 hts (gV tw_1336 tw_1338 ts_46 tw_15 tw_1339) rfl rfl rfl (by decide +kernel) ⟨Nat.le_of_ble_eq_true rfl, Nat.le_of_ble_eq_true rfl⟩) (tg_preV hw hK hSD hA (ci := 10) (q := (RX10, TX10, 49)) rfl h_p0 rfl) rfl rfl hl.1 rfl (lv_room (Nat.le_of_ble_eq_true rfl)) dX10_readLine_133 ⟨Nat.le_of_ble_eq_true rfl, Nat.le_of_ble_eq_true rfl⟩) hw hA ⟨by decide, by decide⟩ (fun v_10 ws H locs hp_v_10 hw hF9 => ?_)
                    have x_TO_p0_gh := TOP.over hF9 x_TO_p0_gh (by decide)
                    have x_RH_p0 := AX.over hF9 x_RH_p0 (by decide)
                    obtain ⟨hfn, hp_v_10⟩ := hp_v_10
                    obtain ⟨sg_11, q_sg_11⟩ : ∃ q9 : OS, (f_X10_bad__1 (1 : Int32) s0).1 = q9 := ⟨_, rfl⟩
                    have o_p0 : OV vw_MODEL Ps ws p0 sg_11 := by rw [← q_sg_11]; exact hfn.1
                    have q_v_10 : (f_X10_bad__1 (1 : Int32) s0).2 = v_10 := hfn.2.1
                    have r_v_10 : RI v_10 0 0 := hp_v_10.1
                    simp only [f_X10_readLine__1, ↓reduceIte, q_v_1, eq_true c_5, q_v_2, eq_true c_18, q_v_3, eq_true c_31, q_v_4, eq_true c_44, q_v_5, eq_true c_57, q_v_6, eq_true c_70, q_v_7, eq_true c_84, q_v_8, eq_true c_98, q_v_9, eq_true c_116, q_sg_11, q_v_10] at hE
                    subst hQ
                    exact W.zret (v := v_10) hx hb hr (tq_nz (r_v_10.to (by decide))) (fun t ht hW => ⟨⟨v_10, ws, rfl, ⟨⟨⟨(by rw [hR, ← hE]; exact o_p0), (by rw [hR, ← hE]), trivial⟩, r_v_10.to (by decide), (fun h0 => trivial), (fun h0 => absurd (Int32.toInt_inj.mp (by have h8 := r_v_10; unfold RI at h8; rw [Int32.toInt_zero]; omega)) h0)⟩, hw.1, hw.2.2.2.2.1⟩, by rw [ht]; exact hw.2.1, va_K.moved hW.alike hK, hw.2.2.1⟩, hw.2.2.2.1.F ht⟩) hw.2.2.2.1.2.2 dX10_readLine_136
                  · have r_v_9 : RI v_9 1 1 := rc_neL r_v_9 rl_0 (ti_ne c_116) (by decide)
                    refine lv_aload_n hx hb dX10_readLine_119 rfl (lv_at hl 0 rfl) ?_
                    refine lv_iconst (v := 1) hx hb dX10_readLine_120 (by decide) ?_
                    refine lv_iconst (v := 5) hx hb dX10_readLine_121 (by decide) ?_
                    refine lv_iconst (v := 1) hx hb dX10_readLine_122 (by decide) ?_
                    refine lv_bipush (v := 20) hx hb dX10_readLine_123 (by decide) ?_
                    refine tk_i (va_runV (As := [.int 1, .int 5, .int 1, .int 20]) (rest := []) ⟨hx, hb, hml, hown, hts⟩ (c_X10_readOnce__2 l D cy z H.size Ps w0 hw.1 p0 1 5 1 20 (gh) s0 h_p0 rl_1 rl_5 rl_1 rl_20 x_TO_p0_gh x_RH_p0 o_p0) (cwV 4 hts (gV tw_1405 tw_1407 ts_61 tw_15 tw_1408) rfl rfl rfl (by decide +kernel) ⟨Nat.le_of_ble_eq_true rfl, Nat.le_of_ble_eq_true rfl⟩) (tg_preV hw hK hSD hA (ci := 10) (q := (RX10, TX10, 49)) rfl h_p0 rfl) rfl rfl hl.1 rfl (lv_room (Nat.le_of_ble_eq_true rfl)) dX10_readLine_125 ⟨Nat.le_of_ble_eq_true rfl, Nat.le_of_ble_eq_true rfl⟩) hw hA ⟨by decide, by decide⟩ (fun v_12 ws H locs hp_v_12 hw hF9 => ?_)
                    obtain ⟨hfn, hp_v_12⟩ := hp_v_12
                    obtain ⟨sg_13, q_sg_13⟩ : ∃ q9 : OS, (f_X10_readOnce__2 (1 : Int32) (5 : Int32) (1 : Int32) (20 : Int32) s0).1 = q9 := ⟨_, rfl⟩
                    have o_p0 : OV vw_MODEL Ps ws p0 sg_13 := by rw [← q_sg_13]; exact hfn.1
                    have q_v_12 : (f_X10_readOnce__2 (1 : Int32) (5 : Int32) (1 : Int32) (20 : Int32) s0).2 = v_12 := hfn.2.1
                    have r_v_12 : RI v_12 0 1 := hp_v_12.1
                    by_cases c9_v_12 : v_12 = 0
                    · have r_v_12 : RI v_12 0 0 := by rw [c9_v_12]; exact rl_0
                      refine lv_goto (tgt := 136) hx hb dX10_readLine_128 (by decide) ?_
                      simp only [f_X10_readLine__1, ↓reduceIte, q_v_1, eq_true c_5, q_v_2, eq_true c_18, q_v_3, eq_true c_31, q_v_4, eq_true c_44, q_v_5, eq_true c_57, q_v_6, eq_true c_70, q_v_7, eq_true c_84, q_v_8, eq_true c_98, q_v_9, eq_false c_116, q_sg_13, q_v_12, eq_true c9_v_12] at hE
                      subst hQ
                      exact W.zret (v := v_12) hx hb hr (tq_nz (r_v_12.to (by decide))) (fun t ht hW => ⟨⟨v_12, ws, rfl, ⟨⟨⟨(by rw [hR, ← hE]; exact o_p0), (by rw [hR, ← hE]), trivial⟩, r_v_12.to (by decide), (fun h0 => trivial), (fun h0 => absurd (Int32.toInt_inj.mp (by have h8 := r_v_12; unfold RI at h8; rw [Int32.toInt_zero]; omega)) h0)⟩, hw.1, hw.2.2.2.2.1⟩, by rw [ht]; exact hw.2.1, va_K.moved hW.alike hK, hw.2.2.1⟩, hw.2.2.2.1.F ht⟩) hw.2.2.2.1.2.2 dX10_readLine_136
                    · have r_v_12 : RI v_12 1 1 := rc_neL r_v_12 rl_0 (ti_ne c9_v_12) (by decide)
                      obtain ⟨v_14, m_v_14, r_v_14⟩ := ((hp_v_12.2.2 c9_v_12).1)
                      have x_TOK_p0_gh := ((hp_v_12.2.2 c9_v_12).2.1)
                      have x_RH_p0 := ((hp_v_12.2.2 c9_v_12).2.2.1)
                      refine lv_goto (tgt := 136) hx hb dX10_readLine_128 (by decide) ?_
                      simp only [f_X10_readLine__1, ↓reduceIte, q_v_1, eq_true c_5, q_v_2, eq_true c_18, q_v_3, eq_true c_31, q_v_4, eq_true c_44, q_v_5, eq_true c_57, q_v_6, eq_true c_70, q_v_7, eq_true c_84, q_v_8, eq_true c_98, q_v_9, eq_false c_116, q_sg_13, q_v_12, eq_false c9_v_12] at hE
                      subst hQ
                      exact W.zret (v := v_12) hx hb hr (tq_nz (r_v_12.to (by decide))) (fun t ht hW => ⟨⟨v_12, ws, rfl, ⟨⟨⟨(by rw [hR, ← hE]; exact o_p0), (by rw [hR, ← hE]), trivial⟩, r_v_12.to (by decide), (fun _ => trivial), (fun h0 => ⟨x_TOK_p0_gh, x_RH_p0, trivial⟩)⟩, hw.1, hw.2.2.2.2.1⟩, by rw [ht]; exact hw.2.1, va_K.moved hW.alike hK, hw.2.2.1⟩, hw.2.2.2.1.F ht⟩) hw.2.2.2.1.2.2 dX10_readLine_136
                · have r_v_8 : RI v_8 1 1 := rc_neL r_v_8 rl_0 (ti_ne c_98) (by decide)
                  refine lv_aload_n hx hb dX10_readLine_101 rfl (lv_at hl 0 rfl) ?_
                  refine lv_iconst (v := 0) hx hb dX10_readLine_102 (by decide) ?_
                  refine lv_iconst (v := 4) hx hb dX10_readLine_103 (by decide) ?_
                  refine lv_iconst (v := 0) hx hb dX10_readLine_104 (by decide) ?_
                  refine lv_iconst (v := 5) hx hb dX10_readLine_105 (by decide) ?_
                  refine tk_i (va_runV (As := [.int 0, .int 4, .int 0, .int 5]) (rest := []) ⟨hx, hb, hml, hown, hts⟩ (c_X10_readOnce__3 l D cy z H.size Ps w0 hw.1 p0 0 4 0 5 (gh) s0 h_p0 rl_0 rl_4 rl_0 rl_5 x_TO_p0_gh x_RH_p0 o_p0) (cwV 4 hts (gV tw_1405 tw_1407 ts_61 tw_15 tw_1408) rfl rfl rfl (by decide +kernel) ⟨Nat.le_of_ble_eq_true rfl, Nat.le_of_ble_eq_true rfl⟩) (tg_preV hw hK hSD hA (ci := 10) (q := (RX10, TX10, 49)) rfl h_p0 rfl) rfl rfl hl.1 rfl (lv_room (Nat.le_of_ble_eq_true rfl)) dX10_readLine_106 ⟨Nat.le_of_ble_eq_true rfl, Nat.le_of_ble_eq_true rfl⟩) hw hA ⟨by decide, by decide⟩ (fun v_15 ws H locs hp_v_15 hw hF9 => ?_)
                  obtain ⟨hfn, hp_v_15⟩ := hp_v_15
                  obtain ⟨sg_16, q_sg_16⟩ : ∃ q9 : OS, (f_X10_readOnce__2 (0 : Int32) (4 : Int32) (0 : Int32) (5 : Int32) s0).1 = q9 := ⟨_, rfl⟩
                  have o_p0 : OV vw_MODEL Ps ws p0 sg_16 := by rw [← q_sg_16]; exact hfn.1
                  have q_v_15 : (f_X10_readOnce__2 (0 : Int32) (4 : Int32) (0 : Int32) (5 : Int32) s0).2 = v_15 := hfn.2.1
                  have r_v_15 : RI v_15 0 1 := hp_v_15.1
                  by_cases c9_v_15 : v_15 = 0
                  · have r_v_15 : RI v_15 0 0 := by rw [c9_v_15]; exact rl_0
                    simp only [f_X10_readLine__1, ↓reduceIte, q_v_1, eq_true c_5, q_v_2, eq_true c_18, q_v_3, eq_true c_31, q_v_4, eq_true c_44, q_v_5, eq_true c_57, q_v_6, eq_true c_70, q_v_7, eq_true c_84, q_v_8, eq_false c_98, q_sg_16, q_v_15, eq_true c9_v_15] at hE
                    subst hQ
                    exact W.zret (v := v_15) hx hb hr (tq_nz (r_v_15.to (by decide))) (fun t ht hW => ⟨⟨v_15, ws, rfl, ⟨⟨⟨(by rw [hR, ← hE]; exact o_p0), (by rw [hR, ← hE]), trivial⟩, r_v_15.to (by decide), (fun h0 => trivial), (fun h0 => absurd (Int32.toInt_inj.mp (by have h8 := r_v_15; unfold RI at h8; rw [Int32.toInt_zero]; omega)) h0)⟩, hw.1, hw.2.2.2.2.1⟩, by rw [ht]; exact hw.2.1, va_K.moved hW.alike hK, hw.2.2.1⟩, hw.2.2.2.1.F ht⟩) hw.2.2.2.1.2.2 dX10_readLine_109
                  · have r_v_15 : RI v_15 1 1 := rc_neL r_v_15 rl_0 (ti_ne c9_v_15) (by decide)
                    obtain ⟨v_17, m_v_17, r_v_17⟩ := ((hp_v_15.2.2 c9_v_15).1)
                    have x_TOK_p0_gh := ((hp_v_15.2.2 c9_v_15).2.1)
                    have x_RH_p0 := ((hp_v_15.2.2 c9_v_15).2.2.1)
                    simp only [f_X10_readLine__1, ↓reduceIte, q_v_1, eq_true c_5, q_v_2, eq_true c_18, q_v_3, eq_true c_31, q_v_4, eq_true c_44, q_v_5, eq_true c_57, q_v_6, eq_true c_70, q_v_7, eq_true c_84, q_v_8, eq_false c_98, q_sg_16, q_v_15, eq_false c9_v_15] at hE
                    subst hQ
                    exact W.zret (v := v_15) hx hb hr (tq_nz (r_v_15.to (by decide))) (fun t ht hW => ⟨⟨v_15, ws, rfl, ⟨⟨⟨(by rw [hR, ← hE]; exact o_p0), (by rw [hR, ← hE]), trivial⟩, r_v_15.to (by decide), (fun _ => trivial), (fun h0 => ⟨x_TOK_p0_gh, x_RH_p0, trivial⟩)⟩, hw.1, hw.2.2.2.2.1⟩, by rw [ht]; exact hw.2.1, va_K.moved hW.alike hK, hw.2.2.1⟩, hw.2.2.2.1.F ht⟩) hw.2.2.2.1.2.2 dX10_readLine_109
              · have r_v_7 : RI v_7 1 1 := rc_neL r_v_7 rl_0 (ti_ne c_84) (by decide)
                refine lv_aload_n hx hb dX10_readLine_87 rfl (lv_at hl 0 rfl) ?_
                refine tk_i (va_runV (As := []) (rest := []) ⟨hx, hb, hml, hown, hts⟩ (c_X10_readQuarrel__1 l D cy z H.size Ps w0 hw.1 p0 (gh) s0 h_p0 x_TO_p0_gh x_RH_p0 o_p0) (cwV 0 hts (gV tw_1398 tw_1400 ts_60 tw_15 tw_1401) rfl rfl rfl (by decide +kernel) ⟨Nat.le_of_ble_eq_true rfl, Nat.le_of_ble_eq_true rfl⟩) (tg_preV hw hK hSD hA (ci := 10) (q := (RX10, TX10, 49)) rfl h_p0 rfl) rfl rfl hl.1 rfl (lv_room (Nat.le_of_ble_eq_true rfl)) dX10_readLine_88 ⟨Nat.le_of_ble_eq_true rfl, Nat.le_of_ble_eq_true rfl⟩) hw hA ⟨by decide, by decide⟩ (fun v_18 ws H locs hp_v_18 hw hF9 => ?_)
                obtain ⟨hfn, hp_v_18⟩ := hp_v_18
                obtain ⟨sg_19, q_sg_19⟩ : ∃ q9 : OS, (f_X10_readQuarrel__1 s0).1 = q9 := ⟨_, rfl⟩
                have o_p0 : OV vw_MODEL Ps ws p0 sg_19 := by rw [← q_sg_19]; exact hfn.1
                have q_v_18 : (f_X10_readQuarrel__1 s0).2 = v_18 := hfn.2.1
                have r_v_18 : RI v_18 0 1 := hp_v_18.1
                by_cases c9_v_18 : v_18 = 0
                · have r_v_18 : RI v_18 0 0 := by rw [c9_v_18]; exact rl_0
                  simp only [f_X10_readLine__1, ↓reduceIte, q_v_1, eq_true c_5, q_v_2, eq_true c_18, q_v_3, eq_true c_31, q_v_4, eq_true c_44, q_v_5, eq_true c_57, q_v_6, eq_true c_70, q_v_7, eq_false c_84, q_sg_19, q_v_18, eq_true c9_v_18] at hE
                  subst hQ
                  exact W.zret (v := v_18) hx hb hr (tq_nz (r_v_18.to (by decide))) (fun t ht hW => ⟨⟨v_18, ws, rfl, ⟨⟨⟨(by rw [hR, ← hE]; exact o_p0), (by rw [hR, ← hE]), trivial⟩, r_v_18.to (by decide), (fun h0 => trivial), (fun h0 => absurd (Int32.toInt_inj.mp (by have h8 := r_v_18; unfold RI at h8; rw [Int32.toInt_zero]; omega)) h0)⟩, hw.1, hw.2.2.2.2.1⟩, by rw [ht]; exact hw.2.1, va_K.moved hW.alike hK, hw.2.2.1⟩, hw.2.2.2.1.F ht⟩) hw.2.2.2.1.2.2 dX10_readLine_91
                · have r_v_18 : RI v_18 1 1 := rc_neL r_v_18 rl_0 (ti_ne c9_v_18) (by decide)
                  obtain ⟨v_20, m_v_20, r_v_20⟩ := ((hp_v_18.2.2 c9_v_18).1)
                  have x_TOK_p0_gh := ((hp_v_18.2.2 c9_v_18).2.1)
                  have x_RH_p0 := ((hp_v_18.2.2 c9_v_18).2.2.1)
                  simp only [f_X10_readLine__1, ↓reduceIte, q_v_1, eq_true c_5, q_v_2, eq_true c_18, q_v_3, eq_true c_31, q_v_4, eq_true c_44, q_v_5, eq_true c_57, q_v_6, eq_true c_70, q_v_7, eq_false c_84, q_sg_19, q_v_18, eq_false c9_v_18] at hE
                  subst hQ
                  exact W.zret (v := v_18) hx hb hr (tq_nz (r_v_18.to (by decide))) (fun t ht hW => ⟨⟨v_18, ws, rfl, ⟨⟨⟨(by rw [hR, ← hE]; exact o_p0), (by rw [hR, ← hE]), trivial⟩, r_v_18.to (by decide), (fun _ => trivial), (fun h0 => ⟨x_TOK_p0_gh, x_RH_p0, trivial⟩)⟩, hw.1, hw.2.2.2.2.1⟩, by rw [ht]; exact hw.2.1, va_K.moved hW.alike hK, hw.2.2.1⟩, hw.2.2.2.1.F ht⟩) hw.2.2.2.1.2.2 dX10_readLine_91
            · have r_v_6 : RI v_6 1 1 := rc_neL r_v_6 rl_0 (ti_ne c_70) (by decide)
              refine lv_aload_n hx hb dX10_readLine_73 rfl (lv_at hl 0 rfl) ?_
              refine tk_i (va_runV (As := []) (rest := []) ⟨hx, hb, hml, hown, hts⟩ (c_X10_readHas__1 l D cy z H.size Ps w0 hw.1 p0 (gh) s0 h_p0 x_TO_p0_gh x_RH_p0 o_p0) (cwV 0 hts (gV tw_1394 tw_1396 ts_59 tw_15 tw_1397) rfl rfl rfl (by decide +kernel) ⟨Nat.le_of_ble_eq_true rfl, Nat.le_of_ble_eq_true rfl⟩) (tg_preV hw hK hSD hA (ci := 10) (q := (RX10, TX10, 49)) rfl h_p0 rfl) rfl rfl hl.1 rfl (lv_room (Nat.le_of_ble_eq_true rfl)) dX10_readLine_74 ⟨Nat.le_of_ble_eq_true rfl, Nat.le_of_ble_eq_true rfl⟩) hw hA ⟨by decide, by decide⟩ (fun v_21 ws H locs hp_v_21 hw hF9 => ?_)
              obtain ⟨hfn, hp_v_21⟩ := hp_v_21
              obtain ⟨sg_22, q_sg_22⟩ : ∃ q9 : OS, (f_X10_readHas__1 s0).1 = q9 := ⟨_, rfl⟩
              have o_p0 : OV vw_MODEL Ps ws p0 sg_22 := by rw [← q_sg_22]; exact hfn.1
              have q_v_21 : (f_X10_readHas__1 s0).2 = v_21 := hfn.2.1
              have r_v_21 : RI v_21 0 1 := hp_v_21.1
              by_cases c9_v_21 : v_21 = 0
              · have r_v_21 : RI v_21 0 0 := by rw [c9_v_21]; exact rl_0
                simp only [f_X10_readLine__1, ↓reduceIte, q_v_1, eq_true c_5, q_v_2, eq_true c_18, q_v_3, eq_true c_31, q_v_4, eq_true c_44, q_v_5, eq_true c_57, q_v_6, eq_false c_70, q_sg_22, q_v_21, eq_true c9_v_21] at hE
                subst hQ
                exact W.zret (v := v_21) hx hb hr (tq_nz (r_v_21.to (by decide))) (fun t ht hW => ⟨⟨v_21, ws, rfl, ⟨⟨⟨(by rw [hR, ← hE]; exact o_p0), (by rw [hR, ← hE]), trivial⟩, r_v_21.to (by decide), (fun h0 => trivial), (fun h0 => absurd (Int32.toInt_inj.mp (by have h8 := r_v_21; unfold RI at h8; rw [Int32.toInt_zero]; omega)) h0)⟩, hw.1, hw.2.2.2.2.1⟩, by rw [ht]; exact hw.2.1, va_K.moved hW.alike hK, hw.2.2.1⟩, hw.2.2.2.1.F ht⟩) hw.2.2.2.1.2.2 dX10_readLine_77
              · have r_v_21 : RI v_21 1 1 := rc_neL r_v_21 rl_0 (ti_ne c9_v_21) (by decide)
                obtain ⟨v_23, m_v_23, r_v_23⟩ := ((hp_v_21.2.2 c9_v_21).1)
                have x_TOK_p0_gh := ((hp_v_21.2.2 c9_v_21).2.1)
                have x_RH_p0 := ((hp_v_21.2.2 c9_v_21).2.2.1)
                simp only [f_X10_readLine__1, ↓reduceIte, q_v_1, eq_true c_5, q_v_2, eq_true c_18, q_v_3, eq_true c_31, q_v_4, eq_true c_44, q_v_5, eq_true c_57, q_v_6, eq_false c_70, q_sg_22, q_v_21, eq_false c9_v_21] at hE
                subst hQ
                exact W.zret (v := v_21) hx hb hr (tq_nz (r_v_21.to (by decide))) (fun t ht hW => ⟨⟨v_21, ws, rfl, ⟨⟨⟨(by rw [hR, ← hE]; exact o_p0), (by rw [hR, ← hE]), trivial⟩, r_v_21.to (by decide), (fun _ => trivial), (fun h0 => ⟨x_TOK_p0_gh, x_RH_p0, trivial⟩)⟩, hw.1, hw.2.2.2.2.1⟩, by rw [ht]; exact hw.2.1, va_K.moved hW.alike hK, hw.2.2.1⟩, hw.2.2.2.1.F ht⟩) hw.2.2.2.1.2.2 dX10_readLine_77
          · have r_v_5 : RI v_5 1 1 := rc_neL r_v_5 rl_0 (ti_ne c_57) (by decide)
            refine lv_aload_n hx hb dX10_readLine_60 rfl (lv_at hl 0 rfl) ?_
            refine tk_i (va_runV (As := []) (rest := []) ⟨hx, hb, hml, hown, hts⟩ (c_X10_readSits__1 l D cy z H.size Ps w0 hw.1 p0 (gh) s0 h_p0 x_TO_p0_gh x_RH_p0 o_p0) (cwV 0 hts (gV tw_1390 tw_1392 ts_58 tw_15 tw_1393) rfl rfl rfl (by decide +kernel) ⟨Nat.le_of_ble_eq_true rfl, Nat.le_of_ble_eq_true rfl⟩) (tg_preV hw hK hSD hA (ci := 10) (q := (RX10, TX10, 49)) rfl h_p0 rfl) rfl rfl hl.1 rfl (lv_room (Nat.le_of_ble_eq_true rfl)) dX10_readLine_61 ⟨Nat.le_of_ble_eq_true rfl, Nat.le_of_ble_eq_true rfl⟩) hw hA ⟨by decide, by decide⟩ (fun v_24 ws H locs hp_v_24 hw hF9 => ?_)
            obtain ⟨hfn, hp_v_24⟩ := hp_v_24
            obtain ⟨sg_25, q_sg_25⟩ : ∃ q9 : OS, (f_X10_readSits__1 s0).1 = q9 := ⟨_, rfl⟩
            have o_p0 : OV vw_MODEL Ps ws p0 sg_25 := by rw [← q_sg_25]; exact hfn.1
            have q_v_24 : (f_X10_readSits__1 s0).2 = v_24 := hfn.2.1
            have r_v_24 : RI v_24 0 1 := hp_v_24.1
            by_cases c9_v_24 : v_24 = 0
            · have r_v_24 : RI v_24 0 0 := by rw [c9_v_24]; exact rl_0
              simp only [f_X10_readLine__1, ↓reduceIte, q_v_1, eq_true c_5, q_v_2, eq_true c_18, q_v_3, eq_true c_31, q_v_4, eq_true c_44, q_v_5, eq_false c_57, q_sg_25, q_v_24, eq_true c9_v_24] at hE
              subst hQ
              exact W.zret (v := v_24) hx hb hr (tq_nz (r_v_24.to (by decide))) (fun t ht hW => ⟨⟨v_24, ws, rfl, ⟨⟨⟨(by rw [hR, ← hE]; exact o_p0), (by rw [hR, ← hE]), trivial⟩, r_v_24.to (by decide), (fun h0 => trivial), (fun h0 => absurd (Int32.toInt_inj.mp (by have h8 := r_v_24; unfold RI at h8; rw [Int32.toInt_zero]; omega)) h0)⟩, hw.1, hw.2.2.2.2.1⟩, by rw [ht]; exact hw.2.1, va_K.moved hW.alike hK, hw.2.2.1⟩, hw.2.2.2.1.F ht⟩) hw.2.2.2.1.2.2 dX10_readLine_64
            · have r_v_24 : RI v_24 1 1 := rc_neL r_v_24 rl_0 (ti_ne c9_v_24) (by decide)
              obtain ⟨v_26, m_v_26, r_v_26⟩ := ((hp_v_24.2.2 c9_v_24).1)
              have x_TOK_p0_gh := ((hp_v_24.2.2 c9_v_24).2.1)
              have x_RH_p0 := ((hp_v_24.2.2 c9_v_24).2.2.1)
              simp only [f_X10_readLine__1, ↓reduceIte, q_v_1, eq_true c_5, q_v_2, eq_true c_18, q_v_3, eq_true c_31, q_v_4, eq_true c_44, q_v_5, eq_false c_57, q_sg_25, q_v_24, eq_false c9_v_24] at hE
              subst hQ
              exact W.zret (v := v_24) hx hb hr (tq_nz (r_v_24.to (by decide))) (fun t ht hW => ⟨⟨v_24, ws, rfl, ⟨⟨⟨(by rw [hR, ← hE]; exact o_p0), (by rw [hR, ← hE]), trivial⟩, r_v_24.to (by decide), (fun _ => trivial), (fun h0 => ⟨x_TOK_p0_gh, x_RH_p0, trivial⟩)⟩, hw.1, hw.2.2.2.2.1⟩, by rw [ht]; exact hw.2.1, va_K.moved hW.alike hK, hw.2.2.1⟩, hw.2.2.2.1.F ht⟩) hw.2.2.2.1.2.2 dX10_readLine_64
        · have r_v_4 : RI v_4 1 1 := rc_neL r_v_4 rl_0 (ti_ne c_44) (by decide)
          refine lv_aload_n hx hb dX10_readLine_47 rfl (lv_at hl 0 rfl) ?_
          refine tk_i (va_runV (As := []) (rest := []) ⟨hx, hb, hml, hown, hts⟩ (c_X10_readPerson__1 l D cy z H.size Ps w0 hw.1 p0 (gh) s0 h_p0 x_TO_p0_gh x_RH_p0 o_p0) (cwV 0 hts (gV tw_1382 tw_1384 ts_56 tw_15 tw_1385) rfl rfl rfl (by decide +kernel) ⟨Nat.le_of_ble_eq_true rfl, Nat.le_of_ble_eq_true rfl⟩) (tg_preV hw hK hSD hA (ci := 10) (q := (RX10, TX10, 49)) rfl h_p0 rfl) rfl rfl hl.1 rfl (lv_room (Nat.le_of_ble_eq_true rfl)) dX10_readLine_48 ⟨Nat.le_of_ble_eq_true rfl, Nat.le_of_ble_eq_true rfl⟩) hw hA ⟨by decide, by decide⟩ (fun v_27 ws H locs hp_v_27 hw hF9 => ?_)
          obtain ⟨hfn, hp_v_27⟩ := hp_v_27
          obtain ⟨sg_28, q_sg_28⟩ : ∃ q9 : OS, (f_X10_readPerson__1 s0).1 = q9 := ⟨_, rfl⟩
          have o_p0 : OV vw_MODEL Ps ws p0 sg_28 := by rw [← q_sg_28]; exact hfn.1
          have q_v_27 : (f_X10_readPerson__1 s0).2 = v_27 := hfn.2.1
          have r_v_27 : RI v_27 0 1 := hp_v_27.1
          by_cases c9_v_27 : v_27 = 0
          · have r_v_27 : RI v_27 0 0 := by rw [c9_v_27]; exact rl_0
            simp only [f_X10_readLine__1, ↓reduceIte, q_v_1, eq_true c_5, q_v_2, eq_true c_18, q_v_3, eq_true c_31, q_v_4, eq_false c_44, q_sg_28, q_v_27, eq_true c9_v_27] at hE
            subst hQ
            exact W.zret (v := v_27) hx hb hr (tq_nz (r_v_27.to (by decide))) (fun t ht hW => ⟨⟨v_27, ws, rfl, ⟨⟨⟨(by rw [hR, ← hE]; exact o_p0), (by rw [hR, ← hE]), trivial⟩, r_v_27.to (by decide), (fun h0 => trivial), (fun h0 => absurd (Int32.toInt_inj.mp (by have h8 := r_v_27; unfold RI at h8; rw [Int32.toInt_zero]; omega)) h0)⟩, hw.1, hw.2.2.2.2.1⟩, by rw [ht]; exact hw.2.1, va_K.moved hW.alike hK, hw.2.2.1⟩, hw.2.2.2.1.F ht⟩) hw.2.2.2.1.2.2 dX10_readLine_51
          · have r_v_27 : RI v_27 1 1 := rc_neL r_v_27 rl_0 (ti_ne c9_v_27) (by decide)
            obtain ⟨v_29, m_v_29, r_v_29⟩ := ((hp_v_27.2.2 c9_v_27).1)
            have x_TOK_p0_gh := ((hp_v_27.2.2 c9_v_27).2.1)
            have x_RH_p0 := ((hp_v_27.2.2 c9_v_27).2.2.1)
            simp only [f_X10_readLine__1, ↓reduceIte, q_v_1, eq_true c_5, q_v_2, eq_true c_18, q_v_3, eq_true c_31, q_v_4, eq_false c_44, q_sg_28, q_v_27, eq_false c9_v_27] at hE
            subst hQ
            exact W.zret (v := v_27) hx hb hr (tq_nz (r_v_27.to (by decide))) (fun t ht hW => ⟨⟨v_27, ws, rfl, ⟨⟨⟨(by rw [hR, ← hE]; exact o_p0), (by rw [hR, ← hE]), trivial⟩, r_v_27.to (by decide), (fun _ => trivial), (fun h0 => ⟨x_TOK_p0_gh, x_RH_p0, trivial⟩)⟩, hw.1, hw.2.2.2.2.1⟩, by rw [ht]; exact hw.2.1, va_K.moved hW.alike hK, hw.2.2.1⟩, hw.2.2.2.1.F ht⟩) hw.2.2.2.1.2.2 dX10_readLine_51
      · have r_v_3 : RI v_3 1 1 := rc_neL r_v_3 rl_0 (ti_ne c_31) (by decide)
        refine lv_aload_n hx hb dX10_readLine_34 rfl (lv_at hl 0 rfl) ?_
        refine tk_i (va_runV (As := []) (rest := []) ⟨hx, hb, hml, hown, hts⟩ (c_X10_readParcel__1 l D cy z H.size Ps w0 hw.1 p0 (gh) s0 h_p0 x_TO_p0_gh x_RH_p0 o_p0) (cwV 0 hts (gV tw_1370 tw_1372 ts_53 tw_15 tw_1373) rfl rfl rfl (by decide +kernel) ⟨Nat.le_of_ble_eq_true rfl, Nat.le_of_ble_eq_true rfl⟩) (tg_preV hw hK hSD hA (ci := 10) (q := (RX10, TX10, 49)) rfl h_p0 rfl) rfl rfl hl.1 rfl (lv_room (Nat.le_of_ble_eq_true rfl)) dX10_readLine_35 ⟨Nat.le_of_ble_eq_true rfl, Nat.le_of_ble_eq_true rfl⟩) hw hA ⟨by decide, by decide⟩ (fun v_30 ws H locs hp_v_30 hw hF9 => ?_)
        obtain ⟨hfn, hp_v_30⟩ := hp_v_30
        obtain ⟨sg_31, q_sg_31⟩ : ∃ q9 : OS, (f_X10_readParcel__1 s0).1 = q9 := ⟨_, rfl⟩
        have o_p0 : OV vw_MODEL Ps ws p0 sg_31 := by rw [← q_sg_31]; exact hfn.1
        have q_v_30 : (f_X10_readParcel__1 s0).2 = v_30 := hfn.2.1
        have r_v_30 : RI v_30 0 1 := hp_v_30.1
        by_cases c9_v_30 : v_30 = 0
        · have r_v_30 : RI v_30 0 0 := by rw [c9_v_30]; exact rl_0
          simp only [f_X10_readLine__1, ↓reduceIte, q_v_1, eq_true c_5, q_v_2, eq_true c_18, q_v_3, eq_false c_31, q_sg_31, q_v_30, eq_true c9_v_30] at hE
          subst hQ
          exact W.zret (v := v_30) hx hb hr (tq_nz (r_v_30.to (by decide))) (fun t ht hW => ⟨⟨v_30, ws, rfl, ⟨⟨⟨(by rw [hR, ← hE]; exact o_p0), (by rw [hR, ← hE]), trivial⟩, r_v_30.to (by decide), (fun h0 => trivial), (fun h0 => absurd (Int32.toInt_inj.mp (by have h8 := r_v_30; unfold RI at h8; rw [Int32.toInt_zero]; omega)) h0)⟩, hw.1, hw.2.2.2.2.1⟩, by rw [ht]; exact hw.2.1, va_K.moved hW.alike hK, hw.2.2.1⟩, hw.2.2.2.1.F ht⟩) hw.2.2.2.1.2.2 dX10_readLine_38
        · have r_v_30 : RI v_30 1 1 := rc_neL r_v_30 rl_0 (ti_ne c9_v_30) (by decide)
          obtain ⟨v_32, m_v_32, r_v_32⟩ := ((hp_v_30.2.2 c9_v_30).1)
          have x_TOK_p0_gh := ((hp_v_30.2.2 c9_v_30).2.1)
          have x_RH_p0 := ((hp_v_30.2.2 c9_v_30).2.2.1)
          simp only [f_X10_readLine__1, ↓reduceIte, q_v_1, eq_true c_5, q_v_2, eq_true c_18, q_v_3, eq_false c_31, q_sg_31, q_v_30, eq_false c9_v_30] at hE
          subst hQ
          exact W.zret (v := v_30) hx hb hr (tq_nz (r_v_30.to (by decide))) (fun t ht hW => ⟨⟨v_30, ws, rfl, ⟨⟨⟨(by rw [hR, ← hE]; exact o_p0), (by rw [hR, ← hE]), trivial⟩, r_v_30.to (by decide), (fun _ => trivial), (fun h0 => ⟨x_TOK_p0_gh, x_RH_p0, trivial⟩)⟩, hw.1, hw.2.2.2.2.1⟩, by rw [ht]; exact hw.2.1, va_K.moved hW.alike hK, hw.2.2.1⟩, hw.2.2.2.1.F ht⟩) hw.2.2.2.1.2.2 dX10_readLine_38
    · have r_v_2 : RI v_2 1 1 := rc_neL r_v_2 rl_0 (ti_ne c_18) (by decide)
      refine lv_aload_n hx hb dX10_readLine_21 rfl (lv_at hl 0 rfl) ?_
      refine tk_i (va_runV (As := []) (rest := []) ⟨hx, hb, hml, hown, hts⟩ (c_X10_readRoom__1 l D cy z H.size Ps w0 hw.1 p0 (gh) s0 h_p0 x_TO_p0_gh x_RH_p0 o_p0) (cwV 0 hts (gV tw_1366 tw_1368 ts_52 tw_15 tw_1369) rfl rfl rfl (by decide +kernel) ⟨Nat.le_of_ble_eq_true rfl, Nat.le_of_ble_eq_true rfl⟩) (tg_preV hw hK hSD hA (ci := 10) (q := (RX10, TX10, 49)) rfl h_p0 rfl) rfl rfl hl.1 rfl (lv_room (Nat.le_of_ble_eq_true rfl)) dX10_readLine_22 ⟨Nat.le_of_ble_eq_true rfl, Nat.le_of_ble_eq_true rfl⟩) hw hA ⟨by decide, by decide⟩ (fun v_33 ws H locs hp_v_33 hw hF9 => ?_)
      obtain ⟨hfn, hp_v_33⟩ := hp_v_33
      obtain ⟨sg_34, q_sg_34⟩ : ∃ q9 : OS, (f_X10_readRoom__1 s0).1 = q9 := ⟨_, rfl⟩
      have o_p0 : OV vw_MODEL Ps ws p0 sg_34 := by rw [← q_sg_34]; exact hfn.1
      have q_v_33 : (f_X10_readRoom__1 s0).2 = v_33 := hfn.2.1
      have r_v_33 : RI v_33 0 1 := hp_v_33.1
      by_cases c9_v_33 : v_33 = 0
      · have r_v_33 : RI v_33 0 0 := by rw [c9_v_33]; exact rl_0
        simp only [f_X10_readLine__1, ↓reduceIte, q_v_1, eq_true c_5, q_v_2, eq_false c_18, q_sg_34, q_v_33, eq_true c9_v_33] at hE
        subst hQ
        exact W.zret (v := v_33) hx hb hr (tq_nz (r_v_33.to (by decide))) (fun t ht hW => ⟨⟨v_33, ws, rfl, ⟨⟨⟨(by rw [hR, ← hE]; exact o_p0), (by rw [hR, ← hE]), trivial⟩, r_v_33.to (by decide), (fun h0 => trivial), (fun h0 => absurd (Int32.toInt_inj.mp (by have h8 := r_v_33; unfold RI at h8; rw [Int32.toInt_zero]; omega)) h0)⟩, hw.1, hw.2.2.2.2.1⟩, by rw [ht]; exact hw.2.1, va_K.moved hW.alike hK, hw.2.2.1⟩, hw.2.2.2.1.F ht⟩) hw.2.2.2.1.2.2 dX10_readLine_25
      · have r_v_33 : RI v_33 1 1 := rc_neL r_v_33 rl_0 (ti_ne c9_v_33) (by decide)
        have x_TOK_p0_gh := ((hp_v_33.2.2 c9_v_33).1)
        have x_RH_p0 := ((hp_v_33.2.2 c9_v_33).2.1)
        simp only [f_X10_readLine__1, ↓reduceIte, q_v_1, eq_true c_5, q_v_2, eq_false c_18, q_sg_34, q_v_33, eq_false c9_v_33] at hE
        subst hQ
        exact W.zret (v := v_33) hx hb hr (tq_nz (r_v_33.to (by decide))) (fun t ht hW => ⟨⟨v_33, ws, rfl, ⟨⟨⟨(by rw [hR, ← hE]; exact o_p0), (by rw [hR, ← hE]), trivial⟩, r_v_33.to (by decide), (fun _ => trivial), (fun h0 => ⟨x_TOK_p0_gh, x_RH_p0, trivial⟩)⟩, hw.1, hw.2.2.2.2.1⟩, by rw [ht]; exact hw.2.1, va_K.moved hW.alike hK, hw.2.2.1⟩, hw.2.2.2.1.F ht⟩) hw.2.2.2.1.2.2 dX10_readLine_25
  · have r_v_1 : RI v_1 1 1 := rc_neL r_v_1 rl_0 (ti_ne c_5) (by decide)
    refine lv_aload_n hx hb dX10_readLine_8 rfl (lv_at hl 0 rfl) ?_
    refine tk_i (va_runV (As := []) (rest := []) ⟨hx, hb, hml, hown, hts⟩ (c_X10_readNewIdea__1 l D cy z H.size Ps w0 hw.1 p0 (gh) s0 h_p0 x_TO_p0_gh x_RH_p0 o_p0) (cwV 0 hts (gV tw_1328 tw_1330 ts_44 tw_15 tw_1331) rfl rfl rfl (by decide +kernel) ⟨Nat.le_of_ble_eq_true rfl, Nat.le_of_ble_eq_true rfl⟩) (tg_preV hw hK hSD hA (ci := 10) (q := (RX10, TX10, 49)) rfl h_p0 rfl) rfl rfl hl.1 rfl (lv_room (Nat.le_of_ble_eq_true rfl)) dX10_readLine_9 ⟨Nat.le_of_ble_eq_true rfl, Nat.le_of_ble_eq_true rfl⟩) hw hA ⟨by decide, by decide⟩ (fun v_35 ws H locs hp_v_35 hw hF9 => ?_)
    obtain ⟨hfn, hp_v_35⟩ := hp_v_35
    obtain ⟨sg_36, q_sg_36⟩ : ∃ q9 : OS, (f_X10_readNewIdea__1 s0).1 = q9 := ⟨_, rfl⟩
    have o_p0 : OV vw_MODEL Ps ws p0 sg_36 := by rw [← q_sg_36]; exact hfn.1
    have q_v_35 : (f_X10_readNewIdea__1 s0).2 = v_35 := hfn.2.1
    have r_v_35 : RI v_35 0 1 := hp_v_35.1
    by_cases c9_v_35 : v_35 = 0
    · have r_v_35 : RI v_35 0 0 := by rw [c9_v_35]; exact rl_0
      simp only [f_X10_readLine__1, ↓reduceIte, q_v_1, eq_false c_5, q_sg_36, q_v_35, eq_true c9_v_35] at hE
      subst hQ
      exact W.zret (v := v_35) hx hb hr (tq_nz (r_v_35.to (by decide))) (fun t ht hW => ⟨⟨v_35, ws, rfl, ⟨⟨⟨(by rw [hR, ← hE]; exact o_p0), (by rw [hR, ← hE]), trivial⟩, r_v_35.to (by decide), (fun h0 => trivial), (fun h0 => absurd (Int32.toInt_inj.mp (by have h8 := r_v_35; unfold RI at h8; rw [Int32.toInt_zero]; omega)) h0)⟩, hw.1, hw.2.2.2.2.1⟩, by rw [ht]; exact hw.2.1, va_K.moved hW.alike hK, hw.2.2.1⟩, hw.2.2.2.1.F ht⟩) hw.2.2.2.1.2.2 dX10_readLine_12
    · have r_v_35 : RI v_35 1 1 := rc_neL r_v_35 rl_0 (ti_ne c9_v_35) (by decide)
      obtain ⟨v_37, m_v_37, r_v_37⟩ := ((hp_v_35.2.2 c9_v_35).1)
      have x_TOK_p0_gh := ((hp_v_35.2.2 c9_v_35).2.1)
      have x_RH_p0 := ((hp_v_35.2.2 c9_v_35).2.2.1)
      simp only [f_X10_readLine__1, ↓reduceIte, q_v_1, eq_false c_5, q_sg_36, q_v_35, eq_false c9_v_35] at hE
      subst hQ
      exact W.zret (v := v_35) hx hb hr (tq_nz (r_v_35.to (by decide))) (fun t ht hW => ⟨⟨v_35, ws, rfl, ⟨⟨⟨(by rw [hR, ← hE]; exact o_p0), (by rw [hR, ← hE]), trivial⟩, r_v_35.to (by decide), (fun _ => trivial), (fun h0 => ⟨x_TOK_p0_gh, x_RH_p0, trivial⟩)⟩, hw.1, hw.2.2.2.2.1⟩, by rw [ht]; exact hw.2.1, va_K.moved hW.alike hK, hw.2.2.1⟩, hw.2.2.2.1.F ht⟩) hw.2.2.2.1.2.2 dX10_readLine_12
abbrev wr_X10_isSign__1 : List (Nat × Nat) := []
abbrev wa_X10_isSign__1 : List Nat := []
set_option maxHeartbeats 4000000 in
set_option maxRecDepth 100000 in
theorem c_X10_isSign__1 (l : Launch) (D : va_G) (cy : Nat → ClassId) (z : Nat → Nat) (sz : Nat) (Ps : PSI) (w0 : va_W) (hT : HT cy GG Ps w0) (p0 : Nat) (p1 : Int32) (s0 : OS) (h_p0 : (p0, 55) ∈ Ps) (r_p1 : RI p1 (-2147483648) 2147483647) (o_p0 : OV vw_MODEL Ps w0 p0 s0) : Met l yX10_isSign (Cond.code yX10_isSign cX10_isSign 2 (some .boolean) :: gT) ({ frames := 0, cells := 0, slots := 0, locals := 200 } : Room) (va_Pc [.ref p0, .int p1] (PRE D cy z w0 sz)) (va_Qi (fun (r : Int32) (u : Unit) => ((f_X10_isSign__1 p1 s0) = r ∧ True) ∧ (RI r 0 1 ∧ (r = 0 → True) ∧ (¬ r = 0 → (∃ v9 : Int32, FLD w0 p0 10 7 (.int v9) ∧ RI v9 4 4) ∧ True))) (BB D cy (va_A w0 sz) (fun (u : Unit) => w0)) (va_A w0 sz)) 0 0 (va_A w0 sz) := by
  refine Met.ofW (cc := cX10_isSign) (maxL := 2) (ret := (some .boolean)) (by decide) rfl ?_
  intro p e s m args below meth c s₁ B hml hv
  obtain ⟨rfl, hsz, hP, hK, hD0, hSD⟩ := hv
  have hx := B.exec
  have hb := B.bytes
  have hr := B.returns
  have hlocks := B.notSynchronized
  have hts : ∀ w ∈ gT, w.before _ s = true := fun w h => atoms_spec (ws := Cond.code yX10_isSign cX10_isSign 2 (some .boolean) :: gT) B.pre w (List.mem_cons_of_mem _ h)
  have hown : s.vm.findClass RX10 = some m.cls := findClass_of_methodNamed B.named
  subst hsz
  have hD := hD0.self (sz := s.heap.size)
  generalize hAe : va_A w0 s.heap.size = A at hD hSD ⊢
  have hA : ∀ q : Nat, s.heap.size ≤ q → A q := fun q h => by rw [← hAe]; exact Or.inr h
  have hl := lv_entry ([.ref p0, .int p1]) (n := 2) (Nat.le_of_ble_eq_true rfl)
  rw [lg_entry_eq]
  generalize (lg_sl ([.ref p0, .int p1]) ++ List.replicate (2 - (lg_sl ([.ref p0, .int p1])).length) Slot.unset).toArray = ls at hl ⊢
  have hl : lv_has ls 2 [(0, .ref p0), (1, .int p1)] := hl
  refine nameQ (fun Q hQ => ?_)
  have hw : WD D cy GG A s wr_X10_isSign__1 wa_X10_isSign__1 Ps w0 Ps w0 s.heap [] := ⟨hT, hP, hD, va_S.rf, FR.rf, hT.1, [], (List.append_nil _).symm⟩
  obtain ⟨R9, hR⟩ : ∃ q9 : Int32, f_X10_isSign__1 p1 s0 = q9 := ⟨_, rfl⟩
  have hE := hR
  refine lv_aload_n hx hb dX10_isSign_0 rfl (lv_at hl 0 rfl) ?_
  refine tg_get (ci := 10) (ts := ty_MODEL) (C := RX10) (T := TX10) (N := 49) hx hb hts inX10 hown hK hw h_p0 rfl rfl 7 (by decide) (hts _ tw_1144) (fun _ h9 => h9) (ft := vI (-2147483648) 2147483647) rfl dX10_isSign_1 (fun u_1 hv_u_1 m_u_1 => ?_)
  obtain ⟨vu_1, rfl, r_vu_1⟩ := hv_u_1
  have q_vu_1 : s0.1 7 = vu_1 := OV.eqI (V := vw_MODEL) hw.2.2.1 o_p0 m_u_1 (by decide)
  refine lv_iconst (v := 4) hx hb dX10_isSign_4 (by decide) ?_
  refine lv_icmp_ne (tgt := 20) hx hb dX10_isSign_5 (by decide) (fun c_5 => ?_) (fun c_5 => ?_)
  · refine lv_iconst (v := 0) hx hb dX10_isSign_20 (by decide) ?_
    simp only [f_X10_isSign__1, ↓reduceIte, q_vu_1, eq_false c_5] at hE
    subst hQ
    exact W.zret (v := 0) hx hb hr (rfl) (fun t ht hW => ⟨⟨0, (), rfl, ⟨⟨(by rw [hR, ← hE]), trivial⟩, rl_0.to (by decide), (fun h0 => trivial), (fun h0 => absurd rfl h0)⟩, by rw [ht]; exact hw.2.1, va_K.moved hW.alike hK, hw.2.2.1⟩, hw.2.2.2.1.F ht⟩) hw.2.2.2.1.2.2 dX10_isSign_21
  · have r_vu_1 : RI vu_1 4 4 := rc_eq1 r_vu_1 rl_4 (ti_eq c_5) (by decide)
    refine lv_aload_n hx hb dX10_isSign_8 rfl (lv_at hl 0 rfl) ?_
    refine tg_get (ci := 10) (ts := ty_MODEL) (C := RX10) (T := TX10) (N := 49) hx hb hts inX10 hown hK hw h_p0 rfl rfl 9 (by decide) (hts _ tw_1146) (fun _ h9 => h9) (ft := vI (-2147483648) 2147483647) rfl dX10_isSign_9 (fun u_2 hv_u_2 m_u_2 => ?_)
    obtain ⟨vu_2, rfl, r_vu_2⟩ := hv_u_2
    have q_vu_2 : s0.1 9 = vu_2 := OV.eqI (V := vw_MODEL) hw.2.2.1 o_p0 m_u_2 (by decide)
    refine lv_iload_n hx hb dX10_isSign_12 rfl (lv_at hl 1 rfl) ?_
    refine lv_icmp_ne (tgt := 20) hx hb dX10_isSign_13 (by decide) (fun c_13 => ?_) (fun c_13 => ?_)
    · refine lv_iconst (v := 0) hx hb dX10_isSign_20 (by decide) ?_
      simp only [f_X10_isSign__1, ↓reduceIte, q_vu_1, eq_true c_5, q_vu_2, eq_false c_13] at hE
      subst hQ
      exact W.zret (v := 0) hx hb hr (rfl) (fun t ht hW => ⟨⟨0, (), rfl, ⟨⟨(by rw [hR, ← hE]), trivial⟩, rl_0.to (by decide), (fun h0 => trivial), (fun h0 => absurd rfl h0)⟩, by rw [ht]; exact hw.2.1, va_K.moved hW.alike hK, hw.2.2.1⟩, hw.2.2.2.1.F ht⟩) hw.2.2.2.1.2.2 dX10_isSign_21
    · refine lv_iconst (v := 1) hx hb dX10_isSign_16 (by decide) ?_
      refine lv_goto (tgt := 21) hx hb dX10_isSign_17 (by decide) ?_
      simp only [f_X10_isSign__1, ↓reduceIte, q_vu_1, eq_true c_5, q_vu_2, eq_true c_13] at hE
      subst hQ
      exact W.zret (v := 1) hx hb hr (rfl) (fun t ht hW => ⟨⟨1, (), rfl, ⟨⟨(by rw [hR, ← hE]), trivial⟩, rl_1.to (by decide), (fun _ => trivial), (fun h0 => ⟨⟨_, m_u_1, r_vu_1⟩, trivial⟩)⟩, by rw [ht]; exact hw.2.1, va_K.moved hW.alike hK, hw.2.2.1⟩, hw.2.2.2.1.F ht⟩) hw.2.2.2.1.2.2 dX10_isSign_21
abbrev wr_X10_readEnd__2 : List (Nat × Nat) := [(10, 5), (10, 6), (10, 7), (10, 8), (10, 9), (10, 10), (10, 11), (10, 12)]
abbrev wa_X10_readEnd__2 : List Nat := []
set_option maxHeartbeats 4000000 in
set_option maxRecDepth 100000 in
theorem c_X10_readEnd__2 (l : Launch) (D : va_G) (cy : Nat → ClassId) (z : Nat → Nat) (sz : Nat) (Ps : PSI) (w0 : va_W) (hT : HT cy GG Ps w0) (p0 : Nat) (gh : Int) (s0 : OS) (h_p0 : (p0, 55) ∈ Ps) (x_TOK_p0_gh : TKP w0 p0 (gh)) (o_p0 : OV vw_MODEL Ps w0 p0 s0) : Met l yX10_readEnd (Cond.code yX10_readEnd cX10_readEnd 1 (some .boolean) :: gT) ({ frames := 3, cells := 0, slots := 0, locals := 600 } : Room) (va_Pc [.ref p0] (PRE D cy z w0 sz)) (va_Qi (fun (r : Int32) (u : va_W) => ((OV vw_MODEL Ps u p0 ((f_X10_readEnd__2 s0).1) ∧ (f_X10_readEnd__2 s0).2 = r ∧ True) ∧ (RI r 0 1 ∧ (r = 0 → True) ∧ (¬ r = 0 → TKP u p0 (gh+1) ∧ True))) ∧ HT cy GG Ps u ∧ FR wr_X10_readEnd__2 wa_X10_readEnd__2 Ps w0 u) (BB D cy (va_A w0 sz) (fun (u : va_W) => u)) (va_A w0 sz)) 0 0 (va_A w0 sz) := by
  refine Met.ofW (cc := cX10_readEnd) (maxL := 1) (ret := (some .boolean)) (by decide) rfl ?_
  intro p e s m args below meth c s₁ B hml hv
  obtain ⟨rfl, hsz, hP, hK, hD0, hSD⟩ := hv
  have hx := B.exec
  have hb := B.bytes
  have hr := B.returns
  have hlocks := B.notSynchronized
  have hts : ∀ w ∈ gT, w.before _ s = true := fun w h => atoms_spec (ws := Cond.code yX10_readEnd cX10_readEnd 1 (some .boolean) :: gT) B.pre w (List.mem_cons_of_mem _ h)
  have hown : s.vm.findClass RX10 = some m.cls := findClass_of_methodNamed B.named
  subst hsz
  have hD := hD0.self (sz := s.heap.size)
  generalize hAe : va_A w0 s.heap.size = A at hD hSD ⊢
  have hA : ∀ q : Nat, s.heap.size ≤ q → A q := fun q h => by rw [← hAe]; exact Or.inr h
  have hl := lv_entry ([.ref p0]) (n := 1) (Nat.le_of_ble_eq_true rfl)
  rw [lg_entry_eq]
  generalize (lg_sl ([.ref p0]) ++ List.replicate (1 - (lg_sl ([.ref p0])).length) Slot.unset).toArray = ls at hl ⊢
  have hl : lv_has ls 1 [(0, .ref p0)] := hl
  refine nameQ (fun Q hQ => ?_)
  have hw : WD D cy GG A s wr_X10_readEnd__2 wa_X10_readEnd__2 Ps w0 Ps w0 s.heap [] := ⟨hT, hP, hD, va_S.rf, FR.rf, hT.1, [], (List.append_nil _).symm⟩
  obtain ⟨R9, hR⟩ : ∃ q9 : OS × Int32, f_X10_readEnd__2 s0 = q9 := ⟨_, rfl⟩
  have hE := hR
  refine lv_aload_n hx hb dX10_readEnd_0 rfl (lv_at hl 0 rfl) ?_
  refine lv_bipush (v := 59) hx hb dX10_readEnd_1 (by decide) ?_
  refine tk_ir (va_runV (As := [.int 59]) (rest := []) ⟨hx, hb, hml, hown, hts⟩ (c_X10_isSign__1 l D cy z s.heap.size Ps w0 hw.1 p0 59 s0 h_p0 (rl_59.to (by decide)) o_p0) (cwV 1 hts (gV tw_1413 tw_1415 ts_63 tw_15 tw_1416) rfl rfl rfl (by decide +kernel) ⟨Nat.le_of_ble_eq_true rfl, Nat.le_of_ble_eq_true rfl⟩) (tg_preV hw hK hSD hA (ci := 10) (q := (RX10, TX10, 49)) rfl h_p0 rfl) rfl rfl hl.1 rfl (lv_room (Nat.le_of_ble_eq_true rfl)) dX10_readEnd_3 ⟨Nat.le_of_ble_eq_true rfl, Nat.le_of_ble_eq_true rfl⟩) hw hA (fun v_1  H locs hp_v_1 hw => ?_)
  obtain ⟨hfn, hp_v_1⟩ := hp_v_1
  have q_v_1 : (f_X10_isSign__1 (59 : Int32) s0) = v_1 := hfn.1
  have r_v_1 : RI v_1 0 1 := hp_v_1.1
  by_cases c9_v_1 : v_1 = 0
  · have r_v_1 : RI v_1 0 0 := by rw [c9_v_1]; exact rl_0
    refine lv_if_ne (tgt := 15) hx hb dX10_readEnd_6 (by decide) (fun c_6 => ?_) (fun c_6 => ?_)
    · exact absurd (r_v_1.eq.trans rl_0.eq.symm) ((ti_ne c_6))
    · refine lv_aload_n hx hb dX10_readEnd_9 rfl (lv_at hl 0 rfl) ?_
      refine lv_iconst (v := 1) hx hb dX10_readEnd_10 (by decide) ?_
      refine tk_i (va_runV (As := [.int 1]) (rest := []) ⟨hx, hb, hml, hown, hts⟩ (c_X10_bad__1 l D cy z H.size Ps w0 hw.1 p0 1 s0 h_p0 (rl_1.to (by decide)) o_p0) (cwV 1 hts (gV tw_1336 tw_1338 ts_46 tw_15 tw_1339) rfl rfl rfl (by decide +kernel) ⟨Nat.le_of_ble_eq_true rfl, Nat.le_of_ble_eq_true rfl⟩) (tg_preV hw hK hSD hA (ci := 10) (q := (RX10, TX10, 49)) rfl h_p0 rfl) rfl rfl hl.1 rfl (lv_room (Nat.le_of_ble_eq_true rfl)) dX10_readEnd_11 ⟨Nat.le_of_ble_eq_true rfl, Nat.le_of_ble_eq_true rfl⟩) hw hA ⟨by decide, by decide⟩ (fun v_2 ws H locs hp_v_2 hw hF9 => ?_)
      have x_TOK_p0_gh := TKP.over hF9 x_TOK_p0_gh (by decide)
      obtain ⟨hfn, hp_v_2⟩ := hp_v_2
      obtain ⟨sg_3, q_sg_3⟩ : ∃ q9 : OS, (f_X10_bad__1 (1 : Int32) s0).1 = q9 := ⟨_, rfl⟩
      have o_p0 : OV vw_MODEL Ps ws p0 sg_3 := by rw [← q_sg_3]; exact hfn.1
      have q_v_2 : (f_X10_bad__1 (1 : Int32) s0).2 = v_2 := hfn.2.1
      have r_v_2 : RI v_2 0 0 := hp_v_2.1
      simp only [f_X10_readEnd__2, ↓reduceIte, q_v_1, eq_true c9_v_1, eq_true c_6, q_sg_3, q_v_2] at hE
      subst hQ
      exact W.zret (v := v_2) hx hb hr (tq_nz (r_v_2.to (by decide))) (fun t ht hW => ⟨⟨v_2, ws, rfl, ⟨⟨⟨(by rw [hR, ← hE]; exact o_p0), (by rw [hR, ← hE]), trivial⟩, r_v_2.to (by decide), (fun h0 => trivial), (fun h0 => absurd (Int32.toInt_inj.mp (by have h8 := r_v_2; unfold RI at h8; rw [Int32.toInt_zero]; omega)) h0)⟩, hw.1, hw.2.2.2.2.1⟩, by rw [ht]; exact hw.2.1, va_K.moved hW.alike hK, hw.2.2.1⟩, hw.2.2.2.1.F ht⟩) hw.2.2.2.1.2.2 dX10_readEnd_14
  · have r_v_1 : RI v_1 1 1 := rc_neL r_v_1 rl_0 (ti_ne c9_v_1) (by decide)
    obtain ⟨v_4, m_v_4, r_v_4⟩ := ((hp_v_1.2.2 c9_v_1).1)
    refine lv_if_ne (tgt := 15) hx hb dX10_readEnd_6 (by decide) (fun c_6 => ?_) (fun c_6 => ?_)
    · have x_TO_p0_gh_1 : TOP w0 p0 (gh+1) := TKP.sign hw x_TOK_p0_gh m_v_4 r_v_4
      refine lv_aload_n hx hb dX10_readEnd_15 rfl (lv_at hl 0 rfl) ?_
      refine tk_v (va_runV (As := []) (rest := []) ⟨hx, hb, hml, hown, hts⟩ (c_X10_go__2 l D cy z H.size Ps w0 hw.1 p0 (gh+1) s0 h_p0 x_TO_p0_gh_1 o_p0) (cwV 0 hts (gV tw_1298 tw_1300 ts_40 tw_15 tw_1301) rfl rfl rfl (by decide +kernel) ⟨Nat.le_of_ble_eq_true rfl, Nat.le_of_ble_eq_true rfl⟩) (tg_preV hw hK hSD hA (ci := 10) (q := (RX10, TX10, 49)) rfl h_p0 rfl) rfl rfl hl.1 rfl (lv_room (Nat.le_of_ble_eq_true rfl)) dX10_readEnd_16 ⟨Nat.le_of_ble_eq_true rfl, Nat.le_of_ble_eq_true rfl⟩) hw hA ⟨by decide, by decide⟩ (fun ws H locs hp_v_5 hw hF9 => ?_)
      obtain ⟨hfn, hp_v_5⟩ := hp_v_5
      obtain ⟨sg_6, q_sg_6⟩ : ∃ q9 : OS, (f_X10_go__2 s0) = q9 := ⟨_, rfl⟩
      have o_p0 : OV vw_MODEL Ps ws p0 sg_6 := by rw [← q_sg_6]; exact hfn.1
      have x_TOK_p0_gh_1 := (hp_v_5.1)
      refine lv_iconst (v := 1) hx hb dX10_readEnd_19 (by decide) ?_
      simp only [f_X10_readEnd__2, ↓reduceIte, q_v_1, eq_false c9_v_1, eq_false c_6, q_sg_6] at hE
      subst hQ
      exact W.zret (v := 1) hx hb hr (rfl) (fun t ht hW => ⟨⟨1, ws, rfl, ⟨⟨⟨(by rw [hR, ← hE]; exact o_p0), (by rw [hR, ← hE]), trivial⟩, rl_1.to (by decide), (fun _ => trivial), (fun h0 => ⟨x_TOK_p0_gh_1, trivial⟩)⟩, hw.1, hw.2.2.2.2.1⟩, by rw [ht]; exact hw.2.1, va_K.moved hW.alike hK, hw.2.2.1⟩, hw.2.2.2.1.F ht⟩) hw.2.2.2.1.2.2 dX10_readEnd_20
    · have r_v_1 : RI v_1 1 0 := rc_eq1 r_v_1 rl_0 (ti_eq c_6) (by decide)
      exact (r_v_1.no (by decide)).elim
abbrev wr_X10_take__1 : List (Nat × Nat) := [(10, 2)]
abbrev wa_X10_take__1 : List Nat := []
set_option maxHeartbeats 4000000 in
set_option maxRecDepth 100000 in
theorem c_X10_take__1 (l : Launch) (D : va_G) (cy : Nat → ClassId) (z : Nat → Nat) (sz : Nat) (Ps : PSI) (w0 : va_W) (hT : HT cy GG Ps w0) (p0 : Nat) (s0 : OS) (h_p0 : (p0, 55) ∈ Ps) (o_p0 : OV vw_MODEL Ps w0 p0 s0) : Met l yX10_take (Cond.code yX10_take cX10_take 2 (some .int) :: gT) ({ frames := 0, cells := 0, slots := 0, locals := 200 } : Room) (va_Pc [.ref p0] (PRE D cy z w0 sz)) (va_Qi (fun (r : Int32) (u : va_W) => ((OV vw_MODEL Ps u p0 ((f_X10_take__1 s0).1) ∧ (f_X10_take__1 s0).2 = r ∧ True) ∧ (RI r 0 940 ∧ (r = 0 → (∃ v9 : Int32, FLD u p0 10 2 (.int v9) ∧ RI v9 0 0) ∧ True) ∧ (¬ r = 0 → (∃ v9 : Int32, FLD u p0 10 2 (.int v9) ∧ RI v9 0 0) ∧ True))) ∧ HT cy GG Ps u ∧ FR wr_X10_take__1 wa_X10_take__1 Ps w0 u) (BB D cy (va_A w0 sz) (fun (u : va_W) => u)) (va_A w0 sz)) 0 0 (va_A w0 sz) := by
  refine Met.ofW (cc := cX10_take) (maxL := 2) (ret := (some .int)) (by decide) rfl ?_
  intro p e s m args below meth c s₁ B hml hv
  obtain ⟨rfl, hsz, hP, hK, hD0, hSD⟩ := hv
  have hx := B.exec
  have hb := B.bytes
  have hr := B.returns
  have hlocks := B.notSynchronized
  have hts : ∀ w ∈ gT, w.before _ s = true := fun w h => atoms_spec (ws := Cond.code yX10_take cX10_take 2 (some .int) :: gT) B.pre w (List.mem_cons_of_mem _ h)
  have hown : s.vm.findClass RX10 = some m.cls := findClass_of_methodNamed B.named
  subst hsz
  have hD := hD0.self (sz := s.heap.size)
  generalize hAe : va_A w0 s.heap.size = A at hD hSD ⊢
  have hA : ∀ q : Nat, s.heap.size ≤ q → A q := fun q h => by rw [← hAe]; exact Or.inr h
  have hl := lv_entry ([.ref p0]) (n := 2) (Nat.le_of_ble_eq_true rfl)
  rw [lg_entry_eq]
  generalize (lg_sl ([.ref p0]) ++ List.replicate (2 - (lg_sl ([.ref p0])).length) Slot.unset).toArray = ls at hl ⊢
  have hl : lv_has ls 2 [(0, .ref p0)] := hl
  refine nameQ (fun Q hQ => ?_)
  have hw : WD D cy GG A s wr_X10_take__1 wa_X10_take__1 Ps w0 Ps w0 s.heap [] := ⟨hT, hP, hD, va_S.rf, FR.rf, hT.1, [], (List.append_nil _).symm⟩
  obtain ⟨R9, hR⟩ : ∃ q9 : OS × Int32, f_X10_take__1 s0 = q9 := ⟨_, rfl⟩
  have hE := hR
  refine lv_aload_n hx hb dX10_take_0 rfl (lv_at hl 0 rfl) ?_
  refine tg_get (ci := 10) (ts := ty_MODEL) (C := RX10) (T := TX10) (N := 49) hx hb hts inX10 hown hK hw h_p0 rfl rfl 2 (by decide) (hts _ tw_1139) (fun _ h9 => h9) (ft := vI 0 940) rfl dX10_take_1 (fun u_1 hv_u_1 m_u_1 => ?_)
  obtain ⟨vu_1, rfl, r_vu_1⟩ := hv_u_1
  have q_vu_1 : s0.1 2 = vu_1 := OV.eqI (V := vw_MODEL) hw.2.2.1 o_p0 m_u_1 (by decide)
  refine lv_istore_n (lv' := [(1, .int vu_1), (0, .ref p0)]) hx hb dX10_take_4 rfl hl (by decide) rfl (fun ls hl => ?_)
  refine lv_aload_n hx hb dX10_take_5 rfl (lv_at hl 1 rfl) ?_
  refine lv_iconst (v := 0) hx hb dX10_take_6 (by decide) ?_
  refine tg_put (ci := 10) (ts := ty_MODEL) (v := .int 0) (ty := .int) (C := RX10) (T := TX10) (N := 49) hx hb hts inX10 tyX10 tyX10_ok nmX10 hown hK hw h_p0 rfl rfl 2 (by decide) (hts _ tw_1139) (fun _ h9 => h9) rfl (by decide +kernel) rfl rfl (ft := vI 0 940) rfl ⟨_, rfl, (rl_0.to (by decide))⟩ (by decide) dX10_take_7 (fun ws H locs hw n_k_2 hF9 => ?_)
  obtain ⟨sg_3, q_sg_3⟩ : ∃ q9 : OS, sI s0 2 (0 : Int32) = q9 := ⟨_, rfl⟩
  have o_p0 : OV vw_MODEL Ps ws p0 sg_3 := by rw [← q_sg_3]; exact OV.putI (V := vw_MODEL) hF9 n_k_2 o_p0 (by decide)
  refine lv_iload_n hx hb dX10_take_10 rfl (lv_at hl 0 rfl) ?_
  simp only [f_X10_take__1, ↓reduceIte, q_vu_1, q_sg_3] at hE
  subst hQ
  exact W.iret (v := vu_1) hx hb hr (fun t ht hW => ⟨⟨vu_1, ws, rfl, ⟨⟨⟨(by rw [hR, ← hE]; exact o_p0), (by rw [hR, ← hE]), trivial⟩, r_vu_1.to (by decide), (fun h0 => ⟨⟨_, n_k_2, rl_0⟩, trivial⟩), (fun h0 => ⟨⟨_, n_k_2, rl_0⟩, trivial⟩)⟩, hw.1, hw.2.2.2.2.1⟩, by rw [ht]; exact hw.2.1, va_K.moved hW.alike hK, hw.2.2.1⟩, hw.2.2.2.1.F ht⟩) hw.2.2.2.1.2.2 dX10_take_11
abbrev wr_X10_go__3 : List (Nat × Nat) := [(10, 5), (10, 6), (10, 7), (10, 8), (10, 9), (10, 12)]
abbrev wa_X10_go__3 : List Nat := []
set_option maxHeartbeats 4000000 in
set_option maxRecDepth 100000 in
theorem c_X10_go__3 (l : Launch) (D : va_G) (cy : Nat → ClassId) (z : Nat → Nat) (sz : Nat) (Ps : PSI) (w0 : va_W) (hT : HT cy GG Ps w0) (p0 : Nat) (s0 : OS) (h_p0 : (p0, 55) ∈ Ps) (o_p0 : OV vw_MODEL Ps w0 p0 s0) : Met l yX10_go (Cond.code yX10_go cX10_go 5 none :: gT) ({ frames := 2, cells := 0, slots := 0, locals := 400 } : Room) (va_Pc [.ref p0] (PRE D cy z w0 sz)) (va_Qv (fun (u : va_W) => ((OV vw_MODEL Ps u p0 ((f_X10_go__2 s0)) ∧ True) ∧ (True)) ∧ HT cy GG Ps u ∧ FR wr_X10_go__3 wa_X10_go__3 Ps w0 u) (BB D cy (va_A w0 sz) (fun (u : va_W) => u)) (va_A w0 sz)) 0 0 (va_A w0 sz) := by
  refine Met.ofW (cc := cX10_go) (maxL := 5) (ret := none) (by decide) rfl ?_
  intro p e s m args below meth c s₁ B hml hv
  obtain ⟨rfl, hsz, hP, hK, hD0, hSD⟩ := hv
  have hx := B.exec
  have hb := B.bytes
  have hr := B.returns
  have hlocks := B.notSynchronized
  have hts : ∀ w ∈ gT, w.before _ s = true := fun w h => atoms_spec (ws := Cond.code yX10_go cX10_go 5 none :: gT) B.pre w (List.mem_cons_of_mem _ h)
  have hown : s.vm.findClass RX10 = some m.cls := findClass_of_methodNamed B.named
  subst hsz
  have hD := hD0.self (sz := s.heap.size)
  generalize hAe : va_A w0 s.heap.size = A at hD hSD ⊢
  have hA : ∀ q : Nat, s.heap.size ≤ q → A q := fun q h => by rw [← hAe]; exact Or.inr h
  have hl := lv_entry ([.ref p0]) (n := 5) (Nat.le_of_ble_eq_true rfl)
  rw [lg_entry_eq]
  generalize (lg_sl ([.ref p0]) ++ List.replicate (5 - (lg_sl ([.ref p0])).length) Slot.unset).toArray = ls at hl ⊢
  have hl : lv_has ls 5 [(0, .ref p0)] := hl
  refine nameQ (fun Q hQ => ?_)
  have hw : WD D cy GG A s wr_X10_go__3 wa_X10_go__3 Ps w0 Ps w0 s.heap [] := ⟨hT, hP, hD, va_S.rf, FR.rf, hT.1, [], (List.append_nil _).symm⟩
  obtain ⟨R9, hR⟩ : ∃ q9 : OS, f_X10_go__2 s0 = q9 := ⟨_, rfl⟩
  have hE := hR
  have B390 : ∀ (x1 : Int32) (x2 : Int32) (x3 : Int32) (y0 : Int32) (z0_3 : Int32) (z0_4 : Int32) (z0_5 : Int32) (z0_6 : Int32) (s0 : OS) (ws : va_W) (H : Heap) (locs : List Loc) (ls : Array Slot), RI x1 48 122 → RI x2 0 1 → RI x3 0 1 → RI y0 1 3 → RI z0_3 1 940 → FLD ws p0 10 3 (.int z0_3) → RI z0_4 0 2147483647 → FLD ws p0 10 4 (.int z0_4) → RI z0_5 0 940 → FLD ws p0 10 5 (.int z0_5) → RI z0_6 0 940 → FLD ws p0 10 6 (.int z0_6) → OV vw_MODEL Ps ws p0 s0 → f_X10_go__2_390 x1 x2 x3 y0 s0 = R9 → WD D cy GG A s wr_X10_go__3 wa_X10_go__3 Ps w0 Ps ws H locs → lv_has ls 5 [(0, .ref p0), (1, .int x1), (2, .int x2), (3, .int x3)] → W p l e (headSpec (Cond.code yX10_go cX10_go 5 none :: gT) ({ frames := 2, cells := 0, slots := 0, locals := 400 } : Room)).room s m ([.ref p0] : List Value).toArray below meth c H locs 0 0 Q (F0 m 390 ls [.int y0, .ref p0]) := by
    intro x1 x2 x3 y0 z0_3 z0_4 z0_5 z0_6 s0 ws H locs ls r_x1 r_x2 r_x3 r_y0 r_z0_3 m_z0_3 r_z0_4 m_z0_4 r_z0_5 m_z0_5 r_z0_6 m_z0_6 o_p0 hE hw hl
    have q_z0_3 : s0.1 3 = z0_3 := OV.eqI (V := vw_MODEL) hw.2.2.1 o_p0 m_z0_3 (by decide)
    have q_z0_4 : s0.1 4 = z0_4 := OV.eqI (V := vw_MODEL) hw.2.2.1 o_p0 m_z0_4 (by decide)
    have q_z0_5 : s0.1 5 = z0_5 := OV.eqI (V := vw_MODEL) hw.2.2.1 o_p0 m_z0_5 (by decide)
    have q_z0_6 : s0.1 6 = z0_6 := OV.eqI (V := vw_MODEL) hw.2.2.1 o_p0 m_z0_6 (by decide)
    refine tg_put (ci := 10) (ts := ty_MODEL) (v := .int y0) (ty := .int) (C := RX10) (T := TX10) (N := 49) hx hb hts inX10 tyX10 tyX10_ok nmX10 hown hK hw h_p0 rfl rfl 7 (by decide) (hts _ tw_1144) (fun _ h9 => h9) rfl (by decide +kernel) rfl rfl (ft := vI (-2147483648) 2147483647) rfl ⟨_, rfl, (r_y0.to (by decide))⟩ (by decide) dX10_go_390 (fun ws H locs hw n_k_1 hF9 => ?_)
    have m_z0_3 := FLD.over hF9 m_z0_3 (by decide)
    have m_z0_4 := FLD.over hF9 m_z0_4 (by decide)
    have m_z0_5 := FLD.over hF9 m_z0_5 (by decide)
    have m_z0_6 := FLD.over hF9 m_z0_6 (by decide)
    obtain ⟨sg_2, q_sg_2⟩ : ∃ q9 : OS, sI s0 7 y0 = q9 := ⟨_, rfl⟩
    have o_p0 : OV vw_MODEL Ps ws p0 sg_2 := by rw [← q_sg_2]; exact OV.putI (V := vw_MODEL) hF9 n_k_1 o_p0 (by decide)
    simp only [f_X10_go__2_390, ↓reduceIte, q_z0_3, q_z0_4, q_z0_5, q_z0_6, q_sg_2] at hE
    subst hQ
    exact W.vret hx hb hr (fun t ht hW => ⟨⟨ws, rfl, ⟨⟨⟨(by rw [hR, ← hE]; exact o_p0), trivial⟩, trivial⟩, hw.1, hw.2.2.2.2.1⟩, by rw [ht]; exact hw.2.1, va_K.moved hW.alike hK, hw.2.2.1⟩, hw.2.2.2.1.F ht⟩) hw.2.2.2.1.2.2 dX10_go_393
  have B377 : ∀ (x1 : Int32) (x2 : Int32) (x3 : Int32) (z0_3 : Int32) (z0_4 : Int32) (z0_5 : Int32) (z0_6 : Int32) (s0 : OS) (ws : va_W) (H : Heap) (locs : List Loc) (ls : Array Slot), RI x1 48 122 → RI x2 0 1 → RI x3 0 1 → RI z0_3 1 940 → FLD ws p0 10 3 (.int z0_3) → RI z0_4 0 2147483647 → FLD ws p0 10 4 (.int z0_4) → RI z0_5 0 940 → FLD ws p0 10 5 (.int z0_5) → RI z0_6 0 940 → FLD ws p0 10 6 (.int z0_6) → OV vw_MODEL Ps ws p0 s0 → f_X10_go__2_377 x1 x2 x3 s0 = R9 → WD D cy GG A s wr_X10_go__3 wa_X10_go__3 Ps w0 Ps ws H locs → lv_has ls 5 [(0, .ref p0), (1, .int x1), (2, .int x2), (3, .int x3)] → W p l e (headSpec (Cond.code yX10_go cX10_go 5 none :: gT) ({ frames := 2, cells := 0, slots := 0, locals := 400 } : Room)).room s m ([.ref p0] : List Value).toArray below meth c H locs 0 0 Q (F0 m 377 ls [.ref p0]) := by
    intro x1 x2 x3 z0_3 z0_4 z0_5 z0_6 s0 ws H locs ls r_x1 r_x2 r_x3 r_z0_3 m_z0_3 r_z0_4 m_z0_4 r_z0_5 m_z0_5 r_z0_6 m_z0_6 o_p0 hE hw hl
    have q_z0_3 : s0.1 3 = z0_3 := OV.eqI (V := vw_MODEL) hw.2.2.1 o_p0 m_z0_3 (by decide)
    have q_z0_4 : s0.1 4 = z0_4 := OV.eqI (V := vw_MODEL) hw.2.2.1 o_p0 m_z0_4 (by decide)
    have q_z0_5 : s0.1 5 = z0_5 := OV.eqI (V := vw_MODEL) hw.2.2.1 o_p0 m_z0_5 (by decide)
    have q_z0_6 : s0.1 6 = z0_6 := OV.eqI (V := vw_MODEL) hw.2.2.1 o_p0 m_z0_6 (by decide)
    refine lv_iconst (v := 1) hx hb dX10_go_377 (by decide) ?_
    refine lv_goto (tgt := 390) hx hb dX10_go_378 (by decide) ?_
    simp only [f_X10_go__2_377, ↓reduceIte, q_z0_3, q_z0_4, q_z0_5, q_z0_6] at hE
    exact B390 x1 x2 x3 1 z0_3 z0_4 z0_5 z0_6 s0 ws _ _ ls r_x1 r_x2 r_x3 (rl_1.to (by decide)) r_z0_3 m_z0_3 r_z0_4 m_z0_4 r_z0_5 m_z0_5 r_z0_6 m_z0_6 o_p0 hE hw hl
  have B374 : ∀ (x1 : Int32) (x2 : Int32) (x3 : Int32) (y0 : Int32) (y1 : Int32) (z0_3 : Int32) (z0_4 : Int32) (z0_5 : Int32) (z0_6 : Int32) (s0 : OS) (ws : va_W) (H : Heap) (locs : List Loc) (ls : Array Slot), RI x1 48 122 → RI x2 0 1 → RI x3 1 1 → RI y0 3 7 → RI y1 (-940) 940 → RI z0_3 1 940 → FLD ws p0 10 3 (.int z0_3) → RI z0_4 0 2147483647 → FLD ws p0 10 4 (.int z0_4) → RI z0_5 0 940 → FLD ws p0 10 5 (.int z0_5) → RI z0_6 0 940 → FLD ws p0 10 6 (.int z0_6) → OV vw_MODEL Ps ws p0 s0 → f_X10_go__2_374 x1 x2 x3 y0 y1 s0 = R9 → WD D cy GG A s wr_X10_go__3 wa_X10_go__3 Ps w0 Ps ws H locs → lv_has ls 5 [(0, .ref p0), (1, .int x1), (2, .int x2), (3, .int x3)] → W p l e (headSpec (Cond.code yX10_go cX10_go 5 none :: gT) ({ frames := 2, cells := 0, slots := 0, locals := 400 } : Room)).room s m ([.ref p0] : List Value).toArray below meth c H locs 0 0 Q (F0 m 374 ls [.int y0, .int y1, .ref p0]) := by
    intro x1 x2 x3 y0 y1 z0_3 z0_4 z0_5 z0_6 s0 ws H locs ls r_x1 r_x2 r_x3 r_y0 r_y1 r_z0_3 m_z0_3 r_z0_4 m_z0_4 r_z0_5 m_z0_5 r_z0_6 m_z0_6 o_p0 hE hw hl
    have q_z0_3 : s0.1 3 = z0_3 := OV.eqI (V := vw_MODEL) hw.2.2.1 o_p0 m_z0_3 (by decide)
    have q_z0_4 : s0.1 4 = z0_4 := OV.eqI (V := vw_MODEL) hw.2.2.1 o_p0 m_z0_4 (by decide)
    have q_z0_5 : s0.1 5 = z0_5 := OV.eqI (V := vw_MODEL) hw.2.2.1 o_p0 m_z0_5 (by decide)
    have q_z0_6 : s0.1 6 = z0_6 := OV.eqI (V := vw_MODEL) hw.2.2.1 o_p0 m_z0_6 (by decide)
    refine lv_icmp_le (tgt := 381) hx hb dX10_go_374 (by decide) (fun c_374 => ?_) (fun c_374 => ?_)
    · have r_y1 : RI y1 (-940) 7 := rc_le1 r_y1 r_y0 (ti_le c_374) (by decide)
      refine lv_iload_n hx hb dX10_go_381 rfl (lv_at hl 2 rfl) ?_
      refine lv_if_eq (tgt := 389) hx hb dX10_go_382 (by decide) (fun c_382 => ?_) (fun c_382 => ?_)
      · have r_x2 : RI x2 0 0 := rc_eq1 r_x2 rl_0 (ti_eq c_382) (by decide)
        refine lv_iconst (v := 3) hx hb dX10_go_389 (by decide) ?_
        simp only [f_X10_go__2_374, ↓reduceIte, q_z0_3, q_z0_4, q_z0_5, q_z0_6, eq_true c_374, eq_true c_382] at hE
        exact B390 x1 x2 x3 3 z0_3 z0_4 z0_5 z0_6 s0 ws _ _ ls r_x1 (r_x2.to (by decide)) (r_x3.to (by decide)) (rl_3.to (by decide)) r_z0_3 m_z0_3 r_z0_4 m_z0_4 r_z0_5 m_z0_5 r_z0_6 m_z0_6 o_p0 hE hw hl
      · have r_x2 : RI x2 1 1 := rc_neL r_x2 rl_0 (ti_ne c_382) (by decide)
        refine lv_iconst (v := 2) hx hb dX10_go_385 (by decide) ?_
        refine lv_goto (tgt := 390) hx hb dX10_go_386 (by decide) ?_
        simp only [f_X10_go__2_374, ↓reduceIte, q_z0_3, q_z0_4, q_z0_5, q_z0_6, eq_true c_374, eq_false c_382] at hE
        exact B390 x1 x2 x3 2 z0_3 z0_4 z0_5 z0_6 s0 ws _ _ ls r_x1 (r_x2.to (by decide)) (r_x3.to (by decide)) (rl_2.to (by decide)) r_z0_3 m_z0_3 r_z0_4 m_z0_4 r_z0_5 m_z0_5 r_z0_6 m_z0_6 o_p0 hE hw hl
    · have r_y1 : RI y1 4 940 := rc_lt2 r_y0 r_y1 (ti_nle c_374) (by decide)
      simp only [f_X10_go__2_374, ↓reduceIte, q_z0_3, q_z0_4, q_z0_5, q_z0_6, eq_false c_374] at hE
      exact B377 x1 x2 x3 z0_3 z0_4 z0_5 z0_6 s0 ws _ _ ls r_x1 r_x2 (r_x3.to (by decide)) r_z0_3 m_z0_3 r_z0_4 m_z0_4 r_z0_5 m_z0_5 r_z0_6 m_z0_6 o_p0 hE hw hl
  have B215 : ∀ (nf : Nat) (x1 : Int32) (x2 : Int32) (x3 : Int32) (z0_3 : Int32) (z0_4 : Int32) (z0_5 : Int32) (z0_6 : Int32) (s0 : OS) (ws : va_W) (H : Heap) (locs : List Loc) (ls : Array Slot), 940 - z0_5.toInt < (nf : Int) → RI x1 48 122 → RI x2 0 1 → RI x3 0 1 → RI z0_3 1 940 → FLD ws p0 10 3 (.int z0_3) → RI z0_4 0 2147483647 → FLD ws p0 10 4 (.int z0_4) → RI z0_5 0 940 → FLD ws p0 10 5 (.int z0_5) → RI z0_6 0 940 → FLD ws p0 10 6 (.int z0_6) → OV vw_MODEL Ps ws p0 s0 → f_X10_go__2_215 nf x1 x2 x3 s0 = R9 → WD D cy GG A s wr_X10_go__3 wa_X10_go__3 Ps w0 Ps ws H locs → lv_has ls 5 [(0, .ref p0), (1, .int x1), (2, .int x2), (3, .int x3)] → W p l e (headSpec (Cond.code yX10_go cX10_go 5 none :: gT) ({ frames := 2, cells := 0, slots := 0, locals := 400 } : Room)).room s m ([.ref p0] : List Value).toArray below meth c H locs 0 0 Q (F0 m 215 ls []) := by
    intro nf215
    induction nf215 with
    | zero =>
      intro x1 x2 x3 z0_3 z0_4 z0_5 z0_6 s0 ws H locs ls hn215 r_x1 r_x2 r_x3 r_z0_3 m_z0_3 r_z0_4 m_z0_4 r_z0_5 m_z0_5 r_z0_6 m_z0_6 o_p0 hE hw hl
      exact absurd hn215 (by have q0 := r_z0_5.1; have u0 := r_z0_5.2; omega)
    | succ nf215 ih215 =>
      have B337 : ∀ (x1 : Int32) (x2 : Int32) (x3 : Int32) (x4 : Int32) (z0_3 : Int32) (z0_4 : Int32) (z0_5 : Int32) (z0_6 : Int32) (s0 : OS) (ws : va_W) (H : Heap) (locs : List Loc) (ls : Array Slot), RI x1 48 122 → RI x2 0 1 → RI x3 0 1 → RI x4 0 255 → RI z0_3 1 940 → FLD ws p0 10 3 (.int z0_3) → RI z0_4 0 2147483647 → FLD ws p0 10 4 (.int z0_4) → RI z0_5 0 939 → FLD ws p0 10 5 (.int z0_5) → RI z0_6 0 940 → FLD ws p0 10 6 (.int z0_6) → OV vw_MODEL Ps ws p0 s0 → 940 - z0_5.toInt < ((nf215 + 1 : Nat) : Int) → f_X10_go__2_337 (f_X10_go__2_215 nf215) x1 x2 x3 x4 s0 = R9 → WD D cy GG A s wr_X10_go__3 wa_X10_go__3 Ps w0 Ps ws H locs → lv_has ls 5 [(0, .ref p0), (1, .int x1), (2, .int x2), (3, .int x3), (4, .int x4)] → W p l e (headSpec (Cond.code yX10_go cX10_go 5 none :: gT) ({ frames := 2, cells := 0, slots := 0, locals := 400 } : Room)).room s m ([.ref p0] : List Value).toArray below meth c H locs 0 0 Q (F0 m 337 ls []) := by
        intro x1 x2 x3 x4 z0_3 z0_4 z0_5 z0_6 s0 ws H locs ls r_x1 r_x2 r_x3 r_x4 r_z0_3 m_z0_3 r_z0_4 m_z0_4 r_z0_5 m_z0_5 r_z0_6 m_z0_6 o_p0 hn215 hE hw hl
        have q_z0_3 : s0.1 3 = z0_3 := OV.eqI (V := vw_MODEL) hw.2.2.1 o_p0 m_z0_3 (by decide)
        have q_z0_4 : s0.1 4 = z0_4 := OV.eqI (V := vw_MODEL) hw.2.2.1 o_p0 m_z0_4 (by decide)
        have q_z0_5 : s0.1 5 = z0_5 := OV.eqI (V := vw_MODEL) hw.2.2.1 o_p0 m_z0_5 (by decide)
        have q_z0_6 : s0.1 6 = z0_6 := OV.eqI (V := vw_MODEL) hw.2.2.1 o_p0 m_z0_6 (by decide)
        refine lv_aload_n hx hb dX10_go_337 rfl (lv_at hl 0 rfl) ?_
        refine lv_dup hx hb dX10_go_338 rfl ?_
        refine tg_mem (ci := 10) (C := RX10) (T := TX10) (N := 49) hx hb hts inX10 hown hK hw 5 m_z0_5 rfl (by decide) (hts _ tw_1142) (fun _ h9 => h9) dX10_go_339 ?_
        refine lv_iconst (v := 1) hx hb dX10_go_342 (by decide) ?_
        refine lv_iadd hx hb dX10_go_343 (lv_topi (fun v_3 e_v_3 => ?_))
        obtain ⟨t_v_3, r_v_3⟩ := tq_add (lo := 1) (hi := 940) r_z0_5 rl_1 (by decide +kernel) e_v_3
        have t_v_3 : v_3.toInt = z0_5.toInt + 1 := t_v_3
        have q_v_3 : z0_5 + (1 : Int32) = v_3 := e_v_3.symm
        refine tg_put (ci := 10) (ts := ty_MODEL) (v := .int v_3) (ty := .int) (C := RX10) (T := TX10) (N := 49) hx hb hts inX10 tyX10 tyX10_ok nmX10 hown hK hw h_p0 rfl rfl 5 (by decide) (hts _ tw_1142) (fun _ h9 => h9) rfl (by decide +kernel) rfl rfl (ft := vI 0 940) rfl ⟨_, rfl, (r_v_3.to (by decide))⟩ (by decide) dX10_go_344 (fun ws H locs hw n_k_4 hF9 => ?_)
        have m_z0_3 := FLD.over hF9 m_z0_3 (by decide)
        have m_z0_4 := FLD.over hF9 m_z0_4 (by decide)
        have m_z0_6 := FLD.over hF9 m_z0_6 (by decide)
        obtain ⟨sg_5, q_sg_5⟩ : ∃ q9 : OS, sI s0 5 v_3 = q9 := ⟨_, rfl⟩
        have o_p0 : OV vw_MODEL Ps ws p0 sg_5 := by rw [← q_sg_5]; exact OV.putI (V := vw_MODEL) hF9 n_k_4 o_p0 (by decide)
        refine lv_goto (tgt := 215) hx hb dX10_go_347 (by decide) ?_
        simp only [f_X10_go__2_337, ↓reduceIte, q_z0_3, q_z0_4, q_z0_5, q_z0_6, q_v_3, q_sg_5] at hE
        exact ih215 x1 x2 x3 z0_3 z0_4 v_3 z0_6 sg_5 ws _ _ ls (by have q0 := r_v_3.1; have u0 := r_v_3.2; have o0 := r_z0_5.1; have p0 := r_z0_5.2; omega) r_x1 r_x2 r_x3 r_z0_3 m_z0_3 r_z0_4 m_z0_4 (r_v_3.to (by decide)) n_k_4 r_z0_6 m_z0_6 o_p0 hE hw (lv_sub hl [0, 1, 2, 3] rfl)
      have B307 : ∀ (x1 : Int32) (x2 : Int32) (x3 : Int32) (x4 : Int32) (z0_3 : Int32) (z0_4 : Int32) (z0_5 : Int32) (z0_6 : Int32) (s0 : OS) (ws : va_W) (H : Heap) (locs : List Loc) (ls : Array Slot), RI x1 48 122 → RI x2 0 1 → RI x3 0 1 → RI x4 0 255 → RI z0_3 1 940 → FLD ws p0 10 3 (.int z0_3) → RI z0_4 0 2147483647 → FLD ws p0 10 4 (.int z0_4) → RI z0_5 0 939 → FLD ws p0 10 5 (.int z0_5) → RI z0_6 0 940 → FLD ws p0 10 6 (.int z0_6) → OV vw_MODEL Ps ws p0 s0 → 940 - z0_5.toInt < ((nf215 + 1 : Nat) : Int) → f_X10_go__2_307 (f_X10_go__2_215 nf215) x1 x2 x3 x4 s0 = R9 → WD D cy GG A s wr_X10_go__3 wa_X10_go__3 Ps w0 Ps ws H locs → lv_has ls 5 [(0, .ref p0), (1, .int x1), (2, .int x2), (3, .int x3), (4, .int x4)] → W p l e (headSpec (Cond.code yX10_go cX10_go 5 none :: gT) ({ frames := 2, cells := 0, slots := 0, locals := 400 } : Room)).room s m ([.ref p0] : List Value).toArray below meth c H locs 0 0 Q (F0 m 307 ls []) := by
        intro x1 x2 x3 x4 z0_3 z0_4 z0_5 z0_6 s0 ws H locs ls r_x1 r_x2 r_x3 r_x4 r_z0_3 m_z0_3 r_z0_4 m_z0_4 r_z0_5 m_z0_5 r_z0_6 m_z0_6 o_p0 hn215 hE hw hl
        have q_z0_3 : s0.1 3 = z0_3 := OV.eqI (V := vw_MODEL) hw.2.2.1 o_p0 m_z0_3 (by decide)
        have q_z0_4 : s0.1 4 = z0_4 := OV.eqI (V := vw_MODEL) hw.2.2.1 o_p0 m_z0_4 (by decide)
        have q_z0_5 : s0.1 5 = z0_5 := OV.eqI (V := vw_MODEL) hw.2.2.1 o_p0 m_z0_5 (by decide)
        have q_z0_6 : s0.1 6 = z0_6 := OV.eqI (V := vw_MODEL) hw.2.2.1 o_p0 m_z0_6 (by decide)
        refine lv_aload_n hx hb dX10_go_307 rfl (lv_at hl 0 rfl) ?_
        refine tg_mem (ci := 10) (C := RX10) (T := TX10) (N := 49) hx hb hts inX10 hown hK hw 5 m_z0_5 rfl (by decide) (hts _ tw_1142) (fun _ h9 => h9) dX10_go_308 ?_
        refine lv_aload_n hx hb dX10_go_311 rfl (lv_at hl 0 rfl) ?_
        refine tg_mem (ci := 10) (C := RX10) (T := TX10) (N := 49) hx hb hts inX10 hown hK hw 6 m_z0_6 rfl (by decide) (hts _ tw_1143) (fun _ h9 => h9) dX10_go_312 ?_
        refine lv_isub hx hb dX10_go_315 (lv_topi (fun v_6 e_v_6 => ?_))
        obtain ⟨t_v_6, r_v_6⟩ := tq_sub (lo := (-940)) (hi := 939) r_z0_5 r_z0_6 (by decide +kernel) e_v_6
        have q_v_6 : z0_5 - z0_6 = v_6 := e_v_6.symm
        refine lv_iconst (v := 3) hx hb dX10_go_316 (by decide) ?_
        refine lv_icmp_ge (tgt := 337) hx hb dX10_go_317 (by decide) (fun c_317 => ?_) (fun c_317 => ?_)
        · have r_v_6 : RI v_6 3 939 := rc_le2 rl_3 r_v_6 (ti_le c_317) (by decide)
          simp only [f_X10_go__2_307, ↓reduceIte, q_z0_3, q_z0_4, q_z0_5, q_z0_6, q_v_6, eq_true c_317] at hE
          exact B337 x1 x2 x3 x4 z0_3 z0_4 z0_5 z0_6 s0 ws _ _ ls r_x1 r_x2 r_x3 r_x4 r_z0_3 m_z0_3 r_z0_4 m_z0_4 r_z0_5 m_z0_5 r_z0_6 m_z0_6 o_p0 (by have q0 := r_z0_5.1; have u0 := r_z0_5.2; omega) hE hw hl
        · have r_v_6 : RI v_6 (-940) 2 := rc_lt1 r_v_6 rl_3 (ti_nle c_317) (by decide)
          refine lv_aload_n hx hb dX10_go_320 rfl (lv_at hl 0 rfl) ?_
          refine lv_bipush (v := 10) hx hb dX10_go_321 (by decide) ?_
          refine lv_aload_n hx hb dX10_go_323 rfl (lv_at hl 0 rfl) ?_
          refine tg_get (ci := 10) (ts := ty_MODEL) (C := RX10) (T := TX10) (N := 49) hx hb hts inX10 hown hK hw h_p0 rfl rfl 8 (by decide) (hts _ tw_1145) (fun _ h9 => h9) (ft := vI (-2147483648) 2147483647) rfl dX10_go_324 (fun u_7 hv_u_7 m_u_7 => ?_)
          obtain ⟨vu_7, rfl, r_vu_7⟩ := hv_u_7
          have q_vu_7 : s0.1 8 = vu_7 := OV.eqI (V := vw_MODEL) hw.2.2.1 o_p0 m_u_7 (by decide)
          refine lv_imul hx hb dX10_go_327 (lv_topi (fun v_8 e_v_8 => ?_))
          have r_v_8 := ri_any v_8
          have q_v_8 : (10 : Int32) * vu_7 = v_8 := e_v_8.symm
          refine lv_iload hx hb dX10_go_328 (lv_at hl 4 rfl) ?_
          refine lv_iadd hx hb dX10_go_330 (lv_topi (fun v_9 e_v_9 => ?_))
          have r_v_9 := ri_any v_9
          have q_v_9 : v_8 + x4 = v_9 := e_v_9.symm
          refine lv_bipush (v := 48) hx hb dX10_go_331 (by decide) ?_
          refine lv_isub hx hb dX10_go_333 (lv_topi (fun v_10 e_v_10 => ?_))
          have r_v_10 := ri_any v_10
          have q_v_10 : v_9 - (48 : Int32) = v_10 := e_v_10.symm
          refine tg_put (ci := 10) (ts := ty_MODEL) (v := .int v_10) (ty := .int) (C := RX10) (T := TX10) (N := 49) hx hb hts inX10 tyX10 tyX10_ok nmX10 hown hK hw h_p0 rfl rfl 8 (by decide) (hts _ tw_1145) (fun _ h9 => h9) rfl (by decide +kernel) rfl rfl (ft := vI (-2147483648) 2147483647) rfl ⟨_, rfl, r_v_10⟩ (by decide) dX10_go_334 (fun ws H locs hw n_k_11 hF9 => ?_)
          have m_z0_3 := FLD.over hF9 m_z0_3 (by decide)
          have m_z0_4 := FLD.over hF9 m_z0_4 (by decide)
          have m_z0_5 := FLD.over hF9 m_z0_5 (by decide)
          have m_z0_6 := FLD.over hF9 m_z0_6 (by decide)
          obtain ⟨sg_12, q_sg_12⟩ : ∃ q9 : OS, sI s0 8 v_10 = q9 := ⟨_, rfl⟩
          have o_p0 : OV vw_MODEL Ps ws p0 sg_12 := by rw [← q_sg_12]; exact OV.putI (V := vw_MODEL) hF9 n_k_11 o_p0 (by decide)
          simp only [f_X10_go__2_307, ↓reduceIte, q_z0_3, q_z0_4, q_z0_5, q_z0_6, q_v_6, eq_false c_317, q_vu_7, q_v_8, q_v_9, q_v_10, q_sg_12] at hE
          exact B337 x1 x2 x3 x4 z0_3 z0_4 z0_5 z0_6 sg_12 ws _ _ ls r_x1 r_x2 r_x3 r_x4 r_z0_3 m_z0_3 r_z0_4 m_z0_4 r_z0_5 m_z0_5 r_z0_6 m_z0_6 o_p0 (by have q0 := r_z0_5.1; have u0 := r_z0_5.2; omega) hE hw hl
      have B272 : ∀ (x1 : Int32) (x2 : Int32) (x3 : Int32) (x4 : Int32) (y0 : Int32) (z0_3 : Int32) (z0_4 : Int32) (z0_5 : Int32) (z0_6 : Int32) (s0 : OS) (ws : va_W) (H : Heap) (locs : List Loc) (ls : Array Slot), RI x1 48 122 → RI x2 0 1 → RI x3 0 1 → RI x4 0 255 → RI y0 0 1 → RI z0_3 1 940 → FLD ws p0 10 3 (.int z0_3) → RI z0_4 0 2147483647 → FLD ws p0 10 4 (.int z0_4) → RI z0_5 0 939 → FLD ws p0 10 5 (.int z0_5) → RI z0_6 0 940 → FLD ws p0 10 6 (.int z0_6) → OV vw_MODEL Ps ws p0 s0 → 940 - z0_5.toInt < ((nf215 + 1 : Nat) : Int) → f_X10_go__2_272 (f_X10_go__2_215 nf215) x1 x2 x3 x4 y0 s0 = R9 → WD D cy GG A s wr_X10_go__3 wa_X10_go__3 Ps w0 Ps ws H locs → lv_has ls 5 [(0, .ref p0), (1, .int x1), (2, .int x2), (3, .int x3), (4, .int x4)] → W p l e (headSpec (Cond.code yX10_go cX10_go 5 none :: gT) ({ frames := 2, cells := 0, slots := 0, locals := 400 } : Room)).room s m ([.ref p0] : List Value).toArray below meth c H locs 0 0 Q (F0 m 272 ls [.int y0]) := by
        intro x1 x2 x3 x4 y0 z0_3 z0_4 z0_5 z0_6 s0 ws H locs ls r_x1 r_x2 r_x3 r_x4 r_y0 r_z0_3 m_z0_3 r_z0_4 m_z0_4 r_z0_5 m_z0_5 r_z0_6 m_z0_6 o_p0 hn215 hE hw hl
        have q_z0_3 : s0.1 3 = z0_3 := OV.eqI (V := vw_MODEL) hw.2.2.1 o_p0 m_z0_3 (by decide)
        have q_z0_4 : s0.1 4 = z0_4 := OV.eqI (V := vw_MODEL) hw.2.2.1 o_p0 m_z0_4 (by decide)
        have q_z0_5 : s0.1 5 = z0_5 := OV.eqI (V := vw_MODEL) hw.2.2.1 o_p0 m_z0_5 (by decide)
        have q_z0_6 : s0.1 6 = z0_6 := OV.eqI (V := vw_MODEL) hw.2.2.1 o_p0 m_z0_6 (by decide)
        refine lv_istore_n (lv' := [(3, .int y0), (0, .ref p0), (1, .int x1), (2, .int x2), (4, .int x4)]) hx hb dX10_go_272 rfl hl (by decide) rfl (fun ls hl => ?_)
        refine lv_aload_n hx hb dX10_go_273 rfl (lv_at hl 1 rfl) ?_
        refine tg_mem (ci := 10) (C := RX10) (T := TX10) (N := 49) hx hb hts inX10 hown hK hw 5 m_z0_5 rfl (by decide) (hts _ tw_1142) (fun _ h9 => h9) dX10_go_274 ?_
        refine lv_aload_n hx hb dX10_go_277 rfl (lv_at hl 1 rfl) ?_
        refine tg_mem (ci := 10) (C := RX10) (T := TX10) (N := 49) hx hb hts inX10 hown hK hw 6 m_z0_6 rfl (by decide) (hts _ tw_1143) (fun _ h9 => h9) dX10_go_278 ?_
        refine lv_isub hx hb dX10_go_281 (lv_topi (fun v_13 e_v_13 => ?_))
        obtain ⟨t_v_13, r_v_13⟩ := tq_sub (lo := (-940)) (hi := 939) r_z0_5 r_z0_6 (by decide +kernel) e_v_13
        have q_v_13 : z0_5 - z0_6 = v_13 := e_v_13.symm
        refine lv_bipush (v := 7) hx hb dX10_go_282 (by decide) ?_
        refine lv_icmp_ge (tgt := 307) hx hb dX10_go_284 (by decide) (fun c_284 => ?_) (fun c_284 => ?_)
        · have r_v_13 : RI v_13 7 939 := rc_le2 rl_7 r_v_13 (ti_le c_284) (by decide)
          simp only [f_X10_go__2_272, ↓reduceIte, q_z0_3, q_z0_4, q_z0_5, q_z0_6, q_v_13, eq_true c_284] at hE
          exact B307 x1 x2 y0 x4 z0_3 z0_4 z0_5 z0_6 s0 ws _ _ ls r_x1 r_x2 r_y0 r_x4 r_z0_3 m_z0_3 r_z0_4 m_z0_4 r_z0_5 m_z0_5 r_z0_6 m_z0_6 o_p0 (by have q0 := r_z0_5.1; have u0 := r_z0_5.2; omega) hE hw (lv_sub hl [1, 2, 3, 0, 4] rfl)
        · have r_v_13 : RI v_13 (-940) 6 := rc_lt1 r_v_13 rl_7 (ti_nle c_284) (by decide)
          refine lv_aload_n hx hb dX10_go_287 rfl (lv_at hl 1 rfl) ?_
          refine lv_ldc2 (v := 27) hx hb hown (hts _ tw_1312) dX10_go_288 ?_
          refine lv_aload_n hx hb dX10_go_291 rfl (lv_at hl 1 rfl) ?_
          refine tg_get (ci := 10) (ts := ty_MODEL) (C := RX10) (T := TX10) (N := 49) hx hb hts inX10 hown hK hw h_p0 rfl rfl 12 (by decide) (hts _ tw_1149) (fun _ h9 => h9) (ft := vJ (-9223372036854775808) 9223372036854775807) rfl dX10_go_292 (fun u_14 hv_u_14 m_u_14 => ?_)
          obtain ⟨vu_14, rfl, r_vu_14⟩ := hv_u_14
          have q_vu_14 : s0.2.1 12 = vu_14 := OV.eqL (V := vw_MODEL) hw.2.2.1 o_p0 m_u_14 (by decide)
          refine lv_lmul hx hb dX10_go_295 (lv_topl (fun w_15 e_w_15 => ?_))
          have r_w_15 := rj_any w_15
          have q_w_15 : (27 : Int64) * vu_14 = w_15 := e_w_15.symm
          refine lv_iload hx hb dX10_go_296 (lv_at hl 4 rfl) ?_
          obtain ⟨w_16, e_w_16⟩ : ∃ q9 : Int64, (x4 : Int32).toInt64 = q9 := ⟨_, rfl⟩
          refine lv_i2l (v := w_16) hx hb dX10_go_298 e_w_16 ?_
          have r_w_16 := tq_i2l r_x4 e_w_16
          have q_w_16 : Int32.toInt64 x4 = w_16 := e_w_16
          refine lv_ladd hx hb dX10_go_299 (lv_topl (fun w_17 e_w_17 => ?_))
          have r_w_17 := rj_any w_17
          have q_w_17 : w_15 + w_16 = w_17 := e_w_17.symm
          refine lv_ldc2 (v := 96) hx hb hown (hts _ tw_1313) dX10_go_300 ?_
          refine lv_lsub hx hb dX10_go_303 (lv_topl (fun w_18 e_w_18 => ?_))
          have r_w_18 := rj_any w_18
          have q_w_18 : w_17 - (96 : Int64) = w_18 := e_w_18.symm
          refine tg_put (ci := 10) (ts := ty_MODEL) (v := .long w_18) (ty := .long) (C := RX10) (T := TX10) (N := 49) hx hb hts inX10 tyX10 tyX10_ok nmX10 hown hK hw h_p0 rfl rfl 12 (by decide) (hts _ tw_1149) (fun _ h9 => h9) rfl (by decide +kernel) rfl rfl (ft := vJ (-9223372036854775808) 9223372036854775807) rfl ⟨_, rfl, r_w_18.to (by decide)⟩ (by decide) dX10_go_304 (fun ws H locs hw n_k_19 hF9 => ?_)
          have m_z0_3 := FLD.over hF9 m_z0_3 (by decide)
          have m_z0_4 := FLD.over hF9 m_z0_4 (by decide)
          have m_z0_5 := FLD.over hF9 m_z0_5 (by decide)
          have m_z0_6 := FLD.over hF9 m_z0_6 (by decide)
          obtain ⟨sg_20, q_sg_20⟩ : ∃ q9 : OS, sL s0 12 w_18 = q9 := ⟨_, rfl⟩
          have o_p0 : OV vw_MODEL Ps ws p0 sg_20 := by rw [← q_sg_20]; exact OV.putL (V := vw_MODEL) hF9 n_k_19 o_p0 (by decide)
          simp only [f_X10_go__2_272, ↓reduceIte, q_z0_3, q_z0_4, q_z0_5, q_z0_6, q_v_13, eq_false c_284, q_vu_14, q_w_15, q_w_16, q_w_17, q_w_18, q_sg_20] at hE
          exact B307 x1 x2 y0 x4 z0_3 z0_4 z0_5 z0_6 sg_20 ws _ _ ls r_x1 r_x2 r_y0 r_x4 r_z0_3 m_z0_3 r_z0_4 m_z0_4 r_z0_5 m_z0_5 r_z0_6 m_z0_6 o_p0 (by have q0 := r_z0_5.1; have u0 := r_z0_5.2; omega) hE hw (lv_sub hl [1, 2, 3, 0, 4] rfl)
      have B271 : ∀ (x1 : Int32) (x2 : Int32) (x3 : Int32) (x4 : Int32) (z0_3 : Int32) (z0_4 : Int32) (z0_5 : Int32) (z0_6 : Int32) (s0 : OS) (ws : va_W) (H : Heap) (locs : List Loc) (ls : Array Slot), RI x1 48 122 → RI x2 0 1 → RI x3 0 1 → RI x4 0 255 → RI z0_3 1 940 → FLD ws p0 10 3 (.int z0_3) → RI z0_4 0 2147483647 → FLD ws p0 10 4 (.int z0_4) → RI z0_5 0 939 → FLD ws p0 10 5 (.int z0_5) → RI z0_6 0 940 → FLD ws p0 10 6 (.int z0_6) → OV vw_MODEL Ps ws p0 s0 → 940 - z0_5.toInt < ((nf215 + 1 : Nat) : Int) → f_X10_go__2_271 (f_X10_go__2_215 nf215) x1 x2 x3 x4 s0 = R9 → WD D cy GG A s wr_X10_go__3 wa_X10_go__3 Ps w0 Ps ws H locs → lv_has ls 5 [(0, .ref p0), (1, .int x1), (2, .int x2), (3, .int x3), (4, .int x4)] → W p l e (headSpec (Cond.code yX10_go cX10_go 5 none :: gT) ({ frames := 2, cells := 0, slots := 0, locals := 400 } : Room)).room s m ([.ref p0] : List Value).toArray below meth c H locs 0 0 Q (F0 m 271 ls []) := by
        intro x1 x2 x3 x4 z0_3 z0_4 z0_5 z0_6 s0 ws H locs ls r_x1 r_x2 r_x3 r_x4 r_z0_3 m_z0_3 r_z0_4 m_z0_4 r_z0_5 m_z0_5 r_z0_6 m_z0_6 o_p0 hn215 hE hw hl
        have q_z0_3 : s0.1 3 = z0_3 := OV.eqI (V := vw_MODEL) hw.2.2.1 o_p0 m_z0_3 (by decide)
        have q_z0_4 : s0.1 4 = z0_4 := OV.eqI (V := vw_MODEL) hw.2.2.1 o_p0 m_z0_4 (by decide)
        have q_z0_5 : s0.1 5 = z0_5 := OV.eqI (V := vw_MODEL) hw.2.2.1 o_p0 m_z0_5 (by decide)
        have q_z0_6 : s0.1 6 = z0_6 := OV.eqI (V := vw_MODEL) hw.2.2.1 o_p0 m_z0_6 (by decide)
        refine lv_iconst (v := 0) hx hb dX10_go_271 (by decide) ?_
        simp only [f_X10_go__2_271, ↓reduceIte, q_z0_3, q_z0_4, q_z0_5, q_z0_6] at hE
        exact B272 x1 x2 x3 x4 0 z0_3 z0_4 z0_5 z0_6 s0 ws _ _ ls r_x1 r_x2 r_x3 r_x4 (rl_0.to (by decide)) r_z0_3 m_z0_3 r_z0_4 m_z0_4 r_z0_5 m_z0_5 r_z0_6 m_z0_6 o_p0 (by have q0 := r_z0_5.1; have u0 := r_z0_5.2; omega) hE hw hl
      have B243 : ∀ (x1 : Int32) (x2 : Int32) (x3 : Int32) (z0_3 : Int32) (z0_4 : Int32) (z0_5 : Int32) (z0_6 : Int32) (s0 : OS) (ws : va_W) (H : Heap) (locs : List Loc) (ls : Array Slot), RI x1 48 122 → RI x2 0 1 → RI x3 0 1 → RI z0_3 1 940 → FLD ws p0 10 3 (.int z0_3) → RI z0_4 0 2147483647 → FLD ws p0 10 4 (.int z0_4) → RI z0_5 0 939 → FLD ws p0 10 5 (.int z0_5) → RI z0_6 0 940 → FLD ws p0 10 6 (.int z0_6) → OV vw_MODEL Ps ws p0 s0 → 940 - z0_5.toInt < ((nf215 + 1 : Nat) : Int) → f_X10_go__2_243 (f_X10_go__2_215 nf215) x1 x2 x3 s0 = R9 → WD D cy GG A s wr_X10_go__3 wa_X10_go__3 Ps w0 Ps ws H locs → lv_has ls 5 [(0, .ref p0), (1, .int x1), (2, .int x2), (3, .int x3)] → W p l e (headSpec (Cond.code yX10_go cX10_go 5 none :: gT) ({ frames := 2, cells := 0, slots := 0, locals := 400 } : Room)).room s m ([.ref p0] : List Value).toArray below meth c H locs 0 0 Q (F0 m 243 ls []) := by
        intro x1 x2 x3 z0_3 z0_4 z0_5 z0_6 s0 ws H locs ls r_x1 r_x2 r_x3 r_z0_3 m_z0_3 r_z0_4 m_z0_4 r_z0_5 m_z0_5 r_z0_6 m_z0_6 o_p0 hn215 hE hw hl
        have q_z0_3 : s0.1 3 = z0_3 := OV.eqI (V := vw_MODEL) hw.2.2.1 o_p0 m_z0_3 (by decide)
        have q_z0_4 : s0.1 4 = z0_4 := OV.eqI (V := vw_MODEL) hw.2.2.1 o_p0 m_z0_4 (by decide)
        have q_z0_5 : s0.1 5 = z0_5 := OV.eqI (V := vw_MODEL) hw.2.2.1 o_p0 m_z0_5 (by decide)
        have q_z0_6 : s0.1 6 = z0_6 := OV.eqI (V := vw_MODEL) hw.2.2.1 o_p0 m_z0_6 (by decide)
        refine lv_aload_n hx hb dX10_go_243 rfl (lv_at hl 0 rfl) ?_
        refine tg_get (ci := 10) (ts := ty_MODEL) (C := RX10) (T := TX10) (N := 49) hx hb hts inX10 hown hK hw h_p0 rfl rfl 1 (by decide) (hts _ tw_1138) (fun _ h9 => h9) (ft := vR 40) rfl dX10_go_244 (fun u_21 hv_u_21 m_u_21 => ?_)
        obtain ⟨vu_21, rfl, h_vu_21⟩ := hv_u_21
        refine lv_aload_n hx hb dX10_go_247 rfl (lv_at hl 0 rfl) ?_
        refine tg_mem (ci := 10) (C := RX10) (T := TX10) (N := 49) hx hb hts inX10 hown hK hw 5 m_z0_5 rfl (by decide) (hts _ tw_1142) (fun _ h9 => h9) dX10_go_248 ?_
        refine tg_iald (lo := 0) (hi := 255) hx hb hK hw h_vu_21 rfl 0 939 r_z0_5 (by decide) (by exact fun _ _ _ => ⟨Int.le_refl _, Int.le_refl _⟩) dX10_go_251 (fun v_22 r_v_22 m_v_22 o_v_22 => ?_)
        have q_v_22 : s0.2.2.1 1 (Int32.toNatClampNeg z0_5) = v_22 := OV.eqA (V := vw_MODEL) (t := 40) hw.2.2.1 o_p0 m_u_21 m_v_22 (by decide)
        refine lv_istore (lv' := [(4, .int v_22), (0, .ref p0), (1, .int x1), (2, .int x2), (3, .int x3)]) hx hb dX10_go_252 hl (by decide) rfl (fun ls hl => ?_)
        refine lv_iload_n hx hb dX10_go_254 rfl (lv_at hl 4 rfl) ?_
        refine lv_if_eq (tgt := 271) hx hb dX10_go_255 (by decide) (fun c_255 => ?_) (fun c_255 => ?_)
        · have r_x3 : RI x3 0 0 := rc_eq1 r_x3 rl_0 (ti_eq c_255) (by decide)
          simp only [f_X10_go__2_243, ↓reduceIte, q_z0_3, q_z0_4, q_z0_5, q_z0_6, q_v_22, eq_true c_255] at hE
          exact B271 x1 x2 x3 v_22 z0_3 z0_4 z0_5 z0_6 s0 ws _ _ ls r_x1 r_x2 (r_x3.to (by decide)) r_v_22 r_z0_3 m_z0_3 r_z0_4 m_z0_4 r_z0_5 m_z0_5 r_z0_6 m_z0_6 o_p0 (by have q0 := r_z0_5.1; have u0 := r_z0_5.2; omega) hE hw (lv_sub hl [1, 2, 3, 4, 0] rfl)
        · have r_x3 : RI x3 1 1 := rc_neL r_x3 rl_0 (ti_ne c_255) (by decide)
          refine lv_iload hx hb dX10_go_258 (lv_at hl 0 rfl) ?_
          refine tk_ir (va_runS (As := [.int v_22]) (rest := []) ⟨hx, hb, hml, hown, hts⟩ (c_X10_isLetter__2 l D cy z H.size Ps ws hw.1 v_22 r_v_22) (va_cwS 1 hts (gS tw_1302 tw_1303 tw_15 tw_1304) rfl rfl rfl (by decide +kernel) ⟨Nat.le_of_ble_eq_true rfl, Nat.le_of_ble_eq_true rfl⟩) (tg_preS hw hK hSD hA) rfl rfl hl.1 rfl (lv_room (Nat.le_of_ble_eq_true rfl)) dX10_go_260 ⟨Nat.le_of_ble_eq_true rfl, Nat.le_of_ble_eq_true rfl⟩) hw hA (fun v_23  H locs hp_v_23 hw => ?_)
          obtain ⟨hfn, hp_v_23⟩ := hp_v_23
          have q_v_23 : (f_X10_isLetter__2 v_22) = v_23 := hfn.1
          have r_v_23 : RI v_23 0 1 := hp_v_23.1
          refine lv_iload_n hx hb dX10_go_263 rfl (lv_at hl 3 rfl) ?_
          refine lv_icmp_ne (tgt := 271) hx hb dX10_go_264 (by decide) (fun c_264 => ?_) (fun c_264 => ?_)
          · simp only [f_X10_go__2_243, ↓reduceIte, q_z0_3, q_z0_4, q_z0_5, q_z0_6, q_v_22, eq_false c_255, q_v_23, eq_false c_264] at hE
            exact B271 x1 x2 x3 v_22 z0_3 z0_4 z0_5 z0_6 s0 ws _ _ ls r_x1 r_x2 (r_x3.to (by decide)) r_v_22 r_z0_3 m_z0_3 r_z0_4 m_z0_4 r_z0_5 m_z0_5 r_z0_6 m_z0_6 o_p0 (by have q0 := r_z0_5.1; have u0 := r_z0_5.2; omega) hE hw (lv_sub hl [1, 2, 3, 4, 0] rfl)
          · refine lv_iconst (v := 1) hx hb dX10_go_267 (by decide) ?_
            refine lv_goto (tgt := 272) hx hb dX10_go_268 (by decide) ?_
            simp only [f_X10_go__2_243, ↓reduceIte, q_z0_3, q_z0_4, q_z0_5, q_z0_6, q_v_22, eq_false c_255, q_v_23, eq_true c_264] at hE
            exact B272 x1 x2 x3 v_22 1 z0_3 z0_4 z0_5 z0_6 s0 ws _ _ ls r_x1 r_x2 (r_x3.to (by decide)) r_v_22 (rl_1.to (by decide)) r_z0_3 m_z0_3 r_z0_4 m_z0_4 r_z0_5 m_z0_5 r_z0_6 m_z0_6 o_p0 (by have q0 := r_z0_5.1; have u0 := r_z0_5.2; omega) hE hw (lv_sub hl [1, 2, 3, 4, 0] rfl)
      intro x1 x2 x3 z0_3 z0_4 z0_5 z0_6 s0 ws H locs ls hn215 r_x1 r_x2 r_x3 r_z0_3 m_z0_3 r_z0_4 m_z0_4 r_z0_5 m_z0_5 r_z0_6 m_z0_6 o_p0 hE hw hl
      have q_z0_3 : s0.1 3 = z0_3 := OV.eqI (V := vw_MODEL) hw.2.2.1 o_p0 m_z0_3 (by decide)
      have q_z0_4 : s0.1 4 = z0_4 := OV.eqI (V := vw_MODEL) hw.2.2.1 o_p0 m_z0_4 (by decide)
      have q_z0_5 : s0.1 5 = z0_5 := OV.eqI (V := vw_MODEL) hw.2.2.1 o_p0 m_z0_5 (by decide)
      have q_z0_6 : s0.1 6 = z0_6 := OV.eqI (V := vw_MODEL) hw.2.2.1 o_p0 m_z0_6 (by decide)
      refine lv_aload_n hx hb dX10_go_215 rfl (lv_at hl 0 rfl) ?_
      refine lv_aload_n hx hb dX10_go_216 rfl (lv_at hl 0 rfl) ?_
      refine tg_mem (ci := 10) (C := RX10) (T := TX10) (N := 49) hx hb hts inX10 hown hK hw 5 m_z0_5 rfl (by decide) (hts _ tw_1142) (fun _ h9 => h9) dX10_go_217 ?_
      refine tk_ir (va_runV (As := [.int z0_5]) (rest := []) ⟨hx, hb, hml, hown, hts⟩ (c_X10_tapeAt__1 l D cy z H.size Ps ws hw.1 p0 z0_5 s0 h_p0 r_z0_5 o_p0) (cwV 1 hts (gV tw_1308 tw_1310 ts_41 tw_15 tw_1311) rfl rfl rfl (by decide +kernel) ⟨Nat.le_of_ble_eq_true rfl, Nat.le_of_ble_eq_true rfl⟩) (tg_preV hw hK hSD hA (ci := 10) (q := (RX10, TX10, 49)) rfl h_p0 rfl) rfl rfl hl.1 rfl (lv_room (Nat.le_of_ble_eq_true rfl)) dX10_go_220 ⟨Nat.le_of_ble_eq_true rfl, Nat.le_of_ble_eq_true rfl⟩) hw hA (fun v_24  H locs hp_v_24 hw => ?_)
      obtain ⟨hfn, hp_v_24⟩ := hp_v_24
      have q_v_24 : (f_X10_tapeAt__1 z0_5 s0) = v_24 := hfn.1
      have r_v_24 : RI v_24 0 255 := hp_v_24.1
      refine tk_ir (va_runS (As := [.int v_24]) (rest := []) ⟨hx, hb, hml, hown, hts⟩ (c_X10_isLetter__2 l D cy z H.size Ps ws hw.1 v_24 r_v_24) (va_cwS 1 hts (gS tw_1302 tw_1303 tw_15 tw_1304) rfl rfl rfl (by decide +kernel) ⟨Nat.le_of_ble_eq_true rfl, Nat.le_of_ble_eq_true rfl⟩) (tg_preS hw hK hSD hA) rfl rfl hl.1 rfl (lv_room (Nat.le_of_ble_eq_true rfl)) dX10_go_223 ⟨Nat.le_of_ble_eq_true rfl, Nat.le_of_ble_eq_true rfl⟩) hw hA (fun v_25  H locs hp_v_25 hw => ?_)
      obtain ⟨hfn, hp_v_25⟩ := hp_v_25
      have q_v_25 : (f_X10_isLetter__2 v_24) = v_25 := hfn.1
      have r_v_25 : RI v_25 0 1 := hp_v_25.1
      refine lv_if_ne (tgt := 243) hx hb dX10_go_226 (by decide) (fun c_226 => ?_) (fun c_226 => ?_)
      · have r_v_25 : RI v_25 1 1 := rc_neL r_v_25 rl_0 (ti_ne c_226) (by decide)
        have r_v_24 : RI v_24 97 122 := ((hp_v_25.2.2 c_226).1)
        have r_z0_5 : RI z0_5 0 939 := ((hp_v_24.2.2 (ri_ne0 r_v_24 (by decide))).1)
        simp only [f_X10_go__2_215, ↓reduceIte, q_z0_3, q_z0_4, q_z0_5, q_z0_6, q_v_24, q_v_25, eq_false c_226] at hE
        exact B243 x1 x2 x3 z0_3 z0_4 z0_5 z0_6 s0 ws _ _ ls r_x1 r_x2 r_x3 r_z0_3 m_z0_3 r_z0_4 m_z0_4 r_z0_5 m_z0_5 r_z0_6 m_z0_6 o_p0 (by have q0 := r_z0_5.1; have u0 := r_z0_5.2; omega) hE hw hl
      · have r_v_25 : RI v_25 0 0 := rc_eq1 r_v_25 rl_0 (ti_eq c_226) (by decide)
        refine lv_aload_n hx hb dX10_go_229 rfl (lv_at hl 0 rfl) ?_
        refine lv_aload_n hx hb dX10_go_230 rfl (lv_at hl 0 rfl) ?_
        refine tg_mem (ci := 10) (C := RX10) (T := TX10) (N := 49) hx hb hts inX10 hown hK hw 5 m_z0_5 rfl (by decide) (hts _ tw_1142) (fun _ h9 => h9) dX10_go_231 ?_
        refine tk_ir (va_runV (As := [.int z0_5]) (rest := []) ⟨hx, hb, hml, hown, hts⟩ (c_X10_tapeAt__1 l D cy z H.size Ps ws hw.1 p0 z0_5 s0 h_p0 r_z0_5 o_p0) (cwV 1 hts (gV tw_1308 tw_1310 ts_41 tw_15 tw_1311) rfl rfl rfl (by decide +kernel) ⟨Nat.le_of_ble_eq_true rfl, Nat.le_of_ble_eq_true rfl⟩) (tg_preV hw hK hSD hA (ci := 10) (q := (RX10, TX10, 49)) rfl h_p0 rfl) rfl rfl hl.1 rfl (lv_room (Nat.le_of_ble_eq_true rfl)) dX10_go_234 ⟨Nat.le_of_ble_eq_true rfl, Nat.le_of_ble_eq_true rfl⟩) hw hA (fun v_26  H locs hp_v_26 hw => ?_)
        obtain ⟨hfn, hp_v_26⟩ := hp_v_26
        have z9 : v_24 = v_26 := q_v_24.symm.trans (hfn.1)
        subst z9
        have r_v_24 : RI v_24 0 255 := hp_v_26.1
        refine tk_ir (va_runS (As := [.int v_24]) (rest := []) ⟨hx, hb, hml, hown, hts⟩ (c_X10_isDigit__1 l D cy z H.size Ps ws hw.1 v_24 r_v_24) (va_cwS 1 hts (gS tw_1305 tw_1306 tw_15 tw_1307) rfl rfl rfl (by decide +kernel) ⟨Nat.le_of_ble_eq_true rfl, Nat.le_of_ble_eq_true rfl⟩) (tg_preS hw hK hSD hA) rfl rfl hl.1 rfl (lv_room (Nat.le_of_ble_eq_true rfl)) dX10_go_237 ⟨Nat.le_of_ble_eq_true rfl, Nat.le_of_ble_eq_true rfl⟩) hw hA (fun v_27  H locs hp_v_27 hw => ?_)
        obtain ⟨hfn, hp_v_27⟩ := hp_v_27
        have q_v_27 : (f_X10_isDigit__1 v_24) = v_27 := hfn.1
        have r_v_27 : RI v_27 0 1 := hp_v_27.1
        refine lv_if_eq (tgt := 350) hx hb dX10_go_240 (by decide) (fun c_240 => ?_) (fun c_240 => ?_)
        · have r_v_27 : RI v_27 0 0 := rc_eq1 r_v_27 rl_0 (ti_eq c_240) (by decide)
          refine lv_aload_n hx hb dX10_go_350 rfl (lv_at hl 0 rfl) ?_
          refine lv_iload_n hx hb dX10_go_351 rfl (lv_at hl 3 rfl) ?_
          refine lv_if_eq (tgt := 377) hx hb dX10_go_352 (by decide) (fun c_352 => ?_) (fun c_352 => ?_)
          · have r_x3 : RI x3 0 0 := rc_eq1 r_x3 rl_0 (ti_eq c_352) (by decide)
            simp only [f_X10_go__2_215, ↓reduceIte, q_z0_3, q_z0_4, q_z0_5, q_z0_6, q_v_24, q_v_25, eq_true c_226, q_v_27, eq_true c_240, eq_true c_352] at hE
            exact B377 x1 x2 x3 z0_3 z0_4 z0_5 z0_6 s0 ws _ _ ls r_x1 r_x2 (r_x3.to (by decide)) r_z0_3 m_z0_3 r_z0_4 m_z0_4 r_z0_5 m_z0_5 r_z0_6 m_z0_6 o_p0 hE hw hl
          · have r_x3 : RI x3 1 1 := rc_neL r_x3 rl_0 (ti_ne c_352) (by decide)
            refine lv_aload_n hx hb dX10_go_355 rfl (lv_at hl 0 rfl) ?_
            refine tg_mem (ci := 10) (C := RX10) (T := TX10) (N := 49) hx hb hts inX10 hown hK hw 5 m_z0_5 rfl (by decide) (hts _ tw_1142) (fun _ h9 => h9) dX10_go_356 ?_
            refine lv_aload_n hx hb dX10_go_359 rfl (lv_at hl 0 rfl) ?_
            refine tg_mem (ci := 10) (C := RX10) (T := TX10) (N := 49) hx hb hts inX10 hown hK hw 6 m_z0_6 rfl (by decide) (hts _ tw_1143) (fun _ h9 => h9) dX10_go_360 ?_
            refine lv_isub hx hb dX10_go_363 (lv_topi (fun v_28 e_v_28 => ?_))
            obtain ⟨t_v_28, r_v_28⟩ := tq_sub (lo := (-940)) (hi := 940) r_z0_5 r_z0_6 (by decide +kernel) e_v_28
            have q_v_28 : z0_5 - z0_6 = v_28 := e_v_28.symm
            refine lv_iload_n hx hb dX10_go_364 rfl (lv_at hl 2 rfl) ?_
            refine lv_if_eq (tgt := 373) hx hb dX10_go_365 (by decide) (fun c_365 => ?_) (fun c_365 => ?_)
            · have r_x2 : RI x2 0 0 := rc_eq1 r_x2 rl_0 (ti_eq c_365) (by decide)
              refine lv_iconst (v := 3) hx hb dX10_go_373 (by decide) ?_
              simp only [f_X10_go__2_215, ↓reduceIte, q_z0_3, q_z0_4, q_z0_5, q_z0_6, q_v_24, q_v_25, eq_true c_226, q_v_27, eq_true c_240, eq_false c_352, q_v_28, eq_true c_365] at hE
              exact B374 x1 x2 x3 3 v_28 z0_3 z0_4 z0_5 z0_6 s0 ws _ _ ls r_x1 (r_x2.to (by decide)) r_x3 (rl_3.to (by decide)) r_v_28 r_z0_3 m_z0_3 r_z0_4 m_z0_4 r_z0_5 m_z0_5 r_z0_6 m_z0_6 o_p0 hE hw hl
            · have r_x2 : RI x2 1 1 := rc_neL r_x2 rl_0 (ti_ne c_365) (by decide)
              refine lv_bipush (v := 7) hx hb dX10_go_368 (by decide) ?_
              refine lv_goto (tgt := 374) hx hb dX10_go_370 (by decide) ?_
              simp only [f_X10_go__2_215, ↓reduceIte, q_z0_3, q_z0_4, q_z0_5, q_z0_6, q_v_24, q_v_25, eq_true c_226, q_v_27, eq_true c_240, eq_false c_352, q_v_28, eq_false c_365] at hE
              exact B374 x1 x2 x3 7 v_28 z0_3 z0_4 z0_5 z0_6 s0 ws _ _ ls r_x1 (r_x2.to (by decide)) r_x3 (rl_7.to (by decide)) r_v_28 r_z0_3 m_z0_3 r_z0_4 m_z0_4 r_z0_5 m_z0_5 r_z0_6 m_z0_6 o_p0 hE hw hl
        · have r_v_27 : RI v_27 1 1 := rc_neL r_v_27 rl_0 (ti_ne c_240) (by decide)
          have r_v_24 : RI v_24 48 57 := ((hp_v_27.2.2 c_240).1)
          have r_z0_5 : RI z0_5 0 939 := ((hp_v_26.2.2 (ri_ne0 r_v_24 (by decide))).1)
          simp only [f_X10_go__2_215, ↓reduceIte, q_z0_3, q_z0_4, q_z0_5, q_z0_6, q_v_24, q_v_25, eq_true c_226, q_v_27, eq_false c_240] at hE
          exact B243 x1 x2 x3 z0_3 z0_4 z0_5 z0_6 s0 ws _ _ ls r_x1 r_x2 r_x3 r_z0_3 m_z0_3 r_z0_4 m_z0_4 r_z0_5 m_z0_5 r_z0_6 m_z0_6 o_p0 (by have q0 := r_z0_5.1; have u0 := r_z0_5.2; omega) hE hw hl
  have B198 : ∀ (x1 : Int32) (z0_3 : Int32) (z0_4 : Int32) (z0_5 : Int32) (z0_6 : Int32) (s0 : OS) (ws : va_W) (H : Heap) (locs : List Loc) (ls : Array Slot), RI x1 48 122 → RI z0_3 1 940 → FLD ws p0 10 3 (.int z0_3) → RI z0_4 0 2147483647 → FLD ws p0 10 4 (.int z0_4) → RI z0_5 0 939 → FLD ws p0 10 5 (.int z0_5) → RI z0_6 0 940 → FLD ws p0 10 6 (.int z0_6) → OV vw_MODEL Ps ws p0 s0 → f_X10_go__2_198 x1 s0 = R9 → WD D cy GG A s wr_X10_go__3 wa_X10_go__3 Ps w0 Ps ws H locs → lv_has ls 5 [(0, .ref p0), (1, .int x1)] → W p l e (headSpec (Cond.code yX10_go cX10_go 5 none :: gT) ({ frames := 2, cells := 0, slots := 0, locals := 400 } : Room)).room s m ([.ref p0] : List Value).toArray below meth c H locs 0 0 Q (F0 m 198 ls []) := by
    intro x1 z0_3 z0_4 z0_5 z0_6 s0 ws H locs ls r_x1 r_z0_3 m_z0_3 r_z0_4 m_z0_4 r_z0_5 m_z0_5 r_z0_6 m_z0_6 o_p0 hE hw hl
    have q_z0_3 : s0.1 3 = z0_3 := OV.eqI (V := vw_MODEL) hw.2.2.1 o_p0 m_z0_3 (by decide)
    have q_z0_4 : s0.1 4 = z0_4 := OV.eqI (V := vw_MODEL) hw.2.2.1 o_p0 m_z0_4 (by decide)
    have q_z0_5 : s0.1 5 = z0_5 := OV.eqI (V := vw_MODEL) hw.2.2.1 o_p0 m_z0_5 (by decide)
    have q_z0_6 : s0.1 6 = z0_6 := OV.eqI (V := vw_MODEL) hw.2.2.1 o_p0 m_z0_6 (by decide)
    refine lv_iload_n hx hb dX10_go_198 rfl (lv_at hl 1 rfl) ?_
    refine tk_ir (va_runS (As := [.int x1]) (rest := []) ⟨hx, hb, hml, hown, hts⟩ (c_X10_isLetter__3 l D cy z H.size Ps ws hw.1 x1 r_x1) (va_cwS 1 hts (gS tw_1302 tw_1303 tw_15 tw_1304) rfl rfl rfl (by decide +kernel) ⟨Nat.le_of_ble_eq_true rfl, Nat.le_of_ble_eq_true rfl⟩) (tg_preS hw hK hSD hA) rfl rfl hl.1 rfl (lv_room (Nat.le_of_ble_eq_true rfl)) dX10_go_199 ⟨Nat.le_of_ble_eq_true rfl, Nat.le_of_ble_eq_true rfl⟩) hw hA (fun v_29  H locs hp_v_29 hw => ?_)
    obtain ⟨hfn, hp_v_29⟩ := hp_v_29
    have q_v_29 : (f_X10_isLetter__3 x1) = v_29 := hfn.1
    have r_v_29 : RI v_29 0 1 := hp_v_29.1
    refine lv_istore_n (lv' := [(2, .int v_29), (0, .ref p0), (1, .int x1)]) hx hb dX10_go_202 rfl hl (by decide) rfl (fun ls hl => ?_)
    refine lv_iconst (v := 1) hx hb dX10_go_203 (by decide) ?_
    refine lv_istore_n (lv' := [(3, .int 1), (2, .int v_29), (0, .ref p0), (1, .int x1)]) hx hb dX10_go_204 rfl hl (by decide) rfl (fun ls hl => ?_)
    refine lv_aload_n hx hb dX10_go_205 rfl (lv_at hl 2 rfl) ?_
    refine lv_lconst (v := 0) hx hb dX10_go_206 (by decide) ?_
    refine tg_put (ci := 10) (ts := ty_MODEL) (v := .long 0) (ty := .long) (C := RX10) (T := TX10) (N := 49) hx hb hts inX10 tyX10 tyX10_ok nmX10 hown hK hw h_p0 rfl rfl 12 (by decide) (hts _ tw_1149) (fun _ h9 => h9) rfl (by decide +kernel) rfl rfl (ft := vJ (-9223372036854775808) 9223372036854775807) rfl ⟨_, rfl, rk_0.to (by decide)⟩ (by decide) dX10_go_207 (fun ws H locs hw n_k_30 hF9 => ?_)
    have m_z0_3 := FLD.over hF9 m_z0_3 (by decide)
    have m_z0_4 := FLD.over hF9 m_z0_4 (by decide)
    have m_z0_5 := FLD.over hF9 m_z0_5 (by decide)
    have m_z0_6 := FLD.over hF9 m_z0_6 (by decide)
    obtain ⟨sg_31, q_sg_31⟩ : ∃ q9 : OS, sL s0 12 (0 : Int64) = q9 := ⟨_, rfl⟩
    have o_p0 : OV vw_MODEL Ps ws p0 sg_31 := by rw [← q_sg_31]; exact OV.putL (V := vw_MODEL) hF9 n_k_30 o_p0 (by decide)
    refine lv_aload_n hx hb dX10_go_210 rfl (lv_at hl 2 rfl) ?_
    refine lv_iconst (v := 0) hx hb dX10_go_211 (by decide) ?_
    refine tg_put (ci := 10) (ts := ty_MODEL) (v := .int 0) (ty := .int) (C := RX10) (T := TX10) (N := 49) hx hb hts inX10 tyX10 tyX10_ok nmX10 hown hK hw h_p0 rfl rfl 8 (by decide) (hts _ tw_1145) (fun _ h9 => h9) rfl (by decide +kernel) rfl rfl (ft := vI (-2147483648) 2147483647) rfl ⟨_, rfl, (rl_0.to (by decide))⟩ (by decide) dX10_go_212 (fun ws H locs hw n_k_32 hF9 => ?_)
    have m_z0_3 := FLD.over hF9 m_z0_3 (by decide)
    have m_z0_4 := FLD.over hF9 m_z0_4 (by decide)
    have m_z0_5 := FLD.over hF9 m_z0_5 (by decide)
    have m_z0_6 := FLD.over hF9 m_z0_6 (by decide)
    obtain ⟨sg_33, q_sg_33⟩ : ∃ q9 : OS, sI sg_31 8 (0 : Int32) = q9 := ⟨_, rfl⟩
    have o_p0 : OV vw_MODEL Ps ws p0 sg_33 := by rw [← q_sg_33]; exact OV.putI (V := vw_MODEL) hF9 n_k_32 o_p0 (by decide)
    simp only [f_X10_go__2_198, ↓reduceIte, q_z0_3, q_z0_4, q_z0_5, q_z0_6, q_v_29, q_sg_31, q_sg_33] at hE
    exact B215 4294967298 x1 v_29 1 z0_3 z0_4 z0_5 z0_6 sg_33 ws _ _ ls (by have q0 := r_z0_5.1; have u0 := r_z0_5.2; omega) r_x1 r_v_29 (rl_1.to (by decide)) r_z0_3 m_z0_3 r_z0_4 m_z0_4 (r_z0_5.to (by decide)) m_z0_5 r_z0_6 m_z0_6 o_p0 hE hw (lv_sub hl [2, 3, 1, 0] rfl)
  have B179 : ∀ (x1 : Int32) (y0 : Int32) (z0_3 : Int32) (z0_4 : Int32) (z0_5 : Int32) (z0_6 : Int32) (s0 : OS) (ws : va_W) (H : Heap) (locs : List Loc) (ls : Array Slot), RI x1 0 255 → RI y0 1 4 → RI z0_3 1 940 → FLD ws p0 10 3 (.int z0_3) → RI z0_4 0 2147483647 → FLD ws p0 10 4 (.int z0_4) → RI z0_5 0 939 → FLD ws p0 10 5 (.int z0_5) → RI z0_6 0 940 → FLD ws p0 10 6 (.int z0_6) → OV vw_MODEL Ps ws p0 s0 → f_X10_go__2_179 x1 y0 s0 = R9 → WD D cy GG A s wr_X10_go__3 wa_X10_go__3 Ps w0 Ps ws H locs → lv_has ls 5 [(0, .ref p0), (1, .int x1)] → W p l e (headSpec (Cond.code yX10_go cX10_go 5 none :: gT) ({ frames := 2, cells := 0, slots := 0, locals := 400 } : Room)).room s m ([.ref p0] : List Value).toArray below meth c H locs 0 0 Q (F0 m 179 ls [.int y0, .ref p0]) := by
    intro x1 y0 z0_3 z0_4 z0_5 z0_6 s0 ws H locs ls r_x1 r_y0 r_z0_3 m_z0_3 r_z0_4 m_z0_4 r_z0_5 m_z0_5 r_z0_6 m_z0_6 o_p0 hE hw hl
    have q_z0_3 : s0.1 3 = z0_3 := OV.eqI (V := vw_MODEL) hw.2.2.1 o_p0 m_z0_3 (by decide)
    have q_z0_4 : s0.1 4 = z0_4 := OV.eqI (V := vw_MODEL) hw.2.2.1 o_p0 m_z0_4 (by decide)
    have q_z0_5 : s0.1 5 = z0_5 := OV.eqI (V := vw_MODEL) hw.2.2.1 o_p0 m_z0_5 (by decide)
    have q_z0_6 : s0.1 6 = z0_6 := OV.eqI (V := vw_MODEL) hw.2.2.1 o_p0 m_z0_6 (by decide)
    refine tg_put (ci := 10) (ts := ty_MODEL) (v := .int y0) (ty := .int) (C := RX10) (T := TX10) (N := 49) hx hb hts inX10 tyX10 tyX10_ok nmX10 hown hK hw h_p0 rfl rfl 7 (by decide) (hts _ tw_1144) (fun _ h9 => h9) rfl (by decide +kernel) rfl rfl (ft := vI (-2147483648) 2147483647) rfl ⟨_, rfl, (r_y0.to (by decide))⟩ (by decide) dX10_go_179 (fun ws H locs hw n_k_34 hF9 => ?_)
    have m_z0_3 := FLD.over hF9 m_z0_3 (by decide)
    have m_z0_4 := FLD.over hF9 m_z0_4 (by decide)
    have m_z0_5 := FLD.over hF9 m_z0_5 (by decide)
    have m_z0_6 := FLD.over hF9 m_z0_6 (by decide)
    obtain ⟨sg_35, q_sg_35⟩ : ∃ q9 : OS, sI s0 7 y0 = q9 := ⟨_, rfl⟩
    have o_p0 : OV vw_MODEL Ps ws p0 sg_35 := by rw [← q_sg_35]; exact OV.putI (V := vw_MODEL) hF9 n_k_34 o_p0 (by decide)
    refine lv_aload_n hx hb dX10_go_182 rfl (lv_at hl 0 rfl) ?_
    refine lv_iload_n hx hb dX10_go_183 rfl (lv_at hl 1 rfl) ?_
    refine tg_put (ci := 10) (ts := ty_MODEL) (v := .int x1) (ty := .int) (C := RX10) (T := TX10) (N := 49) hx hb hts inX10 tyX10 tyX10_ok nmX10 hown hK hw h_p0 rfl rfl 9 (by decide) (hts _ tw_1146) (fun _ h9 => h9) rfl (by decide +kernel) rfl rfl (ft := vI (-2147483648) 2147483647) rfl ⟨_, rfl, (r_x1.to (by decide))⟩ (by decide) dX10_go_184 (fun ws H locs hw n_k_36 hF9 => ?_)
    have m_z0_3 := FLD.over hF9 m_z0_3 (by decide)
    have m_z0_4 := FLD.over hF9 m_z0_4 (by decide)
    have m_z0_5 := FLD.over hF9 m_z0_5 (by decide)
    have m_z0_6 := FLD.over hF9 m_z0_6 (by decide)
    have n_k_34 := FLD.over hF9 n_k_34 (by decide)
    obtain ⟨sg_37, q_sg_37⟩ : ∃ q9 : OS, sI sg_35 9 x1 = q9 := ⟨_, rfl⟩
    have o_p0 : OV vw_MODEL Ps ws p0 sg_37 := by rw [← q_sg_37]; exact OV.putI (V := vw_MODEL) hF9 n_k_36 o_p0 (by decide)
    refine lv_aload_n hx hb dX10_go_187 rfl (lv_at hl 0 rfl) ?_
    refine lv_dup hx hb dX10_go_188 rfl ?_
    refine tg_mem (ci := 10) (C := RX10) (T := TX10) (N := 49) hx hb hts inX10 hown hK hw 5 m_z0_5 rfl (by decide) (hts _ tw_1142) (fun _ h9 => h9) dX10_go_189 ?_
    refine lv_iconst (v := 1) hx hb dX10_go_192 (by decide) ?_
    refine lv_iadd hx hb dX10_go_193 (lv_topi (fun v_38 e_v_38 => ?_))
    obtain ⟨t_v_38, r_v_38⟩ := tq_add (lo := 1) (hi := 940) r_z0_5 rl_1 (by decide +kernel) e_v_38
    have t_v_38 : v_38.toInt = z0_5.toInt + 1 := t_v_38
    have q_v_38 : z0_5 + (1 : Int32) = v_38 := e_v_38.symm
    refine tg_put (ci := 10) (ts := ty_MODEL) (v := .int v_38) (ty := .int) (C := RX10) (T := TX10) (N := 49) hx hb hts inX10 tyX10 tyX10_ok nmX10 hown hK hw h_p0 rfl rfl 5 (by decide) (hts _ tw_1142) (fun _ h9 => h9) rfl (by decide +kernel) rfl rfl (ft := vI 0 940) rfl ⟨_, rfl, (r_v_38.to (by decide))⟩ (by decide) dX10_go_194 (fun ws H locs hw n_k_39 hF9 => ?_)
    have m_z0_3 := FLD.over hF9 m_z0_3 (by decide)
    have m_z0_4 := FLD.over hF9 m_z0_4 (by decide)
    have m_z0_6 := FLD.over hF9 m_z0_6 (by decide)
    have n_k_34 := FLD.over hF9 n_k_34 (by decide)
    have n_k_36 := FLD.over hF9 n_k_36 (by decide)
    obtain ⟨sg_40, q_sg_40⟩ : ∃ q9 : OS, sI sg_37 5 v_38 = q9 := ⟨_, rfl⟩
    have o_p0 : OV vw_MODEL Ps ws p0 sg_40 := by rw [← q_sg_40]; exact OV.putI (V := vw_MODEL) hF9 n_k_39 o_p0 (by decide)
    simp only [f_X10_go__2_179, ↓reduceIte, q_z0_3, q_z0_4, q_z0_5, q_z0_6, q_sg_35, q_sg_37, q_v_38, q_sg_40] at hE
    subst hQ
    exact W.vret hx hb hr (fun t ht hW => ⟨⟨ws, rfl, ⟨⟨⟨(by rw [hR, ← hE]; exact o_p0), trivial⟩, trivial⟩, hw.1, hw.2.2.2.2.1⟩, by rw [ht]; exact hw.2.1, va_K.moved hW.alike hK, hw.2.2.1⟩, hw.2.2.2.1.F ht⟩) hw.2.2.2.1.2.2 dX10_go_197
  have B174 : ∀ (x1 : Int32) (z0_3 : Int32) (z0_4 : Int32) (z0_5 : Int32) (z0_6 : Int32) (s0 : OS) (ws : va_W) (H : Heap) (locs : List Loc) (ls : Array Slot), RI x1 40 62 → RI z0_3 1 940 → FLD ws p0 10 3 (.int z0_3) → RI z0_4 0 2147483647 → FLD ws p0 10 4 (.int z0_4) → RI z0_5 0 939 → FLD ws p0 10 5 (.int z0_5) → RI z0_6 0 940 → FLD ws p0 10 6 (.int z0_6) → OV vw_MODEL Ps ws p0 s0 → f_X10_go__2_174 x1 s0 = R9 → WD D cy GG A s wr_X10_go__3 wa_X10_go__3 Ps w0 Ps ws H locs → lv_has ls 5 [(0, .ref p0), (1, .int x1)] → W p l e (headSpec (Cond.code yX10_go cX10_go 5 none :: gT) ({ frames := 2, cells := 0, slots := 0, locals := 400 } : Room)).room s m ([.ref p0] : List Value).toArray below meth c H locs 0 0 Q (F0 m 174 ls [.ref p0]) := by
    intro x1 z0_3 z0_4 z0_5 z0_6 s0 ws H locs ls r_x1 r_z0_3 m_z0_3 r_z0_4 m_z0_4 r_z0_5 m_z0_5 r_z0_6 m_z0_6 o_p0 hE hw hl
    have q_z0_3 : s0.1 3 = z0_3 := OV.eqI (V := vw_MODEL) hw.2.2.1 o_p0 m_z0_3 (by decide)
    have q_z0_4 : s0.1 4 = z0_4 := OV.eqI (V := vw_MODEL) hw.2.2.1 o_p0 m_z0_4 (by decide)
    have q_z0_5 : s0.1 5 = z0_5 := OV.eqI (V := vw_MODEL) hw.2.2.1 o_p0 m_z0_5 (by decide)
    have q_z0_6 : s0.1 6 = z0_6 := OV.eqI (V := vw_MODEL) hw.2.2.1 o_p0 m_z0_6 (by decide)
    refine lv_iconst (v := 4) hx hb dX10_go_174 (by decide) ?_
    refine lv_goto (tgt := 179) hx hb dX10_go_175 (by decide) ?_
    simp only [f_X10_go__2_174, ↓reduceIte, q_z0_3, q_z0_4, q_z0_5, q_z0_6] at hE
    exact B179 x1 4 z0_3 z0_4 z0_5 z0_6 s0 ws _ _ ls (r_x1.to (by decide)) (rl_4.to (by decide)) r_z0_3 m_z0_3 r_z0_4 m_z0_4 r_z0_5 m_z0_5 r_z0_6 m_z0_6 o_p0 hE hw hl
  have B96 : ∀ (z0_4 : Int32) (z0_5 : Int32) (z0_6 : Int32) (s0 : OS) (ws : va_W) (H : Heap) (locs : List Loc) (ls : Array Slot), RI z0_4 0 2147483647 → FLD ws p0 10 4 (.int z0_4) → RI z0_5 0 940 → FLD ws p0 10 5 (.int z0_5) → RI z0_6 0 940 → FLD ws p0 10 6 (.int z0_6) → OV vw_MODEL Ps ws p0 s0 → f_X10_go__2_96 s0 = R9 → WD D cy GG A s wr_X10_go__3 wa_X10_go__3 Ps w0 Ps ws H locs → lv_has ls 5 [(0, .ref p0)] → W p l e (headSpec (Cond.code yX10_go cX10_go 5 none :: gT) ({ frames := 2, cells := 0, slots := 0, locals := 400 } : Room)).room s m ([.ref p0] : List Value).toArray below meth c H locs 0 0 Q (F0 m 96 ls []) := by
    intro z0_4 z0_5 z0_6 s0 ws H locs ls r_z0_4 m_z0_4 r_z0_5 m_z0_5 r_z0_6 m_z0_6 o_p0 hE hw hl
    have q_z0_4 : s0.1 4 = z0_4 := OV.eqI (V := vw_MODEL) hw.2.2.1 o_p0 m_z0_4 (by decide)
    have q_z0_5 : s0.1 5 = z0_5 := OV.eqI (V := vw_MODEL) hw.2.2.1 o_p0 m_z0_5 (by decide)
    have q_z0_6 : s0.1 6 = z0_6 := OV.eqI (V := vw_MODEL) hw.2.2.1 o_p0 m_z0_6 (by decide)
    refine lv_aload_n hx hb dX10_go_96 rfl (lv_at hl 0 rfl) ?_
    refine tg_mem (ci := 10) (C := RX10) (T := TX10) (N := 49) hx hb hts inX10 hown hK hw 5 m_z0_5 rfl (by decide) (hts _ tw_1142) (fun _ h9 => h9) dX10_go_97 ?_
    refine lv_aload_n hx hb dX10_go_100 rfl (lv_at hl 0 rfl) ?_
    refine tg_get (ci := 10) (ts := ty_MODEL) (C := RX10) (T := TX10) (N := 49) hx hb hts inX10 hown hK hw h_p0 rfl rfl 3 (by decide) (hts _ tw_1140) (fun _ h9 => h9) (ft := vI 0 940) rfl dX10_go_101 (fun u_41 hv_u_41 m_u_41 => ?_)
    obtain ⟨vu_41, rfl, r_vu_41⟩ := hv_u_41
    have q_vu_41 : s0.1 3 = vu_41 := OV.eqI (V := vw_MODEL) hw.2.2.1 o_p0 m_u_41 (by decide)
    refine lv_icmp_lt (tgt := 113) hx hb dX10_go_104 (by decide) (fun c_104 => ?_) (fun c_104 => ?_)
    · have r_z0_5 : RI z0_5 0 939 := rc_lt1 r_z0_5 r_vu_41 (ti_lt c_104) (by decide)
      have r_vu_41 : RI vu_41 1 940 := rc_lt2 r_z0_5 r_vu_41 (ti_lt c_104) (by decide)
      refine lv_aload_n hx hb dX10_go_113 rfl (lv_at hl 0 rfl) ?_
      refine tg_get (ci := 10) (ts := ty_MODEL) (C := RX10) (T := TX10) (N := 49) hx hb hts inX10 hown hK hw h_p0 rfl rfl 1 (by decide) (hts _ tw_1138) (fun _ h9 => h9) (ft := vR 40) rfl dX10_go_114 (fun u_42 hv_u_42 m_u_42 => ?_)
      obtain ⟨vu_42, rfl, h_vu_42⟩ := hv_u_42
      refine lv_aload_n hx hb dX10_go_117 rfl (lv_at hl 0 rfl) ?_
      refine tg_mem (ci := 10) (C := RX10) (T := TX10) (N := 49) hx hb hts inX10 hown hK hw 5 m_z0_5 rfl (by decide) (hts _ tw_1142) (fun _ h9 => h9) dX10_go_118 ?_
      refine tg_iald (lo := 0) (hi := 255) hx hb hK hw h_vu_42 rfl 0 939 r_z0_5 (by decide) (by exact fun _ _ _ => ⟨Int.le_refl _, Int.le_refl _⟩) dX10_go_121 (fun v_43 r_v_43 m_v_43 o_v_43 => ?_)
      have q_v_43 : s0.2.2.1 1 (Int32.toNatClampNeg z0_5) = v_43 := OV.eqA (V := vw_MODEL) (t := 40) hw.2.2.1 o_p0 m_u_42 m_v_43 (by decide)
      refine lv_istore_n (lv' := [(1, .int v_43), (0, .ref p0)]) hx hb dX10_go_122 rfl hl (by decide) rfl (fun ls hl => ?_)
      refine lv_iload_n hx hb dX10_go_123 rfl (lv_at hl 0 rfl) ?_
      refine tk_ir (va_runS (As := [.int v_43]) (rest := []) ⟨hx, hb, hml, hown, hts⟩ (c_X10_isLetter__2 l D cy z H.size Ps ws hw.1 v_43 r_v_43) (va_cwS 1 hts (gS tw_1302 tw_1303 tw_15 tw_1304) rfl rfl rfl (by decide +kernel) ⟨Nat.le_of_ble_eq_true rfl, Nat.le_of_ble_eq_true rfl⟩) (tg_preS hw hK hSD hA) rfl rfl hl.1 rfl (lv_room (Nat.le_of_ble_eq_true rfl)) dX10_go_124 ⟨Nat.le_of_ble_eq_true rfl, Nat.le_of_ble_eq_true rfl⟩) hw hA (fun v_44  H locs hp_v_44 hw => ?_)
      obtain ⟨hfn, hp_v_44⟩ := hp_v_44
      have q_v_44 : (f_X10_isLetter__2 v_43) = v_44 := hfn.1
      have r_v_44 : RI v_44 0 1 := hp_v_44.1
      refine lv_if_ne (tgt := 198) hx hb dX10_go_127 (by decide) (fun c_127 => ?_) (fun c_127 => ?_)
      · have r_v_44 : RI v_44 1 1 := rc_neL r_v_44 rl_0 (ti_ne c_127) (by decide)
        have r_v_43 : RI v_43 97 122 := ((hp_v_44.2.2 c_127).1)
        simp only [f_X10_go__2_96, ↓reduceIte, q_z0_4, q_z0_5, q_z0_6, q_vu_41, eq_true c_104, q_v_43, q_v_44, eq_false c_127] at hE
        exact B198 v_43 vu_41 z0_4 z0_5 z0_6 s0 ws _ _ ls (r_v_43.to (by decide)) r_vu_41 m_u_41 r_z0_4 m_z0_4 r_z0_5 m_z0_5 r_z0_6 m_z0_6 o_p0 hE hw (lv_sub hl [1, 0] rfl)
      · have r_v_44 : RI v_44 0 0 := rc_eq1 r_v_44 rl_0 (ti_eq c_127) (by decide)
        refine lv_iload_n hx hb dX10_go_130 rfl (lv_at hl 0 rfl) ?_
        refine tk_ir (va_runS (As := [.int v_43]) (rest := []) ⟨hx, hb, hml, hown, hts⟩ (c_X10_isDigit__1 l D cy z H.size Ps ws hw.1 v_43 r_v_43) (va_cwS 1 hts (gS tw_1305 tw_1306 tw_15 tw_1307) rfl rfl rfl (by decide +kernel) ⟨Nat.le_of_ble_eq_true rfl, Nat.le_of_ble_eq_true rfl⟩) (tg_preS hw hK hSD hA) rfl rfl hl.1 rfl (lv_room (Nat.le_of_ble_eq_true rfl)) dX10_go_131 ⟨Nat.le_of_ble_eq_true rfl, Nat.le_of_ble_eq_true rfl⟩) hw hA (fun v_45  H locs hp_v_45 hw => ?_)
        obtain ⟨hfn, hp_v_45⟩ := hp_v_45
        have q_v_45 : (f_X10_isDigit__1 v_43) = v_45 := hfn.1
        have r_v_45 : RI v_45 0 1 := hp_v_45.1
        refine lv_if_ne (tgt := 198) hx hb dX10_go_134 (by decide) (fun c_134 => ?_) (fun c_134 => ?_)
        · have r_v_45 : RI v_45 1 1 := rc_neL r_v_45 rl_0 (ti_ne c_134) (by decide)
          have r_v_43 : RI v_43 48 57 := ((hp_v_45.2.2 c_134).1)
          simp only [f_X10_go__2_96, ↓reduceIte, q_z0_4, q_z0_5, q_z0_6, q_vu_41, eq_true c_104, q_v_43, q_v_44, eq_true c_127, q_v_45, eq_false c_134] at hE
          exact B198 v_43 vu_41 z0_4 z0_5 z0_6 s0 ws _ _ ls (r_v_43.to (by decide)) r_vu_41 m_u_41 r_z0_4 m_z0_4 r_z0_5 m_z0_5 r_z0_6 m_z0_6 o_p0 hE hw (lv_sub hl [1, 0] rfl)
        · have r_v_45 : RI v_45 0 0 := rc_eq1 r_v_45 rl_0 (ti_eq c_134) (by decide)
          refine lv_aload_n hx hb dX10_go_137 rfl (lv_at hl 1 rfl) ?_
          refine lv_iload_n hx hb dX10_go_138 rfl (lv_at hl 0 rfl) ?_
          refine lv_bipush (v := 59) hx hb dX10_go_139 (by decide) ?_
          refine lv_icmp_eq (tgt := 174) hx hb dX10_go_141 (by decide) (fun c_141 => ?_) (fun c_141 => ?_)
          · have r_v_43 : RI v_43 59 59 := rc_eq1 r_v_43 rl_59 (ti_eq c_141) (by decide)
            simp only [f_X10_go__2_96, ↓reduceIte, q_z0_4, q_z0_5, q_z0_6, q_vu_41, eq_true c_104, q_v_43, q_v_44, eq_true c_127, q_v_45, eq_true c_134, eq_true c_141] at hE
            exact B174 v_43 vu_41 z0_4 z0_5 z0_6 s0 ws _ _ ls (r_v_43.to (by decide)) r_vu_41 m_u_41 r_z0_4 m_z0_4 r_z0_5 m_z0_5 r_z0_6 m_z0_6 o_p0 hE hw (lv_sub hl [1, 0] rfl)
          · refine lv_iload_n hx hb dX10_go_144 rfl (lv_at hl 0 rfl) ?_
            refine lv_bipush (v := 60) hx hb dX10_go_145 (by decide) ?_
            refine lv_icmp_eq (tgt := 174) hx hb dX10_go_147 (by decide) (fun c_147 => ?_) (fun c_147 => ?_)
            · have r_v_43 : RI v_43 60 60 := rc_eq1 r_v_43 rl_60 (ti_eq c_147) (by decide)
              simp only [f_X10_go__2_96, ↓reduceIte, q_z0_4, q_z0_5, q_z0_6, q_vu_41, eq_true c_104, q_v_43, q_v_44, eq_true c_127, q_v_45, eq_true c_134, eq_false c_141, eq_true c_147] at hE
              exact B174 v_43 vu_41 z0_4 z0_5 z0_6 s0 ws _ _ ls (r_v_43.to (by decide)) r_vu_41 m_u_41 r_z0_4 m_z0_4 r_z0_5 m_z0_5 r_z0_6 m_z0_6 o_p0 hE hw (lv_sub hl [1, 0] rfl)
            · refine lv_iload_n hx hb dX10_go_150 rfl (lv_at hl 0 rfl) ?_
              refine lv_bipush (v := 61) hx hb dX10_go_151 (by decide) ?_
              refine lv_icmp_eq (tgt := 174) hx hb dX10_go_153 (by decide) (fun c_153 => ?_) (fun c_153 => ?_)
              · have r_v_43 : RI v_43 61 61 := rc_eq1 r_v_43 rl_61 (ti_eq c_153) (by decide)
                simp only [f_X10_go__2_96, ↓reduceIte, q_z0_4, q_z0_5, q_z0_6, q_vu_41, eq_true c_104, q_v_43, q_v_44, eq_true c_127, q_v_45, eq_true c_134, eq_false c_141, eq_false c_147, eq_true c_153] at hE
                exact B174 v_43 vu_41 z0_4 z0_5 z0_6 s0 ws _ _ ls (r_v_43.to (by decide)) r_vu_41 m_u_41 r_z0_4 m_z0_4 r_z0_5 m_z0_5 r_z0_6 m_z0_6 o_p0 hE hw (lv_sub hl [1, 0] rfl)
              · refine lv_iload_n hx hb dX10_go_156 rfl (lv_at hl 0 rfl) ?_
                refine lv_bipush (v := 62) hx hb dX10_go_157 (by decide) ?_
                refine lv_icmp_eq (tgt := 174) hx hb dX10_go_159 (by decide) (fun c_159 => ?_) (fun c_159 => ?_)
                · have r_v_43 : RI v_43 62 62 := rc_eq1 r_v_43 rl_62 (ti_eq c_159) (by decide)
                  simp only [f_X10_go__2_96, ↓reduceIte, q_z0_4, q_z0_5, q_z0_6, q_vu_41, eq_true c_104, q_v_43, q_v_44, eq_true c_127, q_v_45, eq_true c_134, eq_false c_141, eq_false c_147, eq_false c_153, eq_true c_159] at hE
                  exact B174 v_43 vu_41 z0_4 z0_5 z0_6 s0 ws _ _ ls (r_v_43.to (by decide)) r_vu_41 m_u_41 r_z0_4 m_z0_4 r_z0_5 m_z0_5 r_z0_6 m_z0_6 o_p0 hE hw (lv_sub hl [1, 0] rfl)
                · refine lv_iload_n hx hb dX10_go_162 rfl (lv_at hl 0 rfl) ?_
                  refine lv_bipush (v := 40) hx hb dX10_go_163 (by decide) ?_
                  refine lv_icmp_eq (tgt := 174) hx hb dX10_go_165 (by decide) (fun c_165 => ?_) (fun c_165 => ?_)
                  · have r_v_43 : RI v_43 40 40 := rc_eq1 r_v_43 rl_40 (ti_eq c_165) (by decide)
                    simp only [f_X10_go__2_96, ↓reduceIte, q_z0_4, q_z0_5, q_z0_6, q_vu_41, eq_true c_104, q_v_43, q_v_44, eq_true c_127, q_v_45, eq_true c_134, eq_false c_141, eq_false c_147, eq_false c_153, eq_false c_159, eq_true c_165] at hE
                    exact B174 v_43 vu_41 z0_4 z0_5 z0_6 s0 ws _ _ ls (r_v_43.to (by decide)) r_vu_41 m_u_41 r_z0_4 m_z0_4 r_z0_5 m_z0_5 r_z0_6 m_z0_6 o_p0 hE hw (lv_sub hl [1, 0] rfl)
                  · refine lv_iload_n hx hb dX10_go_168 rfl (lv_at hl 0 rfl) ?_
                    refine lv_bipush (v := 41) hx hb dX10_go_169 (by decide) ?_
                    refine lv_icmp_ne (tgt := 178) hx hb dX10_go_171 (by decide) (fun c_171 => ?_) (fun c_171 => ?_)
                    · refine lv_iconst (v := 1) hx hb dX10_go_178 (by decide) ?_
                      simp only [f_X10_go__2_96, ↓reduceIte, q_z0_4, q_z0_5, q_z0_6, q_vu_41, eq_true c_104, q_v_43, q_v_44, eq_true c_127, q_v_45, eq_true c_134, eq_false c_141, eq_false c_147, eq_false c_153, eq_false c_159, eq_false c_165, eq_false c_171] at hE
                      exact B179 v_43 1 vu_41 z0_4 z0_5 z0_6 s0 ws _ _ ls r_v_43 (rl_1.to (by decide)) r_vu_41 m_u_41 r_z0_4 m_z0_4 r_z0_5 m_z0_5 r_z0_6 m_z0_6 o_p0 hE hw (lv_sub hl [1, 0] rfl)
                    · have r_v_43 : RI v_43 41 41 := rc_eq1 r_v_43 rl_41 (ti_eq c_171) (by decide)
                      simp only [f_X10_go__2_96, ↓reduceIte, q_z0_4, q_z0_5, q_z0_6, q_vu_41, eq_true c_104, q_v_43, q_v_44, eq_true c_127, q_v_45, eq_true c_134, eq_false c_141, eq_false c_147, eq_false c_153, eq_false c_159, eq_false c_165, eq_true c_171] at hE
                      exact B174 v_43 vu_41 z0_4 z0_5 z0_6 s0 ws _ _ ls (r_v_43.to (by decide)) r_vu_41 m_u_41 r_z0_4 m_z0_4 r_z0_5 m_z0_5 r_z0_6 m_z0_6 o_p0 hE hw (lv_sub hl [1, 0] rfl)
    · refine lv_aload_n hx hb dX10_go_107 rfl (lv_at hl 0 rfl) ?_
      refine lv_iconst (v := 0) hx hb dX10_go_108 (by decide) ?_
      refine tg_put (ci := 10) (ts := ty_MODEL) (v := .int 0) (ty := .int) (C := RX10) (T := TX10) (N := 49) hx hb hts inX10 tyX10 tyX10_ok nmX10 hown hK hw h_p0 rfl rfl 7 (by decide) (hts _ tw_1144) (fun _ h9 => h9) rfl (by decide +kernel) rfl rfl (ft := vI (-2147483648) 2147483647) rfl ⟨_, rfl, (rl_0.to (by decide))⟩ (by decide) dX10_go_109 (fun ws H locs hw n_k_46 hF9 => ?_)
      have m_z0_4 := FLD.over hF9 m_z0_4 (by decide)
      have m_z0_5 := FLD.over hF9 m_z0_5 (by decide)
      have m_z0_6 := FLD.over hF9 m_z0_6 (by decide)
      have m_u_41 := FLD.over hF9 m_u_41 (by decide)
      obtain ⟨sg_47, q_sg_47⟩ : ∃ q9 : OS, sI s0 7 (0 : Int32) = q9 := ⟨_, rfl⟩
      have o_p0 : OV vw_MODEL Ps ws p0 sg_47 := by rw [← q_sg_47]; exact OV.putI (V := vw_MODEL) hF9 n_k_46 o_p0 (by decide)
      simp only [f_X10_go__2_96, ↓reduceIte, q_z0_4, q_z0_5, q_z0_6, q_vu_41, eq_false c_104, q_sg_47] at hE
      subst hQ
      exact W.vret hx hb hr (fun t ht hW => ⟨⟨ws, rfl, ⟨⟨⟨(by rw [hR, ← hE]; exact o_p0), trivial⟩, trivial⟩, hw.1, hw.2.2.2.2.1⟩, by rw [ht]; exact hw.2.1, va_K.moved hW.alike hK, hw.2.2.1⟩, hw.2.2.2.1.F ht⟩) hw.2.2.2.1.2.2 dX10_go_112
  have B52 : ∀ (z0_5 : Int32) (s0 : OS) (ws : va_W) (H : Heap) (locs : List Loc) (ls : Array Slot), RI z0_5 0 940 → FLD ws p0 10 5 (.int z0_5) → OV vw_MODEL Ps ws p0 s0 → f_X10_go__2_52 s0 = R9 → WD D cy GG A s wr_X10_go__3 wa_X10_go__3 Ps w0 Ps ws H locs → lv_has ls 5 [(0, .ref p0)] → W p l e (headSpec (Cond.code yX10_go cX10_go 5 none :: gT) ({ frames := 2, cells := 0, slots := 0, locals := 400 } : Room)).room s m ([.ref p0] : List Value).toArray below meth c H locs 0 0 Q (F0 m 52 ls []) := by
    intro z0_5 s0 ws H locs ls r_z0_5 m_z0_5 o_p0 hE hw hl
    have q_z0_5 : s0.1 5 = z0_5 := OV.eqI (V := vw_MODEL) hw.2.2.1 o_p0 m_z0_5 (by decide)
    refine lv_aload_n hx hb dX10_go_52 rfl (lv_at hl 0 rfl) ?_
    refine lv_aload_n hx hb dX10_go_53 rfl (lv_at hl 0 rfl) ?_
    refine tg_mem (ci := 10) (C := RX10) (T := TX10) (N := 49) hx hb hts inX10 hown hK hw 5 m_z0_5 rfl (by decide) (hts _ tw_1142) (fun _ h9 => h9) dX10_go_54 ?_
    refine tg_put (ci := 10) (ts := ty_MODEL) (v := .int z0_5) (ty := .int) (C := RX10) (T := TX10) (N := 49) hx hb hts inX10 tyX10 tyX10_ok nmX10 hown hK hw h_p0 rfl rfl 6 (by decide) (hts _ tw_1143) (fun _ h9 => h9) rfl (by decide +kernel) rfl rfl (ft := vI (-2147483648) 2147483647) rfl ⟨_, rfl, (r_z0_5.to (by decide))⟩ (by decide) dX10_go_57 (fun ws H locs hw n_k_48 hF9 => ?_)
    have m_z0_5 := FLD.over hF9 m_z0_5 (by decide)
    obtain ⟨sg_49, q_sg_49⟩ : ∃ q9 : OS, sI s0 6 z0_5 = q9 := ⟨_, rfl⟩
    have o_p0 : OV vw_MODEL Ps ws p0 sg_49 := by rw [← q_sg_49]; exact OV.putI (V := vw_MODEL) hF9 n_k_48 o_p0 (by decide)
    refine lv_aload_n hx hb dX10_go_60 rfl (lv_at hl 0 rfl) ?_
    refine tg_get (ci := 10) (ts := ty_MODEL) (C := RX10) (T := TX10) (N := 49) hx hb hts inX10 hown hK hw h_p0 rfl rfl 3 (by decide) (hts _ tw_1140) (fun _ h9 => h9) (ft := vI 0 940) rfl dX10_go_61 (fun u_50 hv_u_50 m_u_50 => ?_)
    obtain ⟨vu_50, rfl, r_vu_50⟩ := hv_u_50
    have q_vu_50 : sg_49.1 3 = vu_50 := OV.eqI (V := vw_MODEL) hw.2.2.1 o_p0 m_u_50 (by decide)
    refine lv_aload_n hx hb dX10_go_64 rfl (lv_at hl 0 rfl) ?_
    refine tg_get (ci := 10) (ts := ty_MODEL) (C := RX10) (T := TX10) (N := 49) hx hb hts inX10 hown hK hw h_p0 rfl rfl 4 (by decide) (hts _ tw_1141) (fun _ h9 => h9) (ft := vI (-2147483648) 2147483647) rfl dX10_go_65 (fun u_51 hv_u_51 m_u_51 => ?_)
    obtain ⟨vu_51, rfl, r_vu_51⟩ := hv_u_51
    have q_vu_51 : sg_49.1 4 = vu_51 := OV.eqI (V := vw_MODEL) hw.2.2.1 o_p0 m_u_51 (by decide)
    refine lv_icmp_le (tgt := 96) hx hb dX10_go_68 (by decide) (fun c_68 => ?_) (fun c_68 => ?_)
    · have r_vu_51 : RI vu_51 0 2147483647 := rc_le2 r_vu_50 r_vu_51 (ti_le c_68) (by decide)
      simp only [f_X10_go__2_52, ↓reduceIte, q_z0_5, q_sg_49, q_vu_50, q_vu_51, eq_true c_68] at hE
      exact B96 vu_51 z0_5 z0_5 sg_49 ws _ _ ls r_vu_51 m_u_51 r_z0_5 m_z0_5 r_z0_5 n_k_48 o_p0 hE hw hl
    · have r_vu_51 : RI vu_51 (-2147483648) 939 := rc_lt1 r_vu_51 r_vu_50 (ti_nle c_68) (by decide)
      refine lv_aload_n hx hb dX10_go_71 rfl (lv_at hl 0 rfl) ?_
      refine tg_mem (ci := 10) (C := RX10) (T := TX10) (N := 49) hx hb hts inX10 hown hK hw 6 n_k_48 rfl (by decide) (hts _ tw_1143) (fun _ h9 => h9) dX10_go_72 ?_
      refine lv_aload_n hx hb dX10_go_75 rfl (lv_at hl 0 rfl) ?_
      refine tg_mem (ci := 10) (C := RX10) (T := TX10) (N := 49) hx hb hts inX10 hown hK hw 4 m_u_51 rfl (by decide) (hts _ tw_1141) (fun _ h9 => h9) dX10_go_76 ?_
      refine lv_icmp_lt (tgt := 96) hx hb dX10_go_79 (by decide) (fun c_79 => ?_) (fun c_79 => ?_)
      · have r_z0_5 : RI z0_5 0 938 := rc_lt1 r_z0_5 r_vu_51 (ti_lt c_79) (by decide)
        have r_vu_51 : RI vu_51 1 939 := rc_lt2 r_z0_5 r_vu_51 (ti_lt c_79) (by decide)
        simp only [f_X10_go__2_52, ↓reduceIte, q_z0_5, q_sg_49, q_vu_50, q_vu_51, eq_false c_68, eq_true c_79] at hE
        exact B96 vu_51 z0_5 z0_5 sg_49 ws _ _ ls (r_vu_51.to (by decide)) m_u_51 (r_z0_5.to (by decide)) m_z0_5 (r_z0_5.to (by decide)) n_k_48 o_p0 hE hw hl
      · refine lv_aload_n hx hb dX10_go_82 rfl (lv_at hl 0 rfl) ?_
        refine lv_aload_n hx hb dX10_go_83 rfl (lv_at hl 0 rfl) ?_
        refine tg_mem (ci := 10) (C := RX10) (T := TX10) (N := 49) hx hb hts inX10 hown hK hw 4 m_u_51 rfl (by decide) (hts _ tw_1141) (fun _ h9 => h9) dX10_go_84 ?_
        refine tg_put (ci := 10) (ts := ty_MODEL) (v := .int vu_51) (ty := .int) (C := RX10) (T := TX10) (N := 49) hx hb hts inX10 tyX10 tyX10_ok nmX10 hown hK hw h_p0 rfl rfl 6 (by decide) (hts _ tw_1143) (fun _ h9 => h9) rfl (by decide +kernel) rfl rfl (ft := vI (-2147483648) 2147483647) rfl ⟨_, rfl, (r_vu_51.to (by decide))⟩ (by decide) dX10_go_87 (fun ws H locs hw n_k_52 hF9 => ?_)
        have m_z0_5 := FLD.over hF9 m_z0_5 (by decide)
        have m_u_50 := FLD.over hF9 m_u_50 (by decide)
        have m_u_51 := FLD.over hF9 m_u_51 (by decide)
        obtain ⟨sg_53, q_sg_53⟩ : ∃ q9 : OS, sI sg_49 6 vu_51 = q9 := ⟨_, rfl⟩
        have o_p0 : OV vw_MODEL Ps ws p0 sg_53 := by rw [← q_sg_53]; exact OV.putI (V := vw_MODEL) hF9 n_k_52 o_p0 (by decide)
        refine lv_aload_n hx hb dX10_go_90 rfl (lv_at hl 0 rfl) ?_
        refine lv_iconst (v := 1) hx hb dX10_go_91 (by decide) ?_
        refine tg_put (ci := 10) (ts := ty_MODEL) (v := .int 1) (ty := .int) (C := RX10) (T := TX10) (N := 49) hx hb hts inX10 tyX10 tyX10_ok nmX10 hown hK hw h_p0 rfl rfl 7 (by decide) (hts _ tw_1144) (fun _ h9 => h9) rfl (by decide +kernel) rfl rfl (ft := vI (-2147483648) 2147483647) rfl ⟨_, rfl, (rl_1.to (by decide))⟩ (by decide) dX10_go_92 (fun ws H locs hw n_k_54 hF9 => ?_)
        have m_z0_5 := FLD.over hF9 m_z0_5 (by decide)
        have m_u_50 := FLD.over hF9 m_u_50 (by decide)
        have m_u_51 := FLD.over hF9 m_u_51 (by decide)
        have n_k_52 := FLD.over hF9 n_k_52 (by decide)
        obtain ⟨sg_55, q_sg_55⟩ : ∃ q9 : OS, sI sg_53 7 (1 : Int32) = q9 := ⟨_, rfl⟩
        have o_p0 : OV vw_MODEL Ps ws p0 sg_55 := by rw [← q_sg_55]; exact OV.putI (V := vw_MODEL) hF9 n_k_54 o_p0 (by decide)
        simp only [f_X10_go__2_52, ↓reduceIte, q_z0_5, q_sg_49, q_vu_50, q_vu_51, eq_false c_68, eq_false c_79, q_sg_53, q_sg_55] at hE
        subst hQ
        exact W.vret hx hb hr (fun t ht hW => ⟨⟨ws, rfl, ⟨⟨⟨(by rw [hR, ← hE]; exact o_p0), trivial⟩, trivial⟩, hw.1, hw.2.2.2.2.1⟩, by rw [ht]; exact hw.2.1, va_K.moved hW.alike hK, hw.2.2.1⟩, hw.2.2.2.1.F ht⟩) hw.2.2.2.1.2.2 dX10_go_95
  have B0 : ∀ (nf : Nat) (z0_5 : Int32) (s0 : OS) (ws : va_W) (H : Heap) (locs : List Loc) (ls : Array Slot), 940 - z0_5.toInt < (nf : Int) → RI z0_5 0 940 → FLD ws p0 10 5 (.int z0_5) → OV vw_MODEL Ps ws p0 s0 → f_X10_go__2_0 nf s0 = R9 → WD D cy GG A s wr_X10_go__3 wa_X10_go__3 Ps w0 Ps ws H locs → lv_has ls 5 [(0, .ref p0)] → W p l e (headSpec (Cond.code yX10_go cX10_go 5 none :: gT) ({ frames := 2, cells := 0, slots := 0, locals := 400 } : Room)).room s m ([.ref p0] : List Value).toArray below meth c H locs 0 0 Q (F0 m 0 ls []) := by
    intro nf0
    induction nf0 with
    | zero =>
      intro z0_5 s0 ws H locs ls hn0 r_z0_5 m_z0_5 o_p0 hE hw hl
      exact absurd hn0 (by have q0 := r_z0_5.1; have u0 := r_z0_5.2; omega)
    | succ nf0 ih0 =>
      have B39 : ∀ (z0_3 : Int32) (z0_5 : Int32) (s0 : OS) (ws : va_W) (H : Heap) (locs : List Loc) (ls : Array Slot), RI z0_3 1 940 → FLD ws p0 10 3 (.int z0_3) → RI z0_5 0 939 → FLD ws p0 10 5 (.int z0_5) → OV vw_MODEL Ps ws p0 s0 → 940 - z0_5.toInt < ((nf0 + 1 : Nat) : Int) → f_X10_go__2_39 (f_X10_go__2_0 nf0) s0 = R9 → WD D cy GG A s wr_X10_go__3 wa_X10_go__3 Ps w0 Ps ws H locs → lv_has ls 5 [(0, .ref p0)] → W p l e (headSpec (Cond.code yX10_go cX10_go 5 none :: gT) ({ frames := 2, cells := 0, slots := 0, locals := 400 } : Room)).room s m ([.ref p0] : List Value).toArray below meth c H locs 0 0 Q (F0 m 39 ls []) := by
        intro z0_3 z0_5 s0 ws H locs ls r_z0_3 m_z0_3 r_z0_5 m_z0_5 o_p0 hn0 hE hw hl
        have q_z0_3 : s0.1 3 = z0_3 := OV.eqI (V := vw_MODEL) hw.2.2.1 o_p0 m_z0_3 (by decide)
        have q_z0_5 : s0.1 5 = z0_5 := OV.eqI (V := vw_MODEL) hw.2.2.1 o_p0 m_z0_5 (by decide)
        refine lv_aload_n hx hb dX10_go_39 rfl (lv_at hl 0 rfl) ?_
        refine lv_dup hx hb dX10_go_40 rfl ?_
        refine tg_mem (ci := 10) (C := RX10) (T := TX10) (N := 49) hx hb hts inX10 hown hK hw 5 m_z0_5 rfl (by decide) (hts _ tw_1142) (fun _ h9 => h9) dX10_go_41 ?_
        refine lv_iconst (v := 1) hx hb dX10_go_44 (by decide) ?_
        refine lv_iadd hx hb dX10_go_45 (lv_topi (fun v_56 e_v_56 => ?_))
        obtain ⟨t_v_56, r_v_56⟩ := tq_add (lo := 1) (hi := 940) r_z0_5 rl_1 (by decide +kernel) e_v_56
        have t_v_56 : v_56.toInt = z0_5.toInt + 1 := t_v_56
        have q_v_56 : z0_5 + (1 : Int32) = v_56 := e_v_56.symm
        refine tg_put (ci := 10) (ts := ty_MODEL) (v := .int v_56) (ty := .int) (C := RX10) (T := TX10) (N := 49) hx hb hts inX10 tyX10 tyX10_ok nmX10 hown hK hw h_p0 rfl rfl 5 (by decide) (hts _ tw_1142) (fun _ h9 => h9) rfl (by decide +kernel) rfl rfl (ft := vI 0 940) rfl ⟨_, rfl, (r_v_56.to (by decide))⟩ (by decide) dX10_go_46 (fun ws H locs hw n_k_57 hF9 => ?_)
        have m_z0_3 := FLD.over hF9 m_z0_3 (by decide)
        obtain ⟨sg_58, q_sg_58⟩ : ∃ q9 : OS, sI s0 5 v_56 = q9 := ⟨_, rfl⟩
        have o_p0 : OV vw_MODEL Ps ws p0 sg_58 := by rw [← q_sg_58]; exact OV.putI (V := vw_MODEL) hF9 n_k_57 o_p0 (by decide)
        refine lv_goto (tgt := 0) hx hb dX10_go_49 (by decide) ?_
        simp only [f_X10_go__2_39, ↓reduceIte, q_z0_3, q_z0_5, q_v_56, q_sg_58] at hE
        exact ih0 v_56 sg_58 ws _ _ ls (by have q0 := r_v_56.1; have u0 := r_v_56.2; have o0 := r_z0_5.1; have p0 := r_z0_5.2; omega) (r_v_56.to (by decide)) n_k_57 o_p0 hE hw hl
      intro z0_5 s0 ws H locs ls hn0 r_z0_5 m_z0_5 o_p0 hE hw hl
      have q_z0_5 : s0.1 5 = z0_5 := OV.eqI (V := vw_MODEL) hw.2.2.1 o_p0 m_z0_5 (by decide)
      refine lv_aload_n hx hb dX10_go_0 rfl (lv_at hl 0 rfl) ?_
      refine tg_mem (ci := 10) (C := RX10) (T := TX10) (N := 49) hx hb hts inX10 hown hK hw 5 m_z0_5 rfl (by decide) (hts _ tw_1142) (fun _ h9 => h9) dX10_go_1 ?_
      refine lv_aload_n hx hb dX10_go_4 rfl (lv_at hl 0 rfl) ?_
      refine tg_get (ci := 10) (ts := ty_MODEL) (C := RX10) (T := TX10) (N := 49) hx hb hts inX10 hown hK hw h_p0 rfl rfl 3 (by decide) (hts _ tw_1140) (fun _ h9 => h9) (ft := vI 0 940) rfl dX10_go_5 (fun u_59 hv_u_59 m_u_59 => ?_)
      obtain ⟨vu_59, rfl, r_vu_59⟩ := hv_u_59
      have q_vu_59 : s0.1 3 = vu_59 := OV.eqI (V := vw_MODEL) hw.2.2.1 o_p0 m_u_59 (by decide)
      refine lv_icmp_ge (tgt := 52) hx hb dX10_go_8 (by decide) (fun c_8 => ?_) (fun c_8 => ?_)
      · simp only [f_X10_go__2_0, ↓reduceIte, q_z0_5, q_vu_59, eq_true c_8] at hE
        exact B52 z0_5 s0 ws _ _ ls r_z0_5 m_z0_5 o_p0 hE hw hl
      · have r_z0_5 : RI z0_5 0 939 := rc_lt1 r_z0_5 r_vu_59 (ti_nle c_8) (by decide)
        have r_vu_59 : RI vu_59 1 940 := rc_lt2 r_z0_5 r_vu_59 (ti_nle c_8) (by decide)
        refine lv_aload_n hx hb dX10_go_11 rfl (lv_at hl 0 rfl) ?_
        refine tg_get (ci := 10) (ts := ty_MODEL) (C := RX10) (T := TX10) (N := 49) hx hb hts inX10 hown hK hw h_p0 rfl rfl 1 (by decide) (hts _ tw_1138) (fun _ h9 => h9) (ft := vR 40) rfl dX10_go_12 (fun u_60 hv_u_60 m_u_60 => ?_)
        obtain ⟨vu_60, rfl, h_vu_60⟩ := hv_u_60
        refine lv_aload_n hx hb dX10_go_15 rfl (lv_at hl 0 rfl) ?_
        refine tg_mem (ci := 10) (C := RX10) (T := TX10) (N := 49) hx hb hts inX10 hown hK hw 5 m_z0_5 rfl (by decide) (hts _ tw_1142) (fun _ h9 => h9) dX10_go_16 ?_
        refine tg_iald (lo := 0) (hi := 255) hx hb hK hw h_vu_60 rfl 0 939 r_z0_5 (by decide) (by exact fun _ _ _ => ⟨Int.le_refl _, Int.le_refl _⟩) dX10_go_19 (fun v_61 r_v_61 m_v_61 o_v_61 => ?_)
        have q_v_61 : s0.2.2.1 1 (Int32.toNatClampNeg z0_5) = v_61 := OV.eqA (V := vw_MODEL) (t := 40) hw.2.2.1 o_p0 m_u_60 m_v_61 (by decide)
        refine lv_bipush (v := 32) hx hb dX10_go_20 (by decide) ?_
        refine lv_icmp_eq (tgt := 39) hx hb dX10_go_22 (by decide) (fun c_22 => ?_) (fun c_22 => ?_)
        · have r_v_61 : RI v_61 32 32 := rc_eq1 r_v_61 rl_32 (ti_eq c_22) (by decide)
          simp only [f_X10_go__2_0, ↓reduceIte, q_z0_5, q_vu_59, eq_false c_8, q_v_61, eq_true c_22] at hE
          exact B39 vu_59 z0_5 s0 ws _ _ ls r_vu_59 m_u_59 r_z0_5 m_z0_5 o_p0 (by have q0 := r_z0_5.1; have u0 := r_z0_5.2; omega) hE hw hl
        · refine lv_aload_n hx hb dX10_go_25 rfl (lv_at hl 0 rfl) ?_
          refine tg_mem (ci := 10) (C := RX10) (T := TX10) (N := 49) hx hb hts inX10 hown hK hw 1 m_u_60 rfl (by decide) (hts _ tw_1138) (fun _ h9 => h9) dX10_go_26 ?_
          refine lv_aload_n hx hb dX10_go_29 rfl (lv_at hl 0 rfl) ?_
          refine tg_mem (ci := 10) (C := RX10) (T := TX10) (N := 49) hx hb hts inX10 hown hK hw 5 m_z0_5 rfl (by decide) (hts _ tw_1142) (fun _ h9 => h9) dX10_go_30 ?_
          refine tg_imem hx hb hK hw h_vu_60 rfl r_z0_5 (by decide) m_v_61 dX10_go_33 ?_
          refine lv_bipush (v := 10) hx hb dX10_go_34 (by decide) ?_
          refine lv_icmp_ne (tgt := 52) hx hb dX10_go_36 (by decide) (fun c_36 => ?_) (fun c_36 => ?_)
          · simp only [f_X10_go__2_0, ↓reduceIte, q_z0_5, q_vu_59, eq_false c_8, q_v_61, eq_false c_22, eq_false c_36] at hE
            exact B52 z0_5 s0 ws _ _ ls (r_z0_5.to (by decide)) m_z0_5 o_p0 hE hw hl
          · have r_v_61 : RI v_61 10 10 := rc_eq1 r_v_61 rl_10 (ti_eq c_36) (by decide)
            simp only [f_X10_go__2_0, ↓reduceIte, q_z0_5, q_vu_59, eq_false c_8, q_v_61, eq_false c_22, eq_true c_36] at hE
            exact B39 vu_59 z0_5 s0 ws _ _ ls r_vu_59 m_u_59 r_z0_5 m_z0_5 o_p0 (by have q0 := r_z0_5.1; have u0 := r_z0_5.2; omega) hE hw hl
  simp only [f_X10_go__2, ↓reduceIte] at hE
  obtain ⟨v_63, m_v_63, r_v_63⟩ := tg_fld (k := 5) (ci := 10) (ts := ty_MODEL) (lo := 0) (hi := 940) hw h_p0 rfl rfl
  exact B0 4294967298 v_63 s0 w0 _ _ ls (by have q0 := r_v_63.1; have u0 := r_v_63.2; omega) r_v_63 m_v_63 o_p0 hE hw hl
abbrev wr_X10_begin__4 : List (Nat × Nat) := [(10, 0), (10, 2), (10, 3), (10, 4), (10, 5), (10, 6), (10, 7), (10, 8), (10, 9), (10, 10), (10, 12)]
abbrev wa_X10_begin__4 : List Nat := []
set_option maxHeartbeats 4000000 in
set_option maxRecDepth 100000 in
theorem c_X10_begin__4 (l : Launch) (D : va_G) (cy : Nat → ClassId) (z : Nat → Nat) (sz : Nat) (Ps : PSI) (w0 : va_W) (hT : HT cy GG Ps w0) (p0 : Nat) (p1 : Int32) (s0 : OS) (h_p0 : (p0, 55) ∈ Ps) (r_p1 : RI p1 900 900) (o_p0 : OV vw_MODEL Ps w0 p0 s0) : Met l yX10_begin (Cond.code yX10_begin cX10_begin 2 none :: gT) ({ frames := 3, cells := 0, slots := 0, locals := 600 } : Room) (va_Pc [.ref p0, .int p1] (PRE D cy z w0 sz)) (va_Qv (fun (u : va_W) => ((OV vw_MODEL Ps u p0 ((f_X10_begin__4 p1 s0)) ∧ True) ∧ ((∃ v9 : Int32, FLD u p0 10 2 (.int v9) ∧ RI v9 0 0) ∧ True)) ∧ HT cy GG Ps u ∧ FR wr_X10_begin__4 wa_X10_begin__4 Ps w0 u) (BB D cy (va_A w0 sz) (fun (u : va_W) => u)) (va_A w0 sz)) 0 0 (va_A w0 sz) := by
  refine Met.ofW (cc := cX10_begin) (maxL := 2) (ret := none) (by decide) rfl ?_
  intro p e s m args below meth c s₁ B hml hv
  obtain ⟨rfl, hsz, hP, hK, hD0, hSD⟩ := hv
  have hx := B.exec
  have hb := B.bytes
  have hr := B.returns
  have hlocks := B.notSynchronized
  have hts : ∀ w ∈ gT, w.before _ s = true := fun w h => atoms_spec (ws := Cond.code yX10_begin cX10_begin 2 none :: gT) B.pre w (List.mem_cons_of_mem _ h)
  have hown : s.vm.findClass RX10 = some m.cls := findClass_of_methodNamed B.named
  subst hsz
  have hD := hD0.self (sz := s.heap.size)
  generalize hAe : va_A w0 s.heap.size = A at hD hSD ⊢
  have hA : ∀ q : Nat, s.heap.size ≤ q → A q := fun q h => by rw [← hAe]; exact Or.inr h
  have hl := lv_entry ([.ref p0, .int p1]) (n := 2) (Nat.le_of_ble_eq_true rfl)
  rw [lg_entry_eq]
  generalize (lg_sl ([.ref p0, .int p1]) ++ List.replicate (2 - (lg_sl ([.ref p0, .int p1])).length) Slot.unset).toArray = ls at hl ⊢
  have hl : lv_has ls 2 [(0, .ref p0), (1, .int p1)] := hl
  refine nameQ (fun Q hQ => ?_)
  have hw : WD D cy GG A s wr_X10_begin__4 wa_X10_begin__4 Ps w0 Ps w0 s.heap [] := ⟨hT, hP, hD, va_S.rf, FR.rf, hT.1, [], (List.append_nil _).symm⟩
  obtain ⟨R9, hR⟩ : ∃ q9 : OS, f_X10_begin__4 p1 s0 = q9 := ⟨_, rfl⟩
  have hE := hR
  refine lv_aload_n hx hb dX10_begin_0 rfl (lv_at hl 0 rfl) ?_
  refine lv_iconst (v := 0) hx hb dX10_begin_1 (by decide) ?_
  refine tg_put (ci := 10) (ts := ty_MODEL) (v := .int 0) (ty := .int) (C := RX10) (T := TX10) (N := 49) hx hb hts inX10 tyX10 tyX10_ok nmX10 hown hK hw h_p0 rfl rfl 0 (by decide) (hts _ tw_1137) (fun _ h9 => h9) rfl (by decide +kernel) rfl rfl (ft := vI (-2147483648) 2147483647) rfl ⟨_, rfl, (rl_0.to (by decide))⟩ (by decide) dX10_begin_2 (fun ws H locs hw n_k_1 hF9 => ?_)
  obtain ⟨sg_2, q_sg_2⟩ : ∃ q9 : OS, sI s0 0 (0 : Int32) = q9 := ⟨_, rfl⟩
  have o_p0 : OV vw_MODEL Ps ws p0 sg_2 := by rw [← q_sg_2]; exact OV.putI (V := vw_MODEL) hF9 n_k_1 o_p0 (by decide)
  refine lv_aload_n hx hb dX10_begin_5 rfl (lv_at hl 0 rfl) ?_
  refine lv_aload_n hx hb dX10_begin_6 rfl (lv_at hl 0 rfl) ?_
  refine tk_i (va_runV (As := []) (rest := [.ref p0]) ⟨hx, hb, hml, hown, hts⟩ (c_X10_take__1 l D cy z H.size Ps ws hw.1 p0 sg_2 h_p0 o_p0) (cwV 0 hts (gV tw_1294 tw_1296 ts_39 tw_15 tw_1297) rfl rfl rfl (by decide +kernel) ⟨Nat.le_of_ble_eq_true rfl, Nat.le_of_ble_eq_true rfl⟩) (tg_preV hw hK hSD hA (ci := 10) (q := (RX10, TX10, 49)) rfl h_p0 rfl) rfl rfl hl.1 rfl (lv_room (Nat.le_of_ble_eq_true rfl)) dX10_begin_7 ⟨Nat.le_of_ble_eq_true rfl, Nat.le_of_ble_eq_true rfl⟩) hw hA ⟨by decide, by decide⟩ (fun v_3 ws H locs hp_v_3 hw hF9 => ?_)
  have n_k_1 := FLD.over hF9 n_k_1 (by decide)
  obtain ⟨hfn, hp_v_3⟩ := hp_v_3
  obtain ⟨sg_4, q_sg_4⟩ : ∃ q9 : OS, (f_X10_take__1 sg_2).1 = q9 := ⟨_, rfl⟩
  have o_p0 : OV vw_MODEL Ps ws p0 sg_4 := by rw [← q_sg_4]; exact hfn.1
  have q_v_3 : (f_X10_take__1 sg_2).2 = v_3 := hfn.2.1
  have r_v_3 : RI v_3 0 940 := hp_v_3.1
  by_cases c9_v_3 : v_3 = 0
  · have r_v_3 : RI v_3 0 0 := by rw [c9_v_3]; exact rl_0
    obtain ⟨v_5, m_v_5, r_v_5⟩ := ((hp_v_3.2.1 c9_v_3).1)
    refine tg_put (ci := 10) (ts := ty_MODEL) (v := .int v_3) (ty := .int) (C := RX10) (T := TX10) (N := 49) hx hb hts inX10 tyX10 tyX10_ok nmX10 hown hK hw h_p0 rfl rfl 3 (by decide) (hts _ tw_1140) (fun _ h9 => h9) rfl (by decide +kernel) rfl rfl (ft := vI 0 940) rfl ⟨_, rfl, (r_v_3.to (by decide))⟩ (by decide) dX10_begin_10 (fun ws H locs hw n_k_6 hF9 => ?_)
    have n_k_1 := FLD.over hF9 n_k_1 (by decide)
    have m_v_5 := FLD.over hF9 m_v_5 (by decide)
    obtain ⟨sg_7, q_sg_7⟩ : ∃ q9 : OS, sI sg_4 3 v_3 = q9 := ⟨_, rfl⟩
    have o_p0 : OV vw_MODEL Ps ws p0 sg_7 := by rw [← q_sg_7]; exact OV.putI (V := vw_MODEL) hF9 n_k_6 o_p0 (by decide)
    refine lv_aload_n hx hb dX10_begin_13 rfl (lv_at hl 0 rfl) ?_
    refine lv_iload_n hx hb dX10_begin_14 rfl (lv_at hl 1 rfl) ?_
    refine tg_put (ci := 10) (ts := ty_MODEL) (v := .int p1) (ty := .int) (C := RX10) (T := TX10) (N := 49) hx hb hts inX10 tyX10 tyX10_ok nmX10 hown hK hw h_p0 rfl rfl 4 (by decide) (hts _ tw_1141) (fun _ h9 => h9) rfl (by decide +kernel) rfl rfl (ft := vI (-2147483648) 2147483647) rfl ⟨_, rfl, (r_p1.to (by decide))⟩ (by decide) dX10_begin_15 (fun ws H locs hw n_k_8 hF9 => ?_)
    have n_k_1 := FLD.over hF9 n_k_1 (by decide)
    have m_v_5 := FLD.over hF9 m_v_5 (by decide)
    have n_k_6 := FLD.over hF9 n_k_6 (by decide)
    obtain ⟨sg_9, q_sg_9⟩ : ∃ q9 : OS, sI sg_7 4 p1 = q9 := ⟨_, rfl⟩
    have o_p0 : OV vw_MODEL Ps ws p0 sg_9 := by rw [← q_sg_9]; exact OV.putI (V := vw_MODEL) hF9 n_k_8 o_p0 (by decide)
    refine lv_aload_n hx hb dX10_begin_18 rfl (lv_at hl 0 rfl) ?_
    refine lv_iconst (v := 0) hx hb dX10_begin_19 (by decide) ?_
    refine tg_put (ci := 10) (ts := ty_MODEL) (v := .int 0) (ty := .int) (C := RX10) (T := TX10) (N := 49) hx hb hts inX10 tyX10 tyX10_ok nmX10 hown hK hw h_p0 rfl rfl 10 (by decide) (hts _ tw_1147) (fun _ h9 => h9) rfl (by decide +kernel) rfl rfl (ft := vI (-2147483648) 2147483647) rfl ⟨_, rfl, (rl_0.to (by decide))⟩ (by decide) dX10_begin_20 (fun ws H locs hw n_k_10 hF9 => ?_)
    have n_k_1 := FLD.over hF9 n_k_1 (by decide)
    have m_v_5 := FLD.over hF9 m_v_5 (by decide)
    have n_k_6 := FLD.over hF9 n_k_6 (by decide)
    have n_k_8 := FLD.over hF9 n_k_8 (by decide)
    obtain ⟨sg_11, q_sg_11⟩ : ∃ q9 : OS, sI sg_9 10 (0 : Int32) = q9 := ⟨_, rfl⟩
    have o_p0 : OV vw_MODEL Ps ws p0 sg_11 := by rw [← q_sg_11]; exact OV.putI (V := vw_MODEL) hF9 n_k_10 o_p0 (by decide)
    refine lv_aload_n hx hb dX10_begin_23 rfl (lv_at hl 0 rfl) ?_
    refine lv_iconst (v := 0) hx hb dX10_begin_24 (by decide) ?_
    refine tg_put (ci := 10) (ts := ty_MODEL) (v := .int 0) (ty := .int) (C := RX10) (T := TX10) (N := 49) hx hb hts inX10 tyX10 tyX10_ok nmX10 hown hK hw h_p0 rfl rfl 5 (by decide) (hts _ tw_1142) (fun _ h9 => h9) rfl (by decide +kernel) rfl rfl (ft := vI 0 940) rfl ⟨_, rfl, (rl_0.to (by decide))⟩ (by decide) dX10_begin_25 (fun ws H locs hw n_k_12 hF9 => ?_)
    have n_k_1 := FLD.over hF9 n_k_1 (by decide)
    have m_v_5 := FLD.over hF9 m_v_5 (by decide)
    have n_k_6 := FLD.over hF9 n_k_6 (by decide)
    have n_k_8 := FLD.over hF9 n_k_8 (by decide)
    have n_k_10 := FLD.over hF9 n_k_10 (by decide)
    obtain ⟨sg_13, q_sg_13⟩ : ∃ q9 : OS, sI sg_11 5 (0 : Int32) = q9 := ⟨_, rfl⟩
    have o_p0 : OV vw_MODEL Ps ws p0 sg_13 := by rw [← q_sg_13]; exact OV.putI (V := vw_MODEL) hF9 n_k_12 o_p0 (by decide)
    refine lv_aload_n hx hb dX10_begin_28 rfl (lv_at hl 0 rfl) ?_
    refine tk_v (va_runV (As := []) (rest := []) ⟨hx, hb, hml, hown, hts⟩ (c_X10_go__3 l D cy z H.size Ps ws hw.1 p0 sg_13 h_p0 o_p0) (cwV 0 hts (gV tw_1298 tw_1300 ts_40 tw_15 tw_1301) rfl rfl rfl (by decide +kernel) ⟨Nat.le_of_ble_eq_true rfl, Nat.le_of_ble_eq_true rfl⟩) (tg_preV hw hK hSD hA (ci := 10) (q := (RX10, TX10, 49)) rfl h_p0 rfl) rfl rfl hl.1 rfl (lv_room (Nat.le_of_ble_eq_true rfl)) dX10_begin_29 ⟨Nat.le_of_ble_eq_true rfl, Nat.le_of_ble_eq_true rfl⟩) hw hA ⟨by decide, by decide⟩ (fun ws H locs hp_v_14 hw hF9 => ?_)
    have n_k_1 := FLD.over hF9 n_k_1 (by decide)
    have m_v_5 := FLD.over hF9 m_v_5 (by decide)
    have n_k_6 := FLD.over hF9 n_k_6 (by decide)
    have n_k_8 := FLD.over hF9 n_k_8 (by decide)
    have n_k_10 := FLD.over hF9 n_k_10 (by decide)
    obtain ⟨hfn, hp_v_14⟩ := hp_v_14
    obtain ⟨sg_15, q_sg_15⟩ : ∃ q9 : OS, (f_X10_go__2 sg_13) = q9 := ⟨_, rfl⟩
    have o_p0 : OV vw_MODEL Ps ws p0 sg_15 := by rw [← q_sg_15]; exact hfn.1
    simp only [f_X10_begin__4, ↓reduceIte, q_sg_2, q_sg_4, q_v_3, eq_true c9_v_3, q_sg_7, q_sg_9, q_sg_11, q_sg_13, q_sg_15] at hE
    subst hQ
    exact W.vret hx hb hr (fun t ht hW => ⟨⟨ws, rfl, ⟨⟨⟨(by rw [hR, ← hE]; exact o_p0), trivial⟩, ⟨⟨_, m_v_5, r_v_5⟩, trivial⟩⟩, hw.1, hw.2.2.2.2.1⟩, by rw [ht]; exact hw.2.1, va_K.moved hW.alike hK, hw.2.2.1⟩, hw.2.2.2.1.F ht⟩) hw.2.2.2.1.2.2 dX10_begin_32
  · have r_v_3 : RI v_3 1 940 := rc_neL r_v_3 rl_0 (ti_ne c9_v_3) (by decide)
    obtain ⟨v_16, m_v_16, r_v_16⟩ := ((hp_v_3.2.2 c9_v_3).1)
    refine tg_put (ci := 10) (ts := ty_MODEL) (v := .int v_3) (ty := .int) (C := RX10) (T := TX10) (N := 49) hx hb hts inX10 tyX10 tyX10_ok nmX10 hown hK hw h_p0 rfl rfl 3 (by decide) (hts _ tw_1140) (fun _ h9 => h9) rfl (by decide +kernel) rfl rfl (ft := vI 0 940) rfl ⟨_, rfl, (r_v_3.to (by decide))⟩ (by decide) dX10_begin_10 (fun ws H locs hw n_k_17 hF9 => ?_)
    have n_k_1 := FLD.over hF9 n_k_1 (by decide)
    have m_v_16 := FLD.over hF9 m_v_16 (by decide)
    obtain ⟨sg_18, q_sg_18⟩ : ∃ q9 : OS, sI sg_4 3 v_3 = q9 := ⟨_, rfl⟩
    have o_p0 : OV vw_MODEL Ps ws p0 sg_18 := by rw [← q_sg_18]; exact OV.putI (V := vw_MODEL) hF9 n_k_17 o_p0 (by decide)
    refine lv_aload_n hx hb dX10_begin_13 rfl (lv_at hl 0 rfl) ?_
    refine lv_iload_n hx hb dX10_begin_14 rfl (lv_at hl 1 rfl) ?_
    refine tg_put (ci := 10) (ts := ty_MODEL) (v := .int p1) (ty := .int) (C := RX10) (T := TX10) (N := 49) hx hb hts inX10 tyX10 tyX10_ok nmX10 hown hK hw h_p0 rfl rfl 4 (by decide) (hts _ tw_1141) (fun _ h9 => h9) rfl (by decide +kernel) rfl rfl (ft := vI (-2147483648) 2147483647) rfl ⟨_, rfl, (r_p1.to (by decide))⟩ (by decide) dX10_begin_15 (fun ws H locs hw n_k_19 hF9 => ?_)
    have n_k_1 := FLD.over hF9 n_k_1 (by decide)
    have m_v_16 := FLD.over hF9 m_v_16 (by decide)
    have n_k_17 := FLD.over hF9 n_k_17 (by decide)
    obtain ⟨sg_20, q_sg_20⟩ : ∃ q9 : OS, sI sg_18 4 p1 = q9 := ⟨_, rfl⟩
    have o_p0 : OV vw_MODEL Ps ws p0 sg_20 := by rw [← q_sg_20]; exact OV.putI (V := vw_MODEL) hF9 n_k_19 o_p0 (by decide)
    refine lv_aload_n hx hb dX10_begin_18 rfl (lv_at hl 0 rfl) ?_
    refine lv_iconst (v := 0) hx hb dX10_begin_19 (by decide) ?_
    refine tg_put (ci := 10) (ts := ty_MODEL) (v := .int 0) (ty := .int) (C := RX10) (T := TX10) (N := 49) hx hb hts inX10 tyX10 tyX10_ok nmX10 hown hK hw h_p0 rfl rfl 10 (by decide) (hts _ tw_1147) (fun _ h9 => h9) rfl (by decide +kernel) rfl rfl (ft := vI (-2147483648) 2147483647) rfl ⟨_, rfl, (rl_0.to (by decide))⟩ (by decide) dX10_begin_20 (fun ws H locs hw n_k_21 hF9 => ?_)
    have n_k_1 := FLD.over hF9 n_k_1 (by decide)
    have m_v_16 := FLD.over hF9 m_v_16 (by decide)
    have n_k_17 := FLD.over hF9 n_k_17 (by decide)
    have n_k_19 := FLD.over hF9 n_k_19 (by decide)
    obtain ⟨sg_22, q_sg_22⟩ : ∃ q9 : OS, sI sg_20 10 (0 : Int32) = q9 := ⟨_, rfl⟩
    have o_p0 : OV vw_MODEL Ps ws p0 sg_22 := by rw [← q_sg_22]; exact OV.putI (V := vw_MODEL) hF9 n_k_21 o_p0 (by decide)
    refine lv_aload_n hx hb dX10_begin_23 rfl (lv_at hl 0 rfl) ?_
    refine lv_iconst (v := 0) hx hb dX10_begin_24 (by decide) ?_
    refine tg_put (ci := 10) (ts := ty_MODEL) (v := .int 0) (ty := .int) (C := RX10) (T := TX10) (N := 49) hx hb hts inX10 tyX10 tyX10_ok nmX10 hown hK hw h_p0 rfl rfl 5 (by decide) (hts _ tw_1142) (fun _ h9 => h9) rfl (by decide +kernel) rfl rfl (ft := vI 0 940) rfl ⟨_, rfl, (rl_0.to (by decide))⟩ (by decide) dX10_begin_25 (fun ws H locs hw n_k_23 hF9 => ?_)
    have n_k_1 := FLD.over hF9 n_k_1 (by decide)
    have m_v_16 := FLD.over hF9 m_v_16 (by decide)
    have n_k_17 := FLD.over hF9 n_k_17 (by decide)
    have n_k_19 := FLD.over hF9 n_k_19 (by decide)
    have n_k_21 := FLD.over hF9 n_k_21 (by decide)
    obtain ⟨sg_24, q_sg_24⟩ : ∃ q9 : OS, sI sg_22 5 (0 : Int32) = q9 := ⟨_, rfl⟩
    have o_p0 : OV vw_MODEL Ps ws p0 sg_24 := by rw [← q_sg_24]; exact OV.putI (V := vw_MODEL) hF9 n_k_23 o_p0 (by decide)
    refine lv_aload_n hx hb dX10_begin_28 rfl (lv_at hl 0 rfl) ?_
    refine tk_v (va_runV (As := []) (rest := []) ⟨hx, hb, hml, hown, hts⟩ (c_X10_go__3 l D cy z H.size Ps ws hw.1 p0 sg_24 h_p0 o_p0) (cwV 0 hts (gV tw_1298 tw_1300 ts_40 tw_15 tw_1301) rfl rfl rfl (by decide +kernel) ⟨Nat.le_of_ble_eq_true rfl, Nat.le_of_ble_eq_true rfl⟩) (tg_preV hw hK hSD hA (ci := 10) (q := (RX10, TX10, 49)) rfl h_p0 rfl) rfl rfl hl.1 rfl (lv_room (Nat.le_of_ble_eq_true rfl)) dX10_begin_29 ⟨Nat.le_of_ble_eq_true rfl, Nat.le_of_ble_eq_true rfl⟩) hw hA ⟨by decide, by decide⟩ (fun ws H locs hp_v_25 hw hF9 => ?_)
    have n_k_1 := FLD.over hF9 n_k_1 (by decide)
    have m_v_16 := FLD.over hF9 m_v_16 (by decide)
    have n_k_17 := FLD.over hF9 n_k_17 (by decide)
    have n_k_19 := FLD.over hF9 n_k_19 (by decide)
    have n_k_21 := FLD.over hF9 n_k_21 (by decide)
    obtain ⟨hfn, hp_v_25⟩ := hp_v_25
    obtain ⟨sg_26, q_sg_26⟩ : ∃ q9 : OS, (f_X10_go__2 sg_24) = q9 := ⟨_, rfl⟩
    have o_p0 : OV vw_MODEL Ps ws p0 sg_26 := by rw [← q_sg_26]; exact hfn.1
    simp only [f_X10_begin__4, ↓reduceIte, q_sg_2, q_sg_4, q_v_3, eq_false c9_v_3, q_sg_18, q_sg_20, q_sg_22, q_sg_24, q_sg_26] at hE
    subst hQ
    exact W.vret hx hb hr (fun t ht hW => ⟨⟨ws, rfl, ⟨⟨⟨(by rw [hR, ← hE]; exact o_p0), trivial⟩, ⟨⟨_, m_v_16, r_v_16⟩, trivial⟩⟩, hw.1, hw.2.2.2.2.1⟩, by rw [ht]; exact hw.2.1, va_K.moved hW.alike hK, hw.2.2.1⟩, hw.2.2.2.1.F ht⟩) hw.2.2.2.1.2.2 dX10_begin_32
