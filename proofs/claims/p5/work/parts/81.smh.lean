abbrev wr_X10_readAnd__11 : List (Nat × Nat) := [(10, 5), (10, 6), (10, 7), (10, 8), (10, 9), (10, 10), (10, 11), (10, 12), (10, 13), (10, 45), (10, 46), (10, 47), (10, 48)]
abbrev wa_X10_readAnd__11 : List Nat := [54]
set_option maxHeartbeats 4000000 in
set_option maxRecDepth 100000 in
theorem c_X10_readAnd__11 (l : Launch) (D : va_G) (cy : Nat → ClassId) (z : Nat → Nat) (sz : Nat) (Ps : PSI) (w0 : va_W) (hT : HT cy GG Ps w0) (p0 : Nat) (f0_47 : Int32) (gd : Int) (gh : Int) (gg : Int) (s0 : OS) (h_p0 : (p0, 55) ∈ Ps) (r_f0_47 : RI f0_47 2 2) (m_f0_47 : FLD w0 p0 10 47 (.int f0_47)) (x_SN_p0_gd_gh_gg : SNp w0 p0 (gd) (gh) (gg)) (o_p0 : OV vw_M2 Ps w0 p0 s0) : Met l yX10_readAnd (Cond.code yX10_readAnd cX10_readAnd 2 (some .boolean) :: gT) ({ frames := 29, cells := 0, slots := 0, locals := 5800 } : Room) (va_Pc [.ref p0] (PRE D cy z w0 sz)) (va_Qi (fun (r : Int32) (u : va_W) => ((OV vw_M2 Ps u p0 ((f_X10_readAnd__11 s0).1) ∧ (f_X10_readAnd__11 s0).2 = r ∧ True) ∧ (RI r 0 1 ∧ (r = 0 → (∃ v9 : Int32, FLD u p0 10 47 (.int v9) ∧ RI v9 2 2) ∧ True) ∧ (¬ r = 0 → (∃ v9 : Int32, FLD u p0 10 46 (.int v9) ∧ RI v9 1 20) ∧ (∃ v9 : Int32, FLD u p0 10 47 (.int v9) ∧ RI v9 2 2) ∧ (∃ v9 : Int32, FLD u p0 10 48 (.int v9) ∧ RI v9 0 39) ∧ SNT u p0 (gd+1) (gh+1) (gg) ∧ True))) ∧ HT cy GG Ps u ∧ FR wr_X10_readAnd__11 wa_X10_readAnd__11 Ps w0 u) (BB D cy (va_A w0 sz) (fun (u : va_W) => u)) (va_A w0 sz)) 0 0 (va_A w0 sz) := by
  refine Met.ofW (cc := cX10_readAnd) (maxL := 2) (ret := (some .boolean)) (by decide) rfl ?_
  intro p e s m args below meth c s₁ B hml hv
  obtain ⟨rfl, hsz, hP, hK, hD0, hSD⟩ := hv
  have hx := B.exec
  have hb := B.bytes
  have hr := B.returns
  have hlocks := B.notSynchronized
  have hts : ∀ w ∈ gT, w.before _ s = true := fun w h => atoms_spec (ws := Cond.code yX10_readAnd cX10_readAnd 2 (some .boolean) :: gT) B.pre w (List.mem_cons_of_mem _ h)
  have hown : s.vm.findClass RX10 = some m.cls := findClass_of_methodNamed B.named
  subst hsz
  have hD := hD0.self (sz := s.heap.size)
  generalize hAe : va_A w0 s.heap.size = A at hD hSD ⊢
  have hA : ∀ q : Nat, s.heap.size ≤ q → A q := fun q h => by rw [← hAe]; exact Or.inr h
  have hl := lv_entry ([.ref p0]) (n := 2) (Nat.le_of_ble_eq_true rfl)
  rw [lg_entry_eq]
  generalize (lg_sl ([.ref p0]) ++ List.replicate (2 - (lg_sl ([.ref p0])).length) Slot.unset).toArray = ls at hl ⊢
  have hl : lv_has ls 2 [(0, .ref p0)] := hl
  refine nameQ (fun Q hQ => ?_)
  have hw : WD D cy GG A s wr_X10_readAnd__11 wa_X10_readAnd__11 Ps w0 Ps w0 s.heap [] := ⟨hT, hP, hD, va_S.rf, FR.rf, hT.1, [], (List.append_nil _).symm⟩
  obtain ⟨R9, hR⟩ : ∃ q9 : OS × Int32, f_X10_readAnd__11 s0 = q9 := ⟨_, rfl⟩
  have hE := hR
  have B14 : ∀ (nf : Nat) (x1 : Int32) (z0_46 : Int32) (z0_47 : Int32) (z0_48 : Int32) (gz : Int) (s0 : OS) (ws : va_W) (H : Heap) (locs : List Loc) (ls : Array Slot), 21 - gz < (nf : Int) → RI x1 0 39 → RI z0_46 1 20 → FLD ws p0 10 46 (.int z0_46) → RI z0_47 2 2 → FLD ws p0 10 47 (.int z0_47) → RI z0_48 0 39 → FLD ws p0 10 48 (.int z0_48) → (SNL ws p0 (gd+1) (gz) (gg) x1 ∧ gh + 1 ≤ gz) → OV vw_M2 Ps ws p0 s0 → f_X10_readAnd__11_14 nf x1 s0 = R9 → WD D cy GG A s wr_X10_readAnd__11 wa_X10_readAnd__11 Ps w0 Ps ws H locs → lv_has ls 2 [(0, .ref p0), (1, .int x1)] → W p l e (headSpec (Cond.code yX10_readAnd cX10_readAnd 2 (some .boolean) :: gT) ({ frames := 29, cells := 0, slots := 0, locals := 5800 } : Room)).room s m ([.ref p0] : List Value).toArray below meth c H locs 0 0 Q (F0 m 14 ls []) := by
    intro nf14
    induction nf14 with
    | zero =>
      intro x1 z0_46 z0_47 z0_48 gz s0 ws H locs ls hn14 r_x1 r_z0_46 m_z0_46 r_z0_47 m_z0_47 r_z0_48 m_z0_48 x_SNW_p0_gd_1_gz_gg__1 o_p0 hE hw hl
      exact absurd hn14 (by have q9 := SNL.le x_SNW_p0_gd_1_gz_gg__1.1; omega)
    | succ nf14 ih14 =>
      intro x1 z0_46 z0_47 z0_48 gz s0 ws H locs ls hn14 r_x1 r_z0_46 m_z0_46 r_z0_47 m_z0_47 r_z0_48 m_z0_48 x_SNW_p0_gd_1_gz_gg__1 o_p0 hE hw hl
      have q_z0_46 : s0.1 46 = z0_46 := OV.eqI (V := vw_M2) hw.2.2.1 o_p0 m_z0_46 (by decide)
      have q_z0_47 : s0.1 47 = z0_47 := OV.eqI (V := vw_M2) hw.2.2.1 o_p0 m_z0_47 (by decide)
      have q_z0_48 : s0.1 48 = z0_48 := OV.eqI (V := vw_M2) hw.2.2.1 o_p0 m_z0_48 (by decide)
      refine lv_aload_n hx hb dX10_readAnd_14 rfl (lv_at hl 0 rfl) ?_
      refine lv_bipush (v := 17) hx hb dX10_readAnd_15 (by decide) ?_
      refine tk_ir (va_runV (As := [.int 17]) (rest := []) ⟨hx, hb, hml, hown, hts⟩ (c_X10_isWord__5 l D cy z H.size Ps ws hw.1 p0 17 s0 h_p0 (rl_17.to (by decide)) o_p0) (cwV 1 hts (gV tw_1318 tw_1320 ts_43 tw_15 tw_1321) rfl rfl rfl (by decide +kernel) ⟨Nat.le_of_ble_eq_true rfl, Nat.le_of_ble_eq_true rfl⟩) (tg_preV hw hK hSD hA (ci := 10) (q := (RX10, TX10, 49)) rfl h_p0 rfl) rfl rfl hl.1 rfl (lv_room (Nat.le_of_ble_eq_true rfl)) dX10_readAnd_17 ⟨Nat.le_of_ble_eq_true rfl, Nat.le_of_ble_eq_true rfl⟩) hw hA (fun v_1  H locs hp_v_1 hw => ?_)
      obtain ⟨hfn, hp_v_1⟩ := hp_v_1
      have q_v_1 : (f_X10_isWord__4 (17 : Int32) s0) = v_1 := hfn.1
      have r_v_1 : RI v_1 0 1 := hp_v_1.1
      refine lv_if_eq (tgt := 51) hx hb dX10_readAnd_20 (by decide) (fun c_20 => ?_) (fun c_20 => ?_)
      · have r_v_1 : RI v_1 0 0 := rc_eq1 r_v_1 rl_0 (ti_eq c_20) (by decide)
        refine lv_aload_n hx hb dX10_readAnd_51 rfl (lv_at hl 0 rfl) ?_
        refine lv_iload_n hx hb dX10_readAnd_52 rfl (lv_at hl 1 rfl) ?_
        refine tg_put (ci := 10) (ts := ty_MODEL) (v := .int x1) (ty := .int) (C := RX10) (T := TX10) (N := 49) hx hb hts inX10 tyX10 tyX10_ok nmX10 hown hK hw h_p0 rfl rfl 48 (by decide) (hts _ tw_1185) (fun _ h9 => h9) rfl (by decide +kernel) rfl rfl (ft := vI (-2147483648) 2147483647) rfl ⟨_, rfl, (r_x1.to (by decide))⟩ (by decide) dX10_readAnd_53 (fun ws H locs hw n_k_2 hF9 => ?_)
        have m_z0_46 := FLD.over hF9 m_z0_46 (by decide)
        have m_z0_47 := FLD.over hF9 m_z0_47 (by decide)
        have x_SNW_p0_gd_1_gz_gg__1 := SNW.over hF9 x_SNW_p0_gd_1_gz_gg__1 (by decide)
        obtain ⟨sg_3, q_sg_3⟩ : ∃ q9 : OS, sI s0 48 x1 = q9 := ⟨_, rfl⟩
        have o_p0 : OV vw_M2 Ps ws p0 sg_3 := by rw [← q_sg_3]; exact OV.putI (V := vw_M2) hF9 n_k_2 o_p0 (by decide)
        have f6 := SNL.le x_SNW_p0_gd_1_gz_gg__1.1
        have f7 := x_SNW_p0_gd_1_gz_gg__1.2
        have x_SNT_p0_gd_1_gh_1_gg : SNT ws p0 (gd+1) (gh+1) (gg) := (SNL.snt x_SNW_p0_gd_1_gz_gg__1.1 n_k_2).weak (by have d_8 := SNp.le x_SN_p0_gd_gh_gg; omega)
        refine lv_iconst (v := 1) hx hb dX10_readAnd_56 (by decide) ?_
        simp only [f_X10_readAnd__11_14, ↓reduceIte, q_z0_46, q_z0_47, q_z0_48, q_v_1, eq_true c_20, q_sg_3] at hE
        subst hQ
        exact W.zret (v := 1) hx hb hr (rfl) (fun t ht hW => ⟨⟨1, ws, rfl, ⟨⟨⟨(by rw [hR, ← hE]; exact o_p0), (by rw [hR, ← hE]), trivial⟩, rl_1.to (by decide), (fun h0 => absurd h0 (by decide)), (fun h0 => ⟨⟨_, m_z0_46, r_z0_46⟩, ⟨_, m_z0_47, r_z0_47⟩, ⟨_, n_k_2, r_x1⟩, x_SNT_p0_gd_1_gh_1_gg, trivial⟩)⟩, hw.1, hw.2.2.2.2.1⟩, by rw [ht]; exact hw.2.1, va_K.moved hW.alike hK, hw.2.2.1⟩, hw.2.2.2.1.F ht⟩) hw.2.2.2.1.2.2 dX10_readAnd_57
      · have r_v_1 : RI v_1 1 1 := rc_neL r_v_1 rl_0 (ti_ne c_20) (by decide)
        refine lv_aload_n hx hb dX10_readAnd_23 rfl (lv_at hl 0 rfl) ?_
        refine tk_v (va_runV (As := []) (rest := []) ⟨hx, hb, hml, hown, hts⟩ (c_X10_go__4 l D cy z H.size Ps ws hw.1 p0 s0 h_p0 o_p0) (cwV 0 hts (gV tw_1298 tw_1300 ts_40 tw_15 tw_1301) rfl rfl rfl (by decide +kernel) ⟨Nat.le_of_ble_eq_true rfl, Nat.le_of_ble_eq_true rfl⟩) (tg_preV hw hK hSD hA (ci := 10) (q := (RX10, TX10, 49)) rfl h_p0 rfl) rfl rfl hl.1 rfl (lv_room (Nat.le_of_ble_eq_true rfl)) dX10_readAnd_24 ⟨Nat.le_of_ble_eq_true rfl, Nat.le_of_ble_eq_true rfl⟩) hw hA ⟨by decide, by decide⟩ (fun ws H locs hp_v_4 hw hF9 => ?_)
        have m_z0_46 := FLD.over hF9 m_z0_46 (by decide)
        have m_z0_47 := FLD.over hF9 m_z0_47 (by decide)
        have m_z0_48 := FLD.over hF9 m_z0_48 (by decide)
        have x_SNW_p0_gd_1_gz_gg__1 := SNW.over hF9 x_SNW_p0_gd_1_gz_gg__1 (by decide)
        obtain ⟨hfn, hp_v_4⟩ := hp_v_4
        obtain ⟨sg_5, q_sg_5⟩ : ∃ q9 : OS, (f_X10_go__2 s0) = q9 := ⟨_, rfl⟩
        have o_p0 : OV vw_M2 Ps ws p0 sg_5 := by rw [← q_sg_5]; exact hfn.1
        refine lv_aload_n hx hb dX10_readAnd_27 rfl (lv_at hl 0 rfl) ?_
        have f9 := SNL.sn x_SNW_p0_gd_1_gz_gg__1.1
        have f8 := f9.2
        have f7 := x_SNW_p0_gd_1_gz_gg__1.2
        have f6 := SNL.le x_SNW_p0_gd_1_gz_gg__1.1
        have x_SN_p0_gd_1_gz_max_gg__Int32_toInt_x1___1_ : SNp ws p0 (gd+1) (gz) (max gg (Int32.toInt x1 + 1)) := f9.1
        refine tk_i (va_runV (As := []) (rest := []) ⟨hx, hb, hml, hown, hts⟩ (c_X10_readSaid__11 l D cy z H.size Ps ws hw.1 p0 z0_47 (gd+1) (gz) (max gg (Int32.toInt x1 + 1)) sg_5 h_p0 r_z0_47 m_z0_47 x_SN_p0_gd_1_gz_max_gg__Int32_toInt_x1___1_ o_p0) (cwV 0 hts (gV tw_1759 tw_1761 ts_113 tw_15 tw_1762) rfl rfl rfl (by decide +kernel) ⟨Nat.le_of_ble_eq_true rfl, Nat.le_of_ble_eq_true rfl⟩) (tg_preV hw hK hSD hA (ci := 10) (q := (RX10, TX10, 49)) rfl h_p0 rfl) rfl rfl hl.1 rfl (lv_room (Nat.le_of_ble_eq_true rfl)) dX10_readAnd_28 ⟨Nat.le_of_ble_eq_true rfl, Nat.le_of_ble_eq_true rfl⟩) hw hA ⟨by decide, by decide⟩ (fun v_6 ws H locs hp_v_6 hw hF9 => ?_)
        obtain ⟨hfn, hp_v_6⟩ := hp_v_6
        obtain ⟨sg_7, q_sg_7⟩ : ∃ q9 : OS, (f_X10_readSaid__11 sg_5).1 = q9 := ⟨_, rfl⟩
        have o_p0 : OV vw_M2 Ps ws p0 sg_7 := by rw [← q_sg_7]; exact hfn.1
        have q_v_6 : (f_X10_readSaid__11 sg_5).2 = v_6 := hfn.2.1
        have r_v_6 : RI v_6 0 1 := hp_v_6.1
        by_cases c9_v_6 : v_6 = 0
        · have r_v_6 : RI v_6 0 0 := by rw [c9_v_6]; exact rl_0
          obtain ⟨v_8, m_v_8, r_v_8⟩ := ((hp_v_6.2.1 c9_v_6).1)
          refine lv_if_ne (tgt := 36) hx hb dX10_readAnd_31 (by decide) (fun c_31 => ?_) (fun c_31 => ?_)
          · exact absurd (r_v_6.eq.trans rl_0.eq.symm) ((ti_ne c_31))
          · refine lv_iconst (v := 0) hx hb dX10_readAnd_34 (by decide) ?_
            simp only [f_X10_readAnd__11_14, ↓reduceIte, q_z0_46, q_z0_47, q_z0_48, q_v_1, eq_false c_20, q_sg_5, q_sg_7, q_v_6, eq_true c9_v_6, eq_true c_31] at hE
            subst hQ
            exact W.zret (v := 0) hx hb hr (rfl) (fun t ht hW => ⟨⟨0, ws, rfl, ⟨⟨⟨(by rw [hR, ← hE]; exact o_p0), (by rw [hR, ← hE]), trivial⟩, rl_0.to (by decide), (fun h0 => ⟨⟨_, m_v_8, r_v_8⟩, trivial⟩), (fun h0 => absurd rfl h0)⟩, hw.1, hw.2.2.2.2.1⟩, by rw [ht]; exact hw.2.1, va_K.moved hW.alike hK, hw.2.2.1⟩, hw.2.2.2.1.F ht⟩) hw.2.2.2.1.2.2 dX10_readAnd_35
        · have r_v_6 : RI v_6 1 1 := rc_neL r_v_6 rl_0 (ti_ne c9_v_6) (by decide)
          obtain ⟨v_9, m_v_9, r_v_9⟩ := ((hp_v_6.2.2 c9_v_6).1)
          obtain ⟨v_10, m_v_10, r_v_10⟩ := ((hp_v_6.2.2 c9_v_6).2.1)
          obtain ⟨v_11, m_v_11, r_v_11⟩ := ((hp_v_6.2.2 c9_v_6).2.2.1)
          have x_SNT_p0_gd_2_gz_1_max_gg__Int32_toInt_x1___1_ := ((hp_v_6.2.2 c9_v_6).2.2.2.1)
          refine lv_if_ne (tgt := 36) hx hb dX10_readAnd_31 (by decide) (fun c_31 => ?_) (fun c_31 => ?_)
          · refine lv_aload_n hx hb dX10_readAnd_36 rfl (lv_at hl 0 rfl) ?_
            refine lv_iconst (v := 2) hx hb dX10_readAnd_37 (by decide) ?_
            refine lv_iload_n hx hb dX10_readAnd_38 rfl (lv_at hl 1 rfl) ?_
            refine lv_aload_n hx hb dX10_readAnd_39 rfl (lv_at hl 0 rfl) ?_
            refine tg_mem (ci := 10) (C := RX10) (T := TX10) (N := 49) hx hb hts inX10 hown hK hw 48 m_v_10 rfl (by decide) (hts _ tw_1185) (fun _ h9 => h9) dX10_readAnd_40 ?_
            have q_v_10 : sg_7.1 48 = v_10 := OV.eqI (V := vw_M2) hw.2.2.1 o_p0 m_v_10 (by decide)
            refine lv_iconst (v := 0) hx hb dX10_readAnd_43 (by decide) ?_
            have l9 := SNT.top hw x_SNT_p0_gd_2_gz_1_max_gg__Int32_toInt_x1___1_ m_v_10
            have l8 := SNT.sn x_SNT_p0_gd_2_gz_1_max_gg__Int32_toInt_x1___1_
            have x_SNI_p0_gd_1_gz_1_gg : SNI ws p0 (gd+1) (gz+1) (gg) := SNp.sni l8 (by have d_8 := SNp.le x_SN_p0_gd_gh_gg; omega)
            have x_LTN_p0_x1 : LTN ws p0 (x1) := SNp.ltn l8 f8
            have x_LTN_p0_v_10 : LTN ws p0 (v_10) := l9.ltn
            refine tk_i (va_runV (As := [.int 2, .int x1, .int v_10, .int 0]) (rest := []) ⟨hx, hb, hml, hown, hts⟩ (c_X10_saysOne__4 l D cy z H.size Ps ws hw.1 p0 2 x1 v_10 0 (gd+1) (gz+1) (gg) sg_7 h_p0 (rl_2.to (by decide)) (r_x1.to (by decide)) (r_v_10.to (by decide)) (rl_0.to (by decide)) x_SNI_p0_gd_1_gz_1_gg x_LTN_p0_x1 x_LTN_p0_v_10 o_p0) (cwV 4 hts (gV tw_1771 tw_1773 ts_116 tw_15 tw_1774) rfl rfl rfl (by decide +kernel) ⟨Nat.le_of_ble_eq_true rfl, Nat.le_of_ble_eq_true rfl⟩) (tg_preV hw hK hSD hA (ci := 10) (q := (RX10, TX10, 49)) rfl h_p0 rfl) rfl rfl hl.1 rfl (lv_room (Nat.le_of_ble_eq_true rfl)) dX10_readAnd_44 ⟨Nat.le_of_ble_eq_true rfl, Nat.le_of_ble_eq_true rfl⟩) hw hA ⟨by decide, by decide⟩ (fun v_12 ws H locs hp_v_12 hw hF9 => ?_)
            have m_v_9 := FLD.over hF9 m_v_9 (by decide)
            have m_v_10 := FLD.over hF9 m_v_10 (by decide)
            have m_v_11 := FLD.over hF9 m_v_11 (by decide)
            obtain ⟨hfn, hp_v_12⟩ := hp_v_12
            obtain ⟨sg_13, q_sg_13⟩ : ∃ q9 : OS, (f_X10_saysOne__3 (2 : Int32) x1 v_10 (0 : Int32) sg_7).1 = q9 := ⟨_, rfl⟩
            have o_p0 : OV vw_M2 Ps ws p0 sg_13 := by rw [← q_sg_13]; exact hfn.1
            have q_v_12 : (f_X10_saysOne__3 (2 : Int32) x1 v_10 (0 : Int32) sg_7).2 = v_12 := hfn.2.1
            have r_v_12 : RI v_12 0 39 := hp_v_12.1
            have x_SNL_p0_gd_1_gz_1_gg_v_12 := hp_v_12.2.2.2.1.1
            refine lv_istore_n (lv' := [(1, .int v_12), (0, .ref p0)]) hx hb dX10_readAnd_47 rfl hl (by decide) rfl (fun ls hl => ?_)
            refine lv_goto (tgt := 14) hx hb dX10_readAnd_48 (by decide) ?_
            simp only [f_X10_readAnd__11_14, ↓reduceIte, q_z0_46, q_z0_47, q_z0_48, q_v_1, eq_false c_20, q_sg_5, q_sg_7, q_v_6, eq_false c9_v_6, eq_false c_31, q_v_10, q_sg_13, q_v_12] at hE
            have x_SNW_p0_gd_1_gz_1_gg_v_12 : (SNL ws p0 (gd+1) (gz+1) (gg) v_12 ∧ gh + 1 ≤ gz+1) := ⟨x_SNL_p0_gd_1_gz_1_gg_v_12, by omega⟩
            exact ih14 v_12 v_9 v_11 v_10 (gz+1) sg_13 ws _ _ ls (by have d_8 := SNp.le x_SN_p0_gd_gh_gg; omega) r_v_12 r_v_9 m_v_9 r_v_11 m_v_11 r_v_10 m_v_10 x_SNW_p0_gd_1_gz_1_gg_v_12 o_p0 hE hw (lv_sub hl [1, 0] rfl)
          · have r_v_6 : RI v_6 1 0 := rc_eq1 r_v_6 rl_0 (ti_eq c_31) (by decide)
            exact (r_v_6.no (by decide)).elim
  refine lv_aload_n hx hb dX10_readAnd_0 rfl (lv_at hl 0 rfl) ?_
  refine tk_i (va_runV (As := []) (rest := []) ⟨hx, hb, hml, hown, hts⟩ (c_X10_readSaid__11 l D cy z s.heap.size Ps w0 hw.1 p0 f0_47 (gd) (gh) (gg) s0 h_p0 r_f0_47 m_f0_47 x_SN_p0_gd_gh_gg o_p0) (cwV 0 hts (gV tw_1759 tw_1761 ts_113 tw_15 tw_1762) rfl rfl rfl (by decide +kernel) ⟨Nat.le_of_ble_eq_true rfl, Nat.le_of_ble_eq_true rfl⟩) (tg_preV hw hK hSD hA (ci := 10) (q := (RX10, TX10, 49)) rfl h_p0 rfl) rfl rfl hl.1 rfl (lv_room (Nat.le_of_ble_eq_true rfl)) dX10_readAnd_1 ⟨Nat.le_of_ble_eq_true rfl, Nat.le_of_ble_eq_true rfl⟩) hw hA ⟨by decide, by decide⟩ (fun v_14 ws H locs hp_v_14 hw hF9 => ?_)
  obtain ⟨hfn, hp_v_14⟩ := hp_v_14
  obtain ⟨sg_15, q_sg_15⟩ : ∃ q9 : OS, (f_X10_readSaid__11 s0).1 = q9 := ⟨_, rfl⟩
  have o_p0 : OV vw_M2 Ps ws p0 sg_15 := by rw [← q_sg_15]; exact hfn.1
  have q_v_14 : (f_X10_readSaid__11 s0).2 = v_14 := hfn.2.1
  have r_v_14 : RI v_14 0 1 := hp_v_14.1
  by_cases c9_v_14 : v_14 = 0
  · have r_v_14 : RI v_14 0 0 := by rw [c9_v_14]; exact rl_0
    obtain ⟨v_16, m_v_16, r_v_16⟩ := ((hp_v_14.2.1 c9_v_14).1)
    refine lv_if_ne (tgt := 9) hx hb dX10_readAnd_4 (by decide) (fun c_4 => ?_) (fun c_4 => ?_)
    · exact absurd (r_v_14.eq.trans rl_0.eq.symm) ((ti_ne c_4))
    · refine lv_iconst (v := 0) hx hb dX10_readAnd_7 (by decide) ?_
      simp only [f_X10_readAnd__11, ↓reduceIte, q_sg_15, q_v_14, eq_true c9_v_14, eq_true c_4] at hE
      subst hQ
      exact W.zret (v := 0) hx hb hr (rfl) (fun t ht hW => ⟨⟨0, ws, rfl, ⟨⟨⟨(by rw [hR, ← hE]; exact o_p0), (by rw [hR, ← hE]), trivial⟩, rl_0.to (by decide), (fun h0 => ⟨⟨_, m_v_16, r_v_16⟩, trivial⟩), (fun h0 => absurd rfl h0)⟩, hw.1, hw.2.2.2.2.1⟩, by rw [ht]; exact hw.2.1, va_K.moved hW.alike hK, hw.2.2.1⟩, hw.2.2.2.1.F ht⟩) hw.2.2.2.1.2.2 dX10_readAnd_8
  · have r_v_14 : RI v_14 1 1 := rc_neL r_v_14 rl_0 (ti_ne c9_v_14) (by decide)
    obtain ⟨v_17, m_v_17, r_v_17⟩ := ((hp_v_14.2.2 c9_v_14).1)
    obtain ⟨v_18, m_v_18, r_v_18⟩ := ((hp_v_14.2.2 c9_v_14).2.1)
    obtain ⟨v_19, m_v_19, r_v_19⟩ := ((hp_v_14.2.2 c9_v_14).2.2.1)
    have x_SNT_p0_gd_1_gh_1_gg := ((hp_v_14.2.2 c9_v_14).2.2.2.1)
    refine lv_if_ne (tgt := 9) hx hb dX10_readAnd_4 (by decide) (fun c_4 => ?_) (fun c_4 => ?_)
    · refine lv_aload_n hx hb dX10_readAnd_9 rfl (lv_at hl 0 rfl) ?_
      refine tg_mem (ci := 10) (C := RX10) (T := TX10) (N := 49) hx hb hts inX10 hown hK hw 48 m_v_18 rfl (by decide) (hts _ tw_1185) (fun _ h9 => h9) dX10_readAnd_10 ?_
      have q_v_18 : sg_15.1 48 = v_18 := OV.eqI (V := vw_M2) hw.2.2.1 o_p0 m_v_18 (by decide)
      refine lv_istore_n (lv' := [(1, .int v_18), (0, .ref p0)]) hx hb dX10_readAnd_13 rfl hl (by decide) rfl (fun ls hl => ?_)
      simp only [f_X10_readAnd__11, ↓reduceIte, q_sg_15, q_v_14, eq_false c9_v_14, eq_false c_4, q_v_18] at hE
      have x_SNW_p0_gd_1_gh_1_gg_v_18 : (SNL ws p0 (gd+1) (gh+1) (gg) v_18 ∧ gh + 1 ≤ gh+1) := ⟨SNT.top hw x_SNT_p0_gd_1_gh_1_gg m_v_18, by omega⟩
      exact B14 4294967298 v_18 v_17 v_19 v_18 (gh+1) sg_15 ws _ _ ls (by have d_8 := SNp.le x_SN_p0_gd_gh_gg; omega) r_v_18 r_v_17 m_v_17 r_v_19 m_v_19 r_v_18 m_v_18 x_SNW_p0_gd_1_gh_1_gg_v_18 o_p0 hE hw (lv_sub hl [1, 0] rfl)
    · have r_v_14 : RI v_14 1 0 := rc_eq1 r_v_14 rl_0 (ti_eq c_4) (by decide)
      exact (r_v_14.no (by decide)).elim
abbrev wr_X10_readOr__11 : List (Nat × Nat) := [(10, 5), (10, 6), (10, 7), (10, 8), (10, 9), (10, 10), (10, 11), (10, 12), (10, 13), (10, 45), (10, 46), (10, 47), (10, 48)]
abbrev wa_X10_readOr__11 : List Nat := [54]
set_option maxHeartbeats 4000000 in
set_option maxRecDepth 100000 in
theorem c_X10_readOr__11 (l : Launch) (D : va_G) (cy : Nat → ClassId) (z : Nat → Nat) (sz : Nat) (Ps : PSI) (w0 : va_W) (hT : HT cy GG Ps w0) (p0 : Nat) (f0_47 : Int32) (gd : Int) (gh : Int) (gg : Int) (s0 : OS) (h_p0 : (p0, 55) ∈ Ps) (r_f0_47 : RI f0_47 2 2) (m_f0_47 : FLD w0 p0 10 47 (.int f0_47)) (x_SN_p0_gd_gh_gg : SNp w0 p0 (gd) (gh) (gg)) (o_p0 : OV vw_M2 Ps w0 p0 s0) : Met l yX10_readOr (Cond.code yX10_readOr cX10_readOr 2 (some .boolean) :: gT) ({ frames := 30, cells := 0, slots := 0, locals := 6000 } : Room) (va_Pc [.ref p0] (PRE D cy z w0 sz)) (va_Qi (fun (r : Int32) (u : va_W) => ((OV vw_M2 Ps u p0 ((f_X10_readOr__11 s0).1) ∧ (f_X10_readOr__11 s0).2 = r ∧ True) ∧ (RI r 0 1 ∧ (r = 0 → (∃ v9 : Int32, FLD u p0 10 47 (.int v9) ∧ RI v9 2 2) ∧ True) ∧ (¬ r = 0 → (∃ v9 : Int32, FLD u p0 10 46 (.int v9) ∧ RI v9 1 20) ∧ (∃ v9 : Int32, FLD u p0 10 47 (.int v9) ∧ RI v9 2 2) ∧ (∃ v9 : Int32, FLD u p0 10 48 (.int v9) ∧ RI v9 0 39) ∧ SNT u p0 (gd+1) (gh+1) (gg) ∧ True))) ∧ HT cy GG Ps u ∧ FR wr_X10_readOr__11 wa_X10_readOr__11 Ps w0 u) (BB D cy (va_A w0 sz) (fun (u : va_W) => u)) (va_A w0 sz)) 0 0 (va_A w0 sz) := by
  refine Met.ofW (cc := cX10_readOr) (maxL := 2) (ret := (some .boolean)) (by decide) rfl ?_
  intro p e s m args below meth c s₁ B hml hv
  obtain ⟨rfl, hsz, hP, hK, hD0, hSD⟩ := hv
  have hx := B.exec
  have hb := B.bytes
  have hr := B.returns
  have hlocks := B.notSynchronized
  have hts : ∀ w ∈ gT, w.before _ s = true := fun w h => atoms_spec (ws := Cond.code yX10_readOr cX10_readOr 2 (some .boolean) :: gT) B.pre w (List.mem_cons_of_mem _ h)
  have hown : s.vm.findClass RX10 = some m.cls := findClass_of_methodNamed B.named
  subst hsz
  have hD := hD0.self (sz := s.heap.size)
  generalize hAe : va_A w0 s.heap.size = A at hD hSD ⊢
  have hA : ∀ q : Nat, s.heap.size ≤ q → A q := fun q h => by rw [← hAe]; exact Or.inr h
  have hl := lv_entry ([.ref p0]) (n := 2) (Nat.le_of_ble_eq_true rfl)
  rw [lg_entry_eq]
  generalize (lg_sl ([.ref p0]) ++ List.replicate (2 - (lg_sl ([.ref p0])).length) Slot.unset).toArray = ls at hl ⊢
  have hl : lv_has ls 2 [(0, .ref p0)] := hl
  refine nameQ (fun Q hQ => ?_)
  have hw : WD D cy GG A s wr_X10_readOr__11 wa_X10_readOr__11 Ps w0 Ps w0 s.heap [] := ⟨hT, hP, hD, va_S.rf, FR.rf, hT.1, [], (List.append_nil _).symm⟩
  obtain ⟨R9, hR⟩ : ∃ q9 : OS × Int32, f_X10_readOr__11 s0 = q9 := ⟨_, rfl⟩
  have hE := hR
  have B14 : ∀ (nf : Nat) (x1 : Int32) (z0_46 : Int32) (z0_47 : Int32) (z0_48 : Int32) (gz : Int) (s0 : OS) (ws : va_W) (H : Heap) (locs : List Loc) (ls : Array Slot), 21 - gz < (nf : Int) → RI x1 0 39 → RI z0_46 1 20 → FLD ws p0 10 46 (.int z0_46) → RI z0_47 2 2 → FLD ws p0 10 47 (.int z0_47) → RI z0_48 0 39 → FLD ws p0 10 48 (.int z0_48) → (SNL ws p0 (gd+1) (gz) (gg) x1 ∧ gh + 1 ≤ gz) → OV vw_M2 Ps ws p0 s0 → f_X10_readOr__11_14 nf x1 s0 = R9 → WD D cy GG A s wr_X10_readOr__11 wa_X10_readOr__11 Ps w0 Ps ws H locs → lv_has ls 2 [(0, .ref p0), (1, .int x1)] → W p l e (headSpec (Cond.code yX10_readOr cX10_readOr 2 (some .boolean) :: gT) ({ frames := 30, cells := 0, slots := 0, locals := 6000 } : Room)).room s m ([.ref p0] : List Value).toArray below meth c H locs 0 0 Q (F0 m 14 ls []) := by
    intro nf14
    induction nf14 with
    | zero =>
      intro x1 z0_46 z0_47 z0_48 gz s0 ws H locs ls hn14 r_x1 r_z0_46 m_z0_46 r_z0_47 m_z0_47 r_z0_48 m_z0_48 x_SNW_p0_gd_1_gz_gg__1 o_p0 hE hw hl
      exact absurd hn14 (by have q9 := SNL.le x_SNW_p0_gd_1_gz_gg__1.1; omega)
    | succ nf14 ih14 =>
      intro x1 z0_46 z0_47 z0_48 gz s0 ws H locs ls hn14 r_x1 r_z0_46 m_z0_46 r_z0_47 m_z0_47 r_z0_48 m_z0_48 x_SNW_p0_gd_1_gz_gg__1 o_p0 hE hw hl
      have q_z0_46 : s0.1 46 = z0_46 := OV.eqI (V := vw_M2) hw.2.2.1 o_p0 m_z0_46 (by decide)
      have q_z0_47 : s0.1 47 = z0_47 := OV.eqI (V := vw_M2) hw.2.2.1 o_p0 m_z0_47 (by decide)
      have q_z0_48 : s0.1 48 = z0_48 := OV.eqI (V := vw_M2) hw.2.2.1 o_p0 m_z0_48 (by decide)
      refine lv_aload_n hx hb dX10_readOr_14 rfl (lv_at hl 0 rfl) ?_
      refine lv_bipush (v := 16) hx hb dX10_readOr_15 (by decide) ?_
      refine tk_ir (va_runV (As := [.int 16]) (rest := []) ⟨hx, hb, hml, hown, hts⟩ (c_X10_isWord__5 l D cy z H.size Ps ws hw.1 p0 16 s0 h_p0 (rl_16.to (by decide)) o_p0) (cwV 1 hts (gV tw_1318 tw_1320 ts_43 tw_15 tw_1321) rfl rfl rfl (by decide +kernel) ⟨Nat.le_of_ble_eq_true rfl, Nat.le_of_ble_eq_true rfl⟩) (tg_preV hw hK hSD hA (ci := 10) (q := (RX10, TX10, 49)) rfl h_p0 rfl) rfl rfl hl.1 rfl (lv_room (Nat.le_of_ble_eq_true rfl)) dX10_readOr_17 ⟨Nat.le_of_ble_eq_true rfl, Nat.le_of_ble_eq_true rfl⟩) hw hA (fun v_1  H locs hp_v_1 hw => ?_)
      obtain ⟨hfn, hp_v_1⟩ := hp_v_1
      have q_v_1 : (f_X10_isWord__4 (16 : Int32) s0) = v_1 := hfn.1
      have r_v_1 : RI v_1 0 1 := hp_v_1.1
      refine lv_if_eq (tgt := 51) hx hb dX10_readOr_20 (by decide) (fun c_20 => ?_) (fun c_20 => ?_)
      · have r_v_1 : RI v_1 0 0 := rc_eq1 r_v_1 rl_0 (ti_eq c_20) (by decide)
        refine lv_aload_n hx hb dX10_readOr_51 rfl (lv_at hl 0 rfl) ?_
        refine lv_iload_n hx hb dX10_readOr_52 rfl (lv_at hl 1 rfl) ?_
        refine tg_put (ci := 10) (ts := ty_MODEL) (v := .int x1) (ty := .int) (C := RX10) (T := TX10) (N := 49) hx hb hts inX10 tyX10 tyX10_ok nmX10 hown hK hw h_p0 rfl rfl 48 (by decide) (hts _ tw_1185) (fun _ h9 => h9) rfl (by decide +kernel) rfl rfl (ft := vI (-2147483648) 2147483647) rfl ⟨_, rfl, (r_x1.to (by decide))⟩ (by decide) dX10_readOr_53 (fun ws H locs hw n_k_2 hF9 => ?_)
        have m_z0_46 := FLD.over hF9 m_z0_46 (by decide)
        have m_z0_47 := FLD.over hF9 m_z0_47 (by decide)
        have x_SNW_p0_gd_1_gz_gg__1 := SNW.over hF9 x_SNW_p0_gd_1_gz_gg__1 (by decide)
        obtain ⟨sg_3, q_sg_3⟩ : ∃ q9 : OS, sI s0 48 x1 = q9 := ⟨_, rfl⟩
        have o_p0 : OV vw_M2 Ps ws p0 sg_3 := by rw [← q_sg_3]; exact OV.putI (V := vw_M2) hF9 n_k_2 o_p0 (by decide)
        have f6 := SNL.le x_SNW_p0_gd_1_gz_gg__1.1
        have f7 := x_SNW_p0_gd_1_gz_gg__1.2
        have x_SNT_p0_gd_1_gh_1_gg : SNT ws p0 (gd+1) (gh+1) (gg) := (SNL.snt x_SNW_p0_gd_1_gz_gg__1.1 n_k_2).weak (by have d_8 := SNp.le x_SN_p0_gd_gh_gg; omega)
        refine lv_iconst (v := 1) hx hb dX10_readOr_56 (by decide) ?_
        simp only [f_X10_readOr__11_14, ↓reduceIte, q_z0_46, q_z0_47, q_z0_48, q_v_1, eq_true c_20, q_sg_3] at hE
        subst hQ
        exact W.zret (v := 1) hx hb hr (rfl) (fun t ht hW => ⟨⟨1, ws, rfl, ⟨⟨⟨(by rw [hR, ← hE]; exact o_p0), (by rw [hR, ← hE]), trivial⟩, rl_1.to (by decide), (fun h0 => absurd h0 (by decide)), (fun h0 => ⟨⟨_, m_z0_46, r_z0_46⟩, ⟨_, m_z0_47, r_z0_47⟩, ⟨_, n_k_2, r_x1⟩, x_SNT_p0_gd_1_gh_1_gg, trivial⟩)⟩, hw.1, hw.2.2.2.2.1⟩, by rw [ht]; exact hw.2.1, va_K.moved hW.alike hK, hw.2.2.1⟩, hw.2.2.2.1.F ht⟩) hw.2.2.2.1.2.2 dX10_readOr_57
      · have r_v_1 : RI v_1 1 1 := rc_neL r_v_1 rl_0 (ti_ne c_20) (by decide)
        refine lv_aload_n hx hb dX10_readOr_23 rfl (lv_at hl 0 rfl) ?_
        refine tk_v (va_runV (As := []) (rest := []) ⟨hx, hb, hml, hown, hts⟩ (c_X10_go__4 l D cy z H.size Ps ws hw.1 p0 s0 h_p0 o_p0) (cwV 0 hts (gV tw_1298 tw_1300 ts_40 tw_15 tw_1301) rfl rfl rfl (by decide +kernel) ⟨Nat.le_of_ble_eq_true rfl, Nat.le_of_ble_eq_true rfl⟩) (tg_preV hw hK hSD hA (ci := 10) (q := (RX10, TX10, 49)) rfl h_p0 rfl) rfl rfl hl.1 rfl (lv_room (Nat.le_of_ble_eq_true rfl)) dX10_readOr_24 ⟨Nat.le_of_ble_eq_true rfl, Nat.le_of_ble_eq_true rfl⟩) hw hA ⟨by decide, by decide⟩ (fun ws H locs hp_v_4 hw hF9 => ?_)
        have m_z0_46 := FLD.over hF9 m_z0_46 (by decide)
        have m_z0_47 := FLD.over hF9 m_z0_47 (by decide)
        have m_z0_48 := FLD.over hF9 m_z0_48 (by decide)
        have x_SNW_p0_gd_1_gz_gg__1 := SNW.over hF9 x_SNW_p0_gd_1_gz_gg__1 (by decide)
        obtain ⟨hfn, hp_v_4⟩ := hp_v_4
        obtain ⟨sg_5, q_sg_5⟩ : ∃ q9 : OS, (f_X10_go__2 s0) = q9 := ⟨_, rfl⟩
        have o_p0 : OV vw_M2 Ps ws p0 sg_5 := by rw [← q_sg_5]; exact hfn.1
        refine lv_aload_n hx hb dX10_readOr_27 rfl (lv_at hl 0 rfl) ?_
        have f9 := SNL.sn x_SNW_p0_gd_1_gz_gg__1.1
        have f8 := f9.2
        have f7 := x_SNW_p0_gd_1_gz_gg__1.2
        have f6 := SNL.le x_SNW_p0_gd_1_gz_gg__1.1
        have x_SN_p0_gd_1_gz_max_gg__Int32_toInt_x1___1_ : SNp ws p0 (gd+1) (gz) (max gg (Int32.toInt x1 + 1)) := f9.1
        refine tk_i (va_runV (As := []) (rest := []) ⟨hx, hb, hml, hown, hts⟩ (c_X10_readAnd__11 l D cy z H.size Ps ws hw.1 p0 z0_47 (gd+1) (gz) (max gg (Int32.toInt x1 + 1)) sg_5 h_p0 r_z0_47 m_z0_47 x_SN_p0_gd_1_gz_max_gg__Int32_toInt_x1___1_ o_p0) (cwV 0 hts (gV tw_1755 tw_1757 ts_112 tw_15 tw_1758) rfl rfl rfl (by decide +kernel) ⟨Nat.le_of_ble_eq_true rfl, Nat.le_of_ble_eq_true rfl⟩) (tg_preV hw hK hSD hA (ci := 10) (q := (RX10, TX10, 49)) rfl h_p0 rfl) rfl rfl hl.1 rfl (lv_room (Nat.le_of_ble_eq_true rfl)) dX10_readOr_28 ⟨Nat.le_of_ble_eq_true rfl, Nat.le_of_ble_eq_true rfl⟩) hw hA ⟨by decide, by decide⟩ (fun v_6 ws H locs hp_v_6 hw hF9 => ?_)
        obtain ⟨hfn, hp_v_6⟩ := hp_v_6
        obtain ⟨sg_7, q_sg_7⟩ : ∃ q9 : OS, (f_X10_readAnd__11 sg_5).1 = q9 := ⟨_, rfl⟩
        have o_p0 : OV vw_M2 Ps ws p0 sg_7 := by rw [← q_sg_7]; exact hfn.1
        have q_v_6 : (f_X10_readAnd__11 sg_5).2 = v_6 := hfn.2.1
        have r_v_6 : RI v_6 0 1 := hp_v_6.1
        by_cases c9_v_6 : v_6 = 0
        · have r_v_6 : RI v_6 0 0 := by rw [c9_v_6]; exact rl_0
          obtain ⟨v_8, m_v_8, r_v_8⟩ := ((hp_v_6.2.1 c9_v_6).1)
          refine lv_if_ne (tgt := 36) hx hb dX10_readOr_31 (by decide) (fun c_31 => ?_) (fun c_31 => ?_)
          · exact absurd (r_v_6.eq.trans rl_0.eq.symm) ((ti_ne c_31))
          · refine lv_iconst (v := 0) hx hb dX10_readOr_34 (by decide) ?_
            simp only [f_X10_readOr__11_14, ↓reduceIte, q_z0_46, q_z0_47, q_z0_48, q_v_1, eq_false c_20, q_sg_5, q_sg_7, q_v_6, eq_true c9_v_6, eq_true c_31] at hE
            subst hQ
            exact W.zret (v := 0) hx hb hr (rfl) (fun t ht hW => ⟨⟨0, ws, rfl, ⟨⟨⟨(by rw [hR, ← hE]; exact o_p0), (by rw [hR, ← hE]), trivial⟩, rl_0.to (by decide), (fun h0 => ⟨⟨_, m_v_8, r_v_8⟩, trivial⟩), (fun h0 => absurd rfl h0)⟩, hw.1, hw.2.2.2.2.1⟩, by rw [ht]; exact hw.2.1, va_K.moved hW.alike hK, hw.2.2.1⟩, hw.2.2.2.1.F ht⟩) hw.2.2.2.1.2.2 dX10_readOr_35
        · have r_v_6 : RI v_6 1 1 := rc_neL r_v_6 rl_0 (ti_ne c9_v_6) (by decide)
          obtain ⟨v_9, m_v_9, r_v_9⟩ := ((hp_v_6.2.2 c9_v_6).1)
          obtain ⟨v_10, m_v_10, r_v_10⟩ := ((hp_v_6.2.2 c9_v_6).2.1)
          obtain ⟨v_11, m_v_11, r_v_11⟩ := ((hp_v_6.2.2 c9_v_6).2.2.1)
          have x_SNT_p0_gd_2_gz_1_max_gg__Int32_toInt_x1___1_ := ((hp_v_6.2.2 c9_v_6).2.2.2.1)
          refine lv_if_ne (tgt := 36) hx hb dX10_readOr_31 (by decide) (fun c_31 => ?_) (fun c_31 => ?_)
          · refine lv_aload_n hx hb dX10_readOr_36 rfl (lv_at hl 0 rfl) ?_
            refine lv_iconst (v := 3) hx hb dX10_readOr_37 (by decide) ?_
            refine lv_iload_n hx hb dX10_readOr_38 rfl (lv_at hl 1 rfl) ?_
            refine lv_aload_n hx hb dX10_readOr_39 rfl (lv_at hl 0 rfl) ?_
            refine tg_mem (ci := 10) (C := RX10) (T := TX10) (N := 49) hx hb hts inX10 hown hK hw 48 m_v_11 rfl (by decide) (hts _ tw_1185) (fun _ h9 => h9) dX10_readOr_40 ?_
            have q_v_11 : sg_7.1 48 = v_11 := OV.eqI (V := vw_M2) hw.2.2.1 o_p0 m_v_11 (by decide)
            refine lv_iconst (v := 0) hx hb dX10_readOr_43 (by decide) ?_
            have l9 := SNT.top hw x_SNT_p0_gd_2_gz_1_max_gg__Int32_toInt_x1___1_ m_v_11
            have l8 := SNT.sn x_SNT_p0_gd_2_gz_1_max_gg__Int32_toInt_x1___1_
            have x_SNI_p0_gd_1_gz_1_gg : SNI ws p0 (gd+1) (gz+1) (gg) := SNp.sni l8 (by have d_8 := SNp.le x_SN_p0_gd_gh_gg; omega)
            have x_LTN_p0_x1 : LTN ws p0 (x1) := SNp.ltn l8 f8
            have x_LTN_p0_v_11 : LTN ws p0 (v_11) := l9.ltn
            refine tk_i (va_runV (As := [.int 3, .int x1, .int v_11, .int 0]) (rest := []) ⟨hx, hb, hml, hown, hts⟩ (c_X10_saysOne__4 l D cy z H.size Ps ws hw.1 p0 3 x1 v_11 0 (gd+1) (gz+1) (gg) sg_7 h_p0 (rl_3.to (by decide)) (r_x1.to (by decide)) (r_v_11.to (by decide)) (rl_0.to (by decide)) x_SNI_p0_gd_1_gz_1_gg x_LTN_p0_x1 x_LTN_p0_v_11 o_p0) (cwV 4 hts (gV tw_1771 tw_1773 ts_116 tw_15 tw_1774) rfl rfl rfl (by decide +kernel) ⟨Nat.le_of_ble_eq_true rfl, Nat.le_of_ble_eq_true rfl⟩) (tg_preV hw hK hSD hA (ci := 10) (q := (RX10, TX10, 49)) rfl h_p0 rfl) rfl rfl hl.1 rfl (lv_room (Nat.le_of_ble_eq_true rfl)) dX10_readOr_44 ⟨Nat.le_of_ble_eq_true rfl, Nat.le_of_ble_eq_true rfl⟩) hw hA ⟨by decide, by decide⟩ (fun v_12 ws H locs hp_v_12 hw hF9 => ?_)
            have m_v_9 := FLD.over hF9 m_v_9 (by decide)
            have m_v_10 := FLD.over hF9 m_v_10 (by decide)
            have m_v_11 := FLD.over hF9 m_v_11 (by decide)
            obtain ⟨hfn, hp_v_12⟩ := hp_v_12
            obtain ⟨sg_13, q_sg_13⟩ : ∃ q9 : OS, (f_X10_saysOne__3 (3 : Int32) x1 v_11 (0 : Int32) sg_7).1 = q9 := ⟨_, rfl⟩
            have o_p0 : OV vw_M2 Ps ws p0 sg_13 := by rw [← q_sg_13]; exact hfn.1
            have q_v_12 : (f_X10_saysOne__3 (3 : Int32) x1 v_11 (0 : Int32) sg_7).2 = v_12 := hfn.2.1
            have r_v_12 : RI v_12 0 39 := hp_v_12.1
            have x_SNL_p0_gd_1_gz_1_gg_v_12 := hp_v_12.2.2.2.1.1
            refine lv_istore_n (lv' := [(1, .int v_12), (0, .ref p0)]) hx hb dX10_readOr_47 rfl hl (by decide) rfl (fun ls hl => ?_)
            refine lv_goto (tgt := 14) hx hb dX10_readOr_48 (by decide) ?_
            simp only [f_X10_readOr__11_14, ↓reduceIte, q_z0_46, q_z0_47, q_z0_48, q_v_1, eq_false c_20, q_sg_5, q_sg_7, q_v_6, eq_false c9_v_6, eq_false c_31, q_v_11, q_sg_13, q_v_12] at hE
            have x_SNW_p0_gd_1_gz_1_gg_v_12 : (SNL ws p0 (gd+1) (gz+1) (gg) v_12 ∧ gh + 1 ≤ gz+1) := ⟨x_SNL_p0_gd_1_gz_1_gg_v_12, by omega⟩
            exact ih14 v_12 v_9 v_10 v_11 (gz+1) sg_13 ws _ _ ls (by have d_8 := SNp.le x_SN_p0_gd_gh_gg; omega) r_v_12 r_v_9 m_v_9 r_v_10 m_v_10 r_v_11 m_v_11 x_SNW_p0_gd_1_gz_1_gg_v_12 o_p0 hE hw (lv_sub hl [1, 0] rfl)
          · have r_v_6 : RI v_6 1 0 := rc_eq1 r_v_6 rl_0 (ti_eq c_31) (by decide)
            exact (r_v_6.no (by decide)).elim
  refine lv_aload_n hx hb dX10_readOr_0 rfl (lv_at hl 0 rfl) ?_
  refine tk_i (va_runV (As := []) (rest := []) ⟨hx, hb, hml, hown, hts⟩ (c_X10_readAnd__11 l D cy z s.heap.size Ps w0 hw.1 p0 f0_47 (gd) (gh) (gg) s0 h_p0 r_f0_47 m_f0_47 x_SN_p0_gd_gh_gg o_p0) (cwV 0 hts (gV tw_1755 tw_1757 ts_112 tw_15 tw_1758) rfl rfl rfl (by decide +kernel) ⟨Nat.le_of_ble_eq_true rfl, Nat.le_of_ble_eq_true rfl⟩) (tg_preV hw hK hSD hA (ci := 10) (q := (RX10, TX10, 49)) rfl h_p0 rfl) rfl rfl hl.1 rfl (lv_room (Nat.le_of_ble_eq_true rfl)) dX10_readOr_1 ⟨Nat.le_of_ble_eq_true rfl, Nat.le_of_ble_eq_true rfl⟩) hw hA ⟨by decide, by decide⟩ (fun v_14 ws H locs hp_v_14 hw hF9 => ?_)
  obtain ⟨hfn, hp_v_14⟩ := hp_v_14
  obtain ⟨sg_15, q_sg_15⟩ : ∃ q9 : OS, (f_X10_readAnd__11 s0).1 = q9 := ⟨_, rfl⟩
  have o_p0 : OV vw_M2 Ps ws p0 sg_15 := by rw [← q_sg_15]; exact hfn.1
  have q_v_14 : (f_X10_readAnd__11 s0).2 = v_14 := hfn.2.1
  have r_v_14 : RI v_14 0 1 := hp_v_14.1
  by_cases c9_v_14 : v_14 = 0
  · have r_v_14 : RI v_14 0 0 := by rw [c9_v_14]; exact rl_0
    obtain ⟨v_16, m_v_16, r_v_16⟩ := ((hp_v_14.2.1 c9_v_14).1)
    refine lv_if_ne (tgt := 9) hx hb dX10_readOr_4 (by decide) (fun c_4 => ?_) (fun c_4 => ?_)
    · exact absurd (r_v_14.eq.trans rl_0.eq.symm) ((ti_ne c_4))
    · refine lv_iconst (v := 0) hx hb dX10_readOr_7 (by decide) ?_
      simp only [f_X10_readOr__11, ↓reduceIte, q_sg_15, q_v_14, eq_true c9_v_14, eq_true c_4] at hE
      subst hQ
      exact W.zret (v := 0) hx hb hr (rfl) (fun t ht hW => ⟨⟨0, ws, rfl, ⟨⟨⟨(by rw [hR, ← hE]; exact o_p0), (by rw [hR, ← hE]), trivial⟩, rl_0.to (by decide), (fun h0 => ⟨⟨_, m_v_16, r_v_16⟩, trivial⟩), (fun h0 => absurd rfl h0)⟩, hw.1, hw.2.2.2.2.1⟩, by rw [ht]; exact hw.2.1, va_K.moved hW.alike hK, hw.2.2.1⟩, hw.2.2.2.1.F ht⟩) hw.2.2.2.1.2.2 dX10_readOr_8
  · have r_v_14 : RI v_14 1 1 := rc_neL r_v_14 rl_0 (ti_ne c9_v_14) (by decide)
    obtain ⟨v_17, m_v_17, r_v_17⟩ := ((hp_v_14.2.2 c9_v_14).1)
    obtain ⟨v_18, m_v_18, r_v_18⟩ := ((hp_v_14.2.2 c9_v_14).2.1)
    obtain ⟨v_19, m_v_19, r_v_19⟩ := ((hp_v_14.2.2 c9_v_14).2.2.1)
    have x_SNT_p0_gd_1_gh_1_gg := ((hp_v_14.2.2 c9_v_14).2.2.2.1)
    refine lv_if_ne (tgt := 9) hx hb dX10_readOr_4 (by decide) (fun c_4 => ?_) (fun c_4 => ?_)
    · refine lv_aload_n hx hb dX10_readOr_9 rfl (lv_at hl 0 rfl) ?_
      refine tg_mem (ci := 10) (C := RX10) (T := TX10) (N := 49) hx hb hts inX10 hown hK hw 48 m_v_19 rfl (by decide) (hts _ tw_1185) (fun _ h9 => h9) dX10_readOr_10 ?_
      have q_v_19 : sg_15.1 48 = v_19 := OV.eqI (V := vw_M2) hw.2.2.1 o_p0 m_v_19 (by decide)
      refine lv_istore_n (lv' := [(1, .int v_19), (0, .ref p0)]) hx hb dX10_readOr_13 rfl hl (by decide) rfl (fun ls hl => ?_)
      simp only [f_X10_readOr__11, ↓reduceIte, q_sg_15, q_v_14, eq_false c9_v_14, eq_false c_4, q_v_19] at hE
      have x_SNW_p0_gd_1_gh_1_gg_v_19 : (SNL ws p0 (gd+1) (gh+1) (gg) v_19 ∧ gh + 1 ≤ gh+1) := ⟨SNT.top hw x_SNT_p0_gd_1_gh_1_gg m_v_19, by omega⟩
      exact B14 4294967298 v_19 v_17 v_18 v_19 (gh+1) sg_15 ws _ _ ls (by have d_8 := SNp.le x_SN_p0_gd_gh_gg; omega) r_v_19 r_v_17 m_v_17 r_v_18 m_v_18 r_v_19 m_v_19 x_SNW_p0_gd_1_gh_1_gg_v_19 o_p0 hE hw (lv_sub hl [1, 0] rfl)
    · have r_v_14 : RI v_14 1 0 := rc_eq1 r_v_14 rl_0 (ti_eq c_4) (by decide)
      exact (r_v_14.no (by decide)).elim
abbrev wr_X10_readBracket__9 : List (Nat × Nat) := [(10, 5), (10, 6), (10, 7), (10, 8), (10, 9), (10, 10), (10, 11), (10, 12), (10, 13), (10, 45), (10, 46), (10, 47), (10, 48)]
abbrev wa_X10_readBracket__9 : List Nat := [54]
set_option maxHeartbeats 4000000 in
set_option maxRecDepth 100000 in
theorem c_X10_readBracket__9 (l : Launch) (D : va_G) (cy : Nat → ClassId) (z : Nat → Nat) (sz : Nat) (Ps : PSI) (w0 : va_W) (hT : HT cy GG Ps w0) (p0 : Nat) (f0_47 : Int32) (gd : Int) (gh : Int) (gg : Int) (s0 : OS) (h_p0 : (p0, 55) ∈ Ps) (r_f0_47 : RI f0_47 2 2) (m_f0_47 : FLD w0 p0 10 47 (.int f0_47)) (x_SNI_p0_gd_gh_gg : SNI w0 p0 (gd) (gh) (gg)) (o_p0 : OV vw_M2 Ps w0 p0 s0) : Met l yX10_readBracket (Cond.code yX10_readBracket cX10_readBracket 1 (some .boolean) :: gT) ({ frames := 31, cells := 0, slots := 0, locals := 6200 } : Room) (va_Pc [.ref p0] (PRE D cy z w0 sz)) (va_Qi (fun (r : Int32) (u : va_W) => ((OV vw_M2 Ps u p0 ((f_X10_readBracket__9 s0).1) ∧ (f_X10_readBracket__9 s0).2 = r ∧ True) ∧ (RI r 0 1 ∧ (r = 0 → (∃ v9 : Int32, FLD u p0 10 47 (.int v9) ∧ RI v9 2 2) ∧ True) ∧ (¬ r = 0 → (∃ v9 : Int32, FLD u p0 10 46 (.int v9) ∧ RI v9 1 20) ∧ (∃ v9 : Int32, FLD u p0 10 47 (.int v9) ∧ RI v9 2 2) ∧ (∃ v9 : Int32, FLD u p0 10 48 (.int v9) ∧ RI v9 0 39) ∧ SNT u p0 (gd) (gh) (gg) ∧ True))) ∧ HT cy GG Ps u ∧ FR wr_X10_readBracket__9 wa_X10_readBracket__9 Ps w0 u) (BB D cy (va_A w0 sz) (fun (u : va_W) => u)) (va_A w0 sz)) 0 0 (va_A w0 sz) := by
  refine Met.ofW (cc := cX10_readBracket) (maxL := 1) (ret := (some .boolean)) (by decide) rfl ?_
  intro p e s m args below meth c s₁ B hml hv
  obtain ⟨rfl, hsz, hP, hK, hD0, hSD⟩ := hv
  have hx := B.exec
  have hb := B.bytes
  have hr := B.returns
  have hlocks := B.notSynchronized
  have hts : ∀ w ∈ gT, w.before _ s = true := fun w h => atoms_spec (ws := Cond.code yX10_readBracket cX10_readBracket 1 (some .boolean) :: gT) B.pre w (List.mem_cons_of_mem _ h)
  have hown : s.vm.findClass RX10 = some m.cls := findClass_of_methodNamed B.named
  subst hsz
  have hD := hD0.self (sz := s.heap.size)
  generalize hAe : va_A w0 s.heap.size = A at hD hSD ⊢
  have hA : ∀ q : Nat, s.heap.size ≤ q → A q := fun q h => by rw [← hAe]; exact Or.inr h
  have hl := lv_entry ([.ref p0]) (n := 1) (Nat.le_of_ble_eq_true rfl)
  rw [lg_entry_eq]
  generalize (lg_sl ([.ref p0]) ++ List.replicate (1 - (lg_sl ([.ref p0])).length) Slot.unset).toArray = ls at hl ⊢
  have hl : lv_has ls 1 [(0, .ref p0)] := hl
  refine nameQ (fun Q hQ => ?_)
  have hw : WD D cy GG A s wr_X10_readBracket__9 wa_X10_readBracket__9 Ps w0 Ps w0 s.heap [] := ⟨hT, hP, hD, va_S.rf, FR.rf, hT.1, [], (List.append_nil _).symm⟩
  obtain ⟨R9, hR⟩ : ∃ q9 : OS × Int32, f_X10_readBracket__9 s0 = q9 := ⟨_, rfl⟩
  have hE := hR
  refine lv_aload_n hx hb dX10_readBracket_0 rfl (lv_at hl 0 rfl) ?_
  have d_8 := x_SNI_p0_gd_gh_gg.1
  have x_SN_p0_gd_1_gh_gg : SNp w0 p0 (gd+1) (gh) (gg) := x_SNI_p0_gd_gh_gg.2
  refine tk_i (va_runV (As := []) (rest := []) ⟨hx, hb, hml, hown, hts⟩ (c_X10_readOr__11 l D cy z s.heap.size Ps w0 hw.1 p0 f0_47 (gd+1) (gh) (gg) s0 h_p0 r_f0_47 m_f0_47 x_SN_p0_gd_1_gh_gg o_p0) (cwV 0 hts (gV tw_1751 tw_1753 ts_111 tw_15 tw_1754) rfl rfl rfl (by decide +kernel) ⟨Nat.le_of_ble_eq_true rfl, Nat.le_of_ble_eq_true rfl⟩) (tg_preV hw hK hSD hA (ci := 10) (q := (RX10, TX10, 49)) rfl h_p0 rfl) rfl rfl hl.1 rfl (lv_room (Nat.le_of_ble_eq_true rfl)) dX10_readBracket_1 ⟨Nat.le_of_ble_eq_true rfl, Nat.le_of_ble_eq_true rfl⟩) hw hA ⟨by decide, by decide⟩ (fun v_1 ws H locs hp_v_1 hw hF9 => ?_)
  obtain ⟨hfn, hp_v_1⟩ := hp_v_1
  obtain ⟨sg_2, q_sg_2⟩ : ∃ q9 : OS, (f_X10_readOr__11 s0).1 = q9 := ⟨_, rfl⟩
  have o_p0 : OV vw_M2 Ps ws p0 sg_2 := by rw [← q_sg_2]; exact hfn.1
  have q_v_1 : (f_X10_readOr__11 s0).2 = v_1 := hfn.2.1
  have r_v_1 : RI v_1 0 1 := hp_v_1.1
  by_cases c9_v_1 : v_1 = 0
  · have r_v_1 : RI v_1 0 0 := by rw [c9_v_1]; exact rl_0
    obtain ⟨v_3, m_v_3, r_v_3⟩ := ((hp_v_1.2.1 c9_v_1).1)
    refine lv_if_ne (tgt := 9) hx hb dX10_readBracket_4 (by decide) (fun c_4 => ?_) (fun c_4 => ?_)
    · exact absurd (r_v_1.eq.trans rl_0.eq.symm) ((ti_ne c_4))
    · refine lv_iconst (v := 0) hx hb dX10_readBracket_7 (by decide) ?_
      simp only [f_X10_readBracket__9, ↓reduceIte, q_sg_2, q_v_1, eq_true c9_v_1, eq_true c_4] at hE
      subst hQ
      exact W.zret (v := 0) hx hb hr (rfl) (fun t ht hW => ⟨⟨0, ws, rfl, ⟨⟨⟨(by rw [hR, ← hE]; exact o_p0), (by rw [hR, ← hE]), trivial⟩, rl_0.to (by decide), (fun h0 => ⟨⟨_, m_v_3, r_v_3⟩, trivial⟩), (fun h0 => absurd rfl h0)⟩, hw.1, hw.2.2.2.2.1⟩, by rw [ht]; exact hw.2.1, va_K.moved hW.alike hK, hw.2.2.1⟩, hw.2.2.2.1.F ht⟩) hw.2.2.2.1.2.2 dX10_readBracket_8
  · have r_v_1 : RI v_1 1 1 := rc_neL r_v_1 rl_0 (ti_ne c9_v_1) (by decide)
    obtain ⟨v_4, m_v_4, r_v_4⟩ := ((hp_v_1.2.2 c9_v_1).1)
    obtain ⟨v_5, m_v_5, r_v_5⟩ := ((hp_v_1.2.2 c9_v_1).2.1)
    obtain ⟨v_6, m_v_6, r_v_6⟩ := ((hp_v_1.2.2 c9_v_1).2.2.1)
    have x_SNT_p0_gd_2_gh_1_gg := ((hp_v_1.2.2 c9_v_1).2.2.2.1)
    refine lv_if_ne (tgt := 9) hx hb dX10_readBracket_4 (by decide) (fun c_4 => ?_) (fun c_4 => ?_)
    · refine lv_aload_n hx hb dX10_readBracket_9 rfl (lv_at hl 0 rfl) ?_
      refine lv_bipush (v := 41) hx hb dX10_readBracket_10 (by decide) ?_
      refine tk_ir (va_runV (As := [.int 41]) (rest := []) ⟨hx, hb, hml, hown, hts⟩ (c_X10_isSign__2 l D cy z H.size Ps ws hw.1 p0 41 sg_2 h_p0 (rl_41.to (by decide)) o_p0) (cwV 1 hts (gV tw_1413 tw_1415 ts_63 tw_15 tw_1416) rfl rfl rfl (by decide +kernel) ⟨Nat.le_of_ble_eq_true rfl, Nat.le_of_ble_eq_true rfl⟩) (tg_preV hw hK hSD hA (ci := 10) (q := (RX10, TX10, 49)) rfl h_p0 rfl) rfl rfl hl.1 rfl (lv_room (Nat.le_of_ble_eq_true rfl)) dX10_readBracket_12 ⟨Nat.le_of_ble_eq_true rfl, Nat.le_of_ble_eq_true rfl⟩) hw hA (fun v_7  H locs hp_v_7 hw => ?_)
      obtain ⟨hfn, hp_v_7⟩ := hp_v_7
      have q_v_7 : (f_X10_isSign__1 (41 : Int32) sg_2) = v_7 := hfn.1
      have r_v_7 : RI v_7 0 1 := hp_v_7.1
      by_cases c9_v_7 : v_7 = 0
      · have r_v_7 : RI v_7 0 0 := by rw [c9_v_7]; exact rl_0
        refine lv_if_ne (tgt := 24) hx hb dX10_readBracket_15 (by decide) (fun c_15 => ?_) (fun c_15 => ?_)
        · exact absurd (r_v_7.eq.trans rl_0.eq.symm) ((ti_ne c_15))
        · refine lv_aload_n hx hb dX10_readBracket_18 rfl (lv_at hl 0 rfl) ?_
          refine lv_iconst (v := 1) hx hb dX10_readBracket_19 (by decide) ?_
          refine tk_i (va_runV (As := [.int 1]) (rest := []) ⟨hx, hb, hml, hown, hts⟩ (c_X10_bad__2 l D cy z H.size Ps ws hw.1 p0 1 sg_2 h_p0 (rl_1.to (by decide)) o_p0) (cwV 1 hts (gV tw_1336 tw_1338 ts_46 tw_15 tw_1339) rfl rfl rfl (by decide +kernel) ⟨Nat.le_of_ble_eq_true rfl, Nat.le_of_ble_eq_true rfl⟩) (tg_preV hw hK hSD hA (ci := 10) (q := (RX10, TX10, 49)) rfl h_p0 rfl) rfl rfl hl.1 rfl (lv_room (Nat.le_of_ble_eq_true rfl)) dX10_readBracket_20 ⟨Nat.le_of_ble_eq_true rfl, Nat.le_of_ble_eq_true rfl⟩) hw hA ⟨by decide, by decide⟩ (fun v_8 ws H locs hp_v_8 hw hF9 => ?_)
          have m_v_4 := FLD.over hF9 m_v_4 (by decide)
          have m_v_5 := FLD.over hF9 m_v_5 (by decide)
          have m_v_6 := FLD.over hF9 m_v_6 (by decide)
          have x_SNT_p0_gd_2_gh_1_gg := SNT.over hF9 x_SNT_p0_gd_2_gh_1_gg (by decide)
          obtain ⟨hfn, hp_v_8⟩ := hp_v_8
          obtain ⟨sg_9, q_sg_9⟩ : ∃ q9 : OS, (f_X10_bad__1 (1 : Int32) sg_2).1 = q9 := ⟨_, rfl⟩
          have o_p0 : OV vw_M2 Ps ws p0 sg_9 := by rw [← q_sg_9]; exact hfn.1
          have q_v_8 : (f_X10_bad__1 (1 : Int32) sg_2).2 = v_8 := hfn.2.1
          have r_v_8 : RI v_8 0 0 := hp_v_8.1
          simp only [f_X10_readBracket__9, ↓reduceIte, q_sg_2, q_v_1, eq_false c9_v_1, eq_false c_4, q_v_7, eq_true c9_v_7, eq_true c_15, q_sg_9, q_v_8] at hE
          subst hQ
          exact W.zret (v := v_8) hx hb hr (tq_nz (r_v_8.to (by decide))) (fun t ht hW => ⟨⟨v_8, ws, rfl, ⟨⟨⟨(by rw [hR, ← hE]; exact o_p0), (by rw [hR, ← hE]), trivial⟩, r_v_8.to (by decide), (fun h0 => ⟨⟨_, m_v_5, r_v_5⟩, trivial⟩), (fun h0 => absurd (Int32.toInt_inj.mp (by have h8 := r_v_8; unfold RI at h8; rw [Int32.toInt_zero]; omega)) h0)⟩, hw.1, hw.2.2.2.2.1⟩, by rw [ht]; exact hw.2.1, va_K.moved hW.alike hK, hw.2.2.1⟩, hw.2.2.2.1.F ht⟩) hw.2.2.2.1.2.2 dX10_readBracket_23
      · have r_v_7 : RI v_7 1 1 := rc_neL r_v_7 rl_0 (ti_ne c9_v_7) (by decide)
        obtain ⟨v_10, m_v_10, r_v_10⟩ := ((hp_v_7.2.2 c9_v_7).1)
        refine lv_if_ne (tgt := 24) hx hb dX10_readBracket_15 (by decide) (fun c_15 => ?_) (fun c_15 => ?_)
        · refine lv_aload_n hx hb dX10_readBracket_24 rfl (lv_at hl 0 rfl) ?_
          refine tk_v (va_runV (As := []) (rest := []) ⟨hx, hb, hml, hown, hts⟩ (c_X10_go__4 l D cy z H.size Ps ws hw.1 p0 sg_2 h_p0 o_p0) (cwV 0 hts (gV tw_1298 tw_1300 ts_40 tw_15 tw_1301) rfl rfl rfl (by decide +kernel) ⟨Nat.le_of_ble_eq_true rfl, Nat.le_of_ble_eq_true rfl⟩) (tg_preV hw hK hSD hA (ci := 10) (q := (RX10, TX10, 49)) rfl h_p0 rfl) rfl rfl hl.1 rfl (lv_room (Nat.le_of_ble_eq_true rfl)) dX10_readBracket_25 ⟨Nat.le_of_ble_eq_true rfl, Nat.le_of_ble_eq_true rfl⟩) hw hA ⟨by decide, by decide⟩ (fun ws H locs hp_v_11 hw hF9 => ?_)
          have m_v_4 := FLD.over hF9 m_v_4 (by decide)
          have m_v_5 := FLD.over hF9 m_v_5 (by decide)
          have m_v_6 := FLD.over hF9 m_v_6 (by decide)
          have x_SNT_p0_gd_2_gh_1_gg := SNT.over hF9 x_SNT_p0_gd_2_gh_1_gg (by decide)
          obtain ⟨hfn, hp_v_11⟩ := hp_v_11
          obtain ⟨sg_12, q_sg_12⟩ : ∃ q9 : OS, (f_X10_go__2 sg_2) = q9 := ⟨_, rfl⟩
          have o_p0 : OV vw_M2 Ps ws p0 sg_12 := by rw [← q_sg_12]; exact hfn.1
          have x_SNT_p0_gd_gh_gg : SNT ws p0 (gd) (gh) (gg) := x_SNT_p0_gd_2_gh_1_gg.weak (by have d_8 := SNp.le x_SNI_p0_gd_gh_gg.2; have d_7 := x_SNI_p0_gd_gh_gg.1; omega)
          refine lv_iconst (v := 1) hx hb dX10_readBracket_28 (by decide) ?_
          simp only [f_X10_readBracket__9, ↓reduceIte, q_sg_2, q_v_1, eq_false c9_v_1, eq_false c_4, q_v_7, eq_false c9_v_7, eq_false c_15, q_sg_12] at hE
          subst hQ
          exact W.zret (v := 1) hx hb hr (rfl) (fun t ht hW => ⟨⟨1, ws, rfl, ⟨⟨⟨(by rw [hR, ← hE]; exact o_p0), (by rw [hR, ← hE]), trivial⟩, rl_1.to (by decide), (fun h0 => absurd h0 (by decide)), (fun h0 => ⟨⟨_, m_v_4, r_v_4⟩, ⟨_, m_v_5, r_v_5⟩, ⟨_, m_v_6, r_v_6⟩, x_SNT_p0_gd_gh_gg, trivial⟩)⟩, hw.1, hw.2.2.2.2.1⟩, by rw [ht]; exact hw.2.1, va_K.moved hW.alike hK, hw.2.2.1⟩, hw.2.2.2.1.F ht⟩) hw.2.2.2.1.2.2 dX10_readBracket_29
        · have r_v_7 : RI v_7 1 0 := rc_eq1 r_v_7 rl_0 (ti_eq c_15) (by decide)
          exact (r_v_7.no (by decide)).elim
    · have r_v_1 : RI v_1 1 0 := rc_eq1 r_v_1 rl_0 (ti_eq c_4) (by decide)
      exact (r_v_1.no (by decide)).elim
abbrev wr_X10_readNot__14 : List (Nat × Nat) := [(10, 5), (10, 6), (10, 7), (10, 8), (10, 9), (10, 10), (10, 11), (10, 12), (10, 13), (10, 45), (10, 46), (10, 47), (10, 48)]
abbrev wa_X10_readNot__14 : List Nat := [54]
set_option maxHeartbeats 4000000 in
set_option maxRecDepth 100000 in
theorem c_X10_readNot__14 (l : Launch) (D : va_G) (cy : Nat → ClassId) (z : Nat → Nat) (sz : Nat) (Ps : PSI) (w0 : va_W) (hT : HT cy GG Ps w0) (p0 : Nat) (f0_47 : Int32) (gd : Int) (gh : Int) (gg : Int) (s0 : OS) (h_p0 : (p0, 55) ∈ Ps) (r_f0_47 : RI f0_47 2 2) (m_f0_47 : FLD w0 p0 10 47 (.int f0_47)) (x_SNI_p0_gd_gh_gg : SNI w0 p0 (gd) (gh) (gg)) (o_p0 : OV vw_M2 Ps w0 p0 s0) : Met l yX10_readNot (Cond.code yX10_readNot cX10_readNot 1 (some .boolean) :: gT) ({ frames := 29, cells := 0, slots := 0, locals := 5800 } : Room) (va_Pc [.ref p0] (PRE D cy z w0 sz)) (va_Qi (fun (r : Int32) (u : va_W) => ((OV vw_M2 Ps u p0 ((f_X10_readNot__14 s0).1) ∧ (f_X10_readNot__14 s0).2 = r ∧ True) ∧ (RI r 0 1 ∧ (r = 0 → (∃ v9 : Int32, FLD u p0 10 47 (.int v9) ∧ RI v9 2 2) ∧ True) ∧ (¬ r = 0 → (∃ v9 : Int32, FLD u p0 10 46 (.int v9) ∧ RI v9 1 20) ∧ (∃ v9 : Int32, FLD u p0 10 47 (.int v9) ∧ RI v9 2 2) ∧ (∃ v9 : Int32, FLD u p0 10 48 (.int v9) ∧ RI v9 0 39) ∧ SNT u p0 (gd) (gh) (gg) ∧ True))) ∧ HT cy GG Ps u ∧ FR wr_X10_readNot__14 wa_X10_readNot__14 Ps w0 u) (BB D cy (va_A w0 sz) (fun (u : va_W) => u)) (va_A w0 sz)) 0 0 (va_A w0 sz) := by
  refine Met.ofW (cc := cX10_readNot) (maxL := 1) (ret := (some .boolean)) (by decide) rfl ?_
  intro p e s m args below meth c s₁ B hml hv
  obtain ⟨rfl, hsz, hP, hK, hD0, hSD⟩ := hv
  have hx := B.exec
  have hb := B.bytes
  have hr := B.returns
  have hlocks := B.notSynchronized
  have hts : ∀ w ∈ gT, w.before _ s = true := fun w h => atoms_spec (ws := Cond.code yX10_readNot cX10_readNot 1 (some .boolean) :: gT) B.pre w (List.mem_cons_of_mem _ h)
  have hown : s.vm.findClass RX10 = some m.cls := findClass_of_methodNamed B.named
  subst hsz
  have hD := hD0.self (sz := s.heap.size)
  generalize hAe : va_A w0 s.heap.size = A at hD hSD ⊢
  have hA : ∀ q : Nat, s.heap.size ≤ q → A q := fun q h => by rw [← hAe]; exact Or.inr h
  have hl := lv_entry ([.ref p0]) (n := 1) (Nat.le_of_ble_eq_true rfl)
  rw [lg_entry_eq]
  generalize (lg_sl ([.ref p0]) ++ List.replicate (1 - (lg_sl ([.ref p0])).length) Slot.unset).toArray = ls at hl ⊢
  have hl : lv_has ls 1 [(0, .ref p0)] := hl
  refine nameQ (fun Q hQ => ?_)
  have hw : WD D cy GG A s wr_X10_readNot__14 wa_X10_readNot__14 Ps w0 Ps w0 s.heap [] := ⟨hT, hP, hD, va_S.rf, FR.rf, hT.1, [], (List.append_nil _).symm⟩
  obtain ⟨R9, hR⟩ : ∃ q9 : OS × Int32, f_X10_readNot__14 s0 = q9 := ⟨_, rfl⟩
  have hE := hR
  refine lv_aload_n hx hb dX10_readNot_0 rfl (lv_at hl 0 rfl) ?_
  have x_SN_p0_gd_1_gh_gg : SNp w0 p0 (gd+1) (gh) (gg) := x_SNI_p0_gd_gh_gg.2
  refine tk_i (va_runV (As := []) (rest := []) ⟨hx, hb, hml, hown, hts⟩ (c_X10_readSaid__11 l D cy z s.heap.size Ps w0 hw.1 p0 f0_47 (gd+1) (gh) (gg) s0 h_p0 r_f0_47 m_f0_47 x_SN_p0_gd_1_gh_gg o_p0) (cwV 0 hts (gV tw_1759 tw_1761 ts_113 tw_15 tw_1762) rfl rfl rfl (by decide +kernel) ⟨Nat.le_of_ble_eq_true rfl, Nat.le_of_ble_eq_true rfl⟩) (tg_preV hw hK hSD hA (ci := 10) (q := (RX10, TX10, 49)) rfl h_p0 rfl) rfl rfl hl.1 rfl (lv_room (Nat.le_of_ble_eq_true rfl)) dX10_readNot_1 ⟨Nat.le_of_ble_eq_true rfl, Nat.le_of_ble_eq_true rfl⟩) hw hA ⟨by decide, by decide⟩ (fun v_1 ws H locs hp_v_1 hw hF9 => ?_)
  obtain ⟨hfn, hp_v_1⟩ := hp_v_1
  obtain ⟨sg_2, q_sg_2⟩ : ∃ q9 : OS, (f_X10_readSaid__11 s0).1 = q9 := ⟨_, rfl⟩
  have o_p0 : OV vw_M2 Ps ws p0 sg_2 := by rw [← q_sg_2]; exact hfn.1
  have q_v_1 : (f_X10_readSaid__11 s0).2 = v_1 := hfn.2.1
  have r_v_1 : RI v_1 0 1 := hp_v_1.1
  by_cases c9_v_1 : v_1 = 0
  · have r_v_1 : RI v_1 0 0 := by rw [c9_v_1]; exact rl_0
    obtain ⟨v_3, m_v_3, r_v_3⟩ := ((hp_v_1.2.1 c9_v_1).1)
    refine lv_if_ne (tgt := 9) hx hb dX10_readNot_4 (by decide) (fun c_4 => ?_) (fun c_4 => ?_)
    · exact absurd (r_v_1.eq.trans rl_0.eq.symm) ((ti_ne c_4))
    · refine lv_iconst (v := 0) hx hb dX10_readNot_7 (by decide) ?_
      simp only [f_X10_readNot__14, ↓reduceIte, q_sg_2, q_v_1, eq_true c9_v_1, eq_true c_4] at hE
      subst hQ
      exact W.zret (v := 0) hx hb hr (rfl) (fun t ht hW => ⟨⟨0, ws, rfl, ⟨⟨⟨(by rw [hR, ← hE]; exact o_p0), (by rw [hR, ← hE]), trivial⟩, rl_0.to (by decide), (fun h0 => ⟨⟨_, m_v_3, r_v_3⟩, trivial⟩), (fun h0 => absurd rfl h0)⟩, hw.1, hw.2.2.2.2.1⟩, by rw [ht]; exact hw.2.1, va_K.moved hW.alike hK, hw.2.2.1⟩, hw.2.2.2.1.F ht⟩) hw.2.2.2.1.2.2 dX10_readNot_8
  · have r_v_1 : RI v_1 1 1 := rc_neL r_v_1 rl_0 (ti_ne c9_v_1) (by decide)
    obtain ⟨v_4, m_v_4, r_v_4⟩ := ((hp_v_1.2.2 c9_v_1).1)
    obtain ⟨v_5, m_v_5, r_v_5⟩ := ((hp_v_1.2.2 c9_v_1).2.1)
    obtain ⟨v_6, m_v_6, r_v_6⟩ := ((hp_v_1.2.2 c9_v_1).2.2.1)
    have x_SNT_p0_gd_2_gh_1_gg := ((hp_v_1.2.2 c9_v_1).2.2.2.1)
    refine lv_if_ne (tgt := 9) hx hb dX10_readNot_4 (by decide) (fun c_4 => ?_) (fun c_4 => ?_)
    · refine lv_aload_n hx hb dX10_readNot_9 rfl (lv_at hl 0 rfl) ?_
      refine lv_aload_n hx hb dX10_readNot_10 rfl (lv_at hl 0 rfl) ?_
      refine lv_iconst (v := 1) hx hb dX10_readNot_11 (by decide) ?_
      refine lv_aload_n hx hb dX10_readNot_12 rfl (lv_at hl 0 rfl) ?_
      refine tg_mem (ci := 10) (C := RX10) (T := TX10) (N := 49) hx hb hts inX10 hown hK hw 48 m_v_5 rfl (by decide) (hts _ tw_1185) (fun _ h9 => h9) dX10_readNot_13 ?_
      have q_v_5 : sg_2.1 48 = v_5 := OV.eqI (V := vw_M2) hw.2.2.1 o_p0 m_v_5 (by decide)
      refine lv_iconst (v := 0) hx hb dX10_readNot_16 (by decide) ?_
      refine lv_iconst (v := 0) hx hb dX10_readNot_17 (by decide) ?_
      have l9 := SNT.top hw x_SNT_p0_gd_2_gh_1_gg m_v_5
      have l8 := l9.le
      have x_SNI_p0_gd_1_gh_1_gg : SNI ws p0 (gd+1) (gh+1) (gg) := SNp.sni (SNT.sn x_SNT_p0_gd_2_gh_1_gg) (by have d_8 := SNp.le x_SNI_p0_gd_gh_gg.2; have d_7 := x_SNI_p0_gd_gh_gg.1; omega)
      have x_LTN_p0_v_5 : LTN ws p0 (v_5) := l9.ltn
      refine tk_i (va_runV (As := [.int 1, .int v_5, .int 0, .int 0]) (rest := [.ref p0]) ⟨hx, hb, hml, hown, hts⟩ (c_X10_saysOne__5 l D cy z H.size Ps ws hw.1 p0 1 v_5 0 0 (gd+1) (gh+1) (gg) sg_2 h_p0 rl_1 (r_v_5.to (by decide)) (rl_0.to (by decide)) (rl_0.to (by decide)) x_SNI_p0_gd_1_gh_1_gg x_LTN_p0_v_5 o_p0) (cwV 4 hts (gV tw_1771 tw_1773 ts_116 tw_15 tw_1774) rfl rfl rfl (by decide +kernel) ⟨Nat.le_of_ble_eq_true rfl, Nat.le_of_ble_eq_true rfl⟩) (tg_preV hw hK hSD hA (ci := 10) (q := (RX10, TX10, 49)) rfl h_p0 rfl) rfl rfl hl.1 rfl (lv_room (Nat.le_of_ble_eq_true rfl)) dX10_readNot_18 ⟨Nat.le_of_ble_eq_true rfl, Nat.le_of_ble_eq_true rfl⟩) hw hA ⟨by decide, by decide⟩ (fun v_7 ws H locs hp_v_7 hw hF9 => ?_)
      have m_v_4 := FLD.over hF9 m_v_4 (by decide)
      have m_v_5 := FLD.over hF9 m_v_5 (by decide)
      have m_v_6 := FLD.over hF9 m_v_6 (by decide)
      obtain ⟨hfn, hp_v_7⟩ := hp_v_7
      obtain ⟨sg_8, q_sg_8⟩ : ∃ q9 : OS, (f_X10_saysOne__3 (1 : Int32) v_5 (0 : Int32) (0 : Int32) sg_2).1 = q9 := ⟨_, rfl⟩
      have o_p0 : OV vw_M2 Ps ws p0 sg_8 := by rw [← q_sg_8]; exact hfn.1
      have q_v_7 : (f_X10_saysOne__3 (1 : Int32) v_5 (0 : Int32) (0 : Int32) sg_2).2 = v_7 := hfn.2.1
      have r_v_7 : RI v_7 0 39 := hp_v_7.1
      have x_SNL_p0_gd_1_gh_1_gg_v_7 := hp_v_7.2.2.2.1.1
      refine tg_put (ci := 10) (ts := ty_MODEL) (v := .int v_7) (ty := .int) (C := RX10) (T := TX10) (N := 49) hx hb hts inX10 tyX10 tyX10_ok nmX10 hown hK hw h_p0 rfl rfl 48 (by decide) (hts _ tw_1185) (fun _ h9 => h9) rfl (by decide +kernel) rfl rfl (ft := vI (-2147483648) 2147483647) rfl ⟨_, rfl, (r_v_7.to (by decide))⟩ (by decide) dX10_readNot_21 (fun ws H locs hw n_k_9 hF9 => ?_)
      have m_v_4 := FLD.over hF9 m_v_4 (by decide)
      have m_v_6 := FLD.over hF9 m_v_6 (by decide)
      have x_SNL_p0_gd_1_gh_1_gg_v_7 := SNL.over hF9 x_SNL_p0_gd_1_gh_1_gg_v_7 (by decide)
      obtain ⟨sg_10, q_sg_10⟩ : ∃ q9 : OS, sI sg_8 48 v_7 = q9 := ⟨_, rfl⟩
      have o_p0 : OV vw_M2 Ps ws p0 sg_10 := by rw [← q_sg_10]; exact OV.putI (V := vw_M2) hF9 n_k_9 o_p0 (by decide)
      have x_SNT_p0_gd_gh_gg : SNT ws p0 (gd) (gh) (gg) := (x_SNL_p0_gd_1_gh_1_gg_v_7.weak (d' := gd) (h' := gh) (g' := gg) (by have k1 := x_SNL_p0_gd_1_gh_1_gg_v_7.le; have d_8 := SNp.le x_SNI_p0_gd_gh_gg.2; have d_7 := x_SNI_p0_gd_gh_gg.1; omega)).snt n_k_9
      refine lv_iconst (v := 1) hx hb dX10_readNot_24 (by decide) ?_
      simp only [f_X10_readNot__14, ↓reduceIte, q_sg_2, q_v_1, eq_false c9_v_1, eq_false c_4, q_v_5, q_sg_8, q_v_7, q_sg_10] at hE
      subst hQ
      exact W.zret (v := 1) hx hb hr (rfl) (fun t ht hW => ⟨⟨1, ws, rfl, ⟨⟨⟨(by rw [hR, ← hE]; exact o_p0), (by rw [hR, ← hE]), trivial⟩, rl_1.to (by decide), (fun h0 => absurd h0 (by decide)), (fun h0 => ⟨⟨_, m_v_4, r_v_4⟩, ⟨_, m_v_6, r_v_6⟩, ⟨_, n_k_9, r_v_7⟩, x_SNT_p0_gd_gh_gg, trivial⟩)⟩, hw.1, hw.2.2.2.2.1⟩, by rw [ht]; exact hw.2.1, va_K.moved hW.alike hK, hw.2.2.1⟩, hw.2.2.2.1.F ht⟩) hw.2.2.2.1.2.2 dX10_readNot_25
    · have r_v_1 : RI v_1 1 0 := rc_eq1 r_v_1 rl_0 (ti_eq c_4) (by decide)
      exact (r_v_1.no (by decide)).elim
abbrev wr_X10_readSaid__10 : List (Nat × Nat) := [(10, 5), (10, 6), (10, 7), (10, 8), (10, 9), (10, 10), (10, 11), (10, 12), (10, 13), (10, 45), (10, 46), (10, 47), (10, 48)]
abbrev wa_X10_readSaid__10 : List Nat := [54]
set_option maxHeartbeats 4000000 in
set_option maxRecDepth 100000 in
theorem c_X10_readSaid__10 (l : Launch) (D : va_G) (cy : Nat → ClassId) (z : Nat → Nat) (sz : Nat) (Ps : PSI) (w0 : va_W) (hT : HT cy GG Ps w0) (p0 : Nat) (f0_47 : Int32) (gd : Int) (gh : Int) (gg : Int) (s0 : OS) (h_p0 : (p0, 55) ∈ Ps) (r_f0_47 : RI f0_47 1 1) (m_f0_47 : FLD w0 p0 10 47 (.int f0_47)) (x_SN_p0_gd_gh_gg : SNp w0 p0 (gd) (gh) (gg)) (o_p0 : OV vw_M2 Ps w0 p0 s0) : Met l yX10_readSaid (Cond.code yX10_readSaid cX10_readSaid 4 (some .boolean) :: gT) ({ frames := 32, cells := 0, slots := 0, locals := 6400 } : Room) (va_Pc [.ref p0] (PRE D cy z w0 sz)) (va_Qi (fun (r : Int32) (u : va_W) => ((OV vw_M2 Ps u p0 ((f_X10_readSaid__10 s0).1) ∧ (f_X10_readSaid__10 s0).2 = r ∧ True) ∧ (RI r 0 1 ∧ (r = 0 → (∃ v9 : Int32, FLD u p0 10 47 (.int v9) ∧ RI v9 1 1) ∧ True) ∧ (¬ r = 0 → (∃ v9 : Int32, FLD u p0 10 46 (.int v9) ∧ RI v9 1 20) ∧ (∃ v9 : Int32, FLD u p0 10 48 (.int v9) ∧ RI v9 0 39) ∧ (∃ v9 : Int32, FLD u p0 10 47 (.int v9) ∧ RI v9 1 1) ∧ SNT u p0 (gd+1) (gh+1) (gg) ∧ True))) ∧ HT cy GG Ps u ∧ FR wr_X10_readSaid__10 wa_X10_readSaid__10 Ps w0 u) (BB D cy (va_A w0 sz) (fun (u : va_W) => u)) (va_A w0 sz)) 0 0 (va_A w0 sz) := by
  refine Met.ofW (cc := cX10_readSaid) (maxL := 4) (ret := (some .boolean)) (by decide) rfl ?_
  intro p e s m args below meth c s₁ B hml hv
  obtain ⟨rfl, hsz, hP, hK, hD0, hSD⟩ := hv
  have hx := B.exec
  have hb := B.bytes
  have hr := B.returns
  have hlocks := B.notSynchronized
  have hts : ∀ w ∈ gT, w.before _ s = true := fun w h => atoms_spec (ws := Cond.code yX10_readSaid cX10_readSaid 4 (some .boolean) :: gT) B.pre w (List.mem_cons_of_mem _ h)
  have hown : s.vm.findClass RX10 = some m.cls := findClass_of_methodNamed B.named
  subst hsz
  have hD := hD0.self (sz := s.heap.size)
  generalize hAe : va_A w0 s.heap.size = A at hD hSD ⊢
  have hA : ∀ q : Nat, s.heap.size ≤ q → A q := fun q h => by rw [← hAe]; exact Or.inr h
  have hl := lv_entry ([.ref p0]) (n := 4) (Nat.le_of_ble_eq_true rfl)
  rw [lg_entry_eq]
  generalize (lg_sl ([.ref p0]) ++ List.replicate (4 - (lg_sl ([.ref p0])).length) Slot.unset).toArray = ls at hl ⊢
  have hl : lv_has ls 4 [(0, .ref p0)] := hl
  refine nameQ (fun Q hQ => ?_)
  have hw : WD D cy GG A s wr_X10_readSaid__10 wa_X10_readSaid__10 Ps w0 Ps w0 s.heap [] := ⟨hT, hP, hD, va_S.rf, FR.rf, hT.1, [], (List.append_nil _).symm⟩
  obtain ⟨R9, hR⟩ : ∃ q9 : OS × Int32, f_X10_readSaid__10 s0 = q9 := ⟨_, rfl⟩
  have hE := hR
  have B30 : ∀ (x1 : Int32) (x2 : Int32) (z0_47 : Int32) (s0 : OS) (ws : va_W) (H : Heap) (locs : List Loc) (ls : Array Slot), RI x1 0 1 → RI x2 18 28 → RI z0_47 1 1 → FLD ws p0 10 47 (.int z0_47) → SNp ws p0 (gd) (gh) (gg) → OV vw_M2 Ps ws p0 s0 → f_X10_readSaid__10_30 x1 x2 s0 = R9 → WD D cy GG A s wr_X10_readSaid__10 wa_X10_readSaid__10 Ps w0 Ps ws H locs → lv_has ls 4 [(0, .ref p0), (1, .int x1), (2, .int x2)] → W p l e (headSpec (Cond.code yX10_readSaid cX10_readSaid 4 (some .boolean) :: gT) ({ frames := 32, cells := 0, slots := 0, locals := 6400 } : Room)).room s m ([.ref p0] : List Value).toArray below meth c H locs 0 0 Q (F0 m 30 ls []) := by
    intro x1 x2 z0_47 s0 ws H locs ls r_x1 r_x2 r_z0_47 m_z0_47 x_SN_p0_gd_gh_gg o_p0 hE hw hl
    have q_z0_47 : s0.1 47 = z0_47 := OV.eqI (V := vw_M2) hw.2.2.1 o_p0 m_z0_47 (by decide)
    refine lv_iload_n hx hb dX10_readSaid_30 rfl (lv_at hl 1 rfl) ?_
    refine lv_if_ne (tgt := 46) hx hb dX10_readSaid_31 (by decide) (fun c_31 => ?_) (fun c_31 => ?_)
    · have r_x1 : RI x1 1 1 := rc_neL r_x1 rl_0 (ti_ne c_31) (by decide)
      refine lv_aload_n hx hb dX10_readSaid_46 rfl (lv_at hl 0 rfl) ?_
      refine tg_get (ci := 10) (ts := ty_MODEL) (C := RX10) (T := TX10) (N := 49) hx hb hts inX10 hown hK hw h_p0 rfl rfl 46 (by decide) (hts _ tw_1183) (fun _ h9 => h9) (ft := vI (-2147483648) 2147483647) rfl dX10_readSaid_47 (fun u_1 hv_u_1 m_u_1 => ?_)
      obtain ⟨vu_1, rfl, r_vu_1⟩ := hv_u_1
      have q_vu_1 : s0.1 46 = vu_1 := OV.eqI (V := vw_M2) hw.2.2.1 o_p0 m_u_1 (by decide)
      obtain ⟨n9, hn9, rn9, r_vu_1, b9⟩ := SNp.getO hw x_SN_p0_gd_gh_gg m_u_1
      refine lv_bipush (v := 20) hx hb dX10_readSaid_50 (by decide) ?_
      refine lv_icmp_eq (tgt := 64) hx hb dX10_readSaid_52 (by decide) (fun c_52 => ?_) (fun c_52 => ?_)
      · have r_vu_1 : RI vu_1 20 20 := rc_eq1 r_vu_1 rl_20 (ti_eq c_52) (by decide)
        refine lv_aload_n hx hb dX10_readSaid_64 rfl (lv_at hl 0 rfl) ?_
        refine lv_iconst (v := 4) hx hb dX10_readSaid_65 (by decide) ?_
        refine tk_i (va_runV (As := [.int 4]) (rest := []) ⟨hx, hb, hml, hown, hts⟩ (c_X10_bad__2 l D cy z H.size Ps ws hw.1 p0 4 s0 h_p0 (rl_4.to (by decide)) o_p0) (cwV 1 hts (gV tw_1336 tw_1338 ts_46 tw_15 tw_1339) rfl rfl rfl (by decide +kernel) ⟨Nat.le_of_ble_eq_true rfl, Nat.le_of_ble_eq_true rfl⟩) (tg_preV hw hK hSD hA (ci := 10) (q := (RX10, TX10, 49)) rfl h_p0 rfl) rfl rfl hl.1 rfl (lv_room (Nat.le_of_ble_eq_true rfl)) dX10_readSaid_66 ⟨Nat.le_of_ble_eq_true rfl, Nat.le_of_ble_eq_true rfl⟩) hw hA ⟨by decide, by decide⟩ (fun v_2 ws H locs hp_v_2 hw hF9 => ?_)
        have m_z0_47 := FLD.over hF9 m_z0_47 (by decide)
        have m_u_1 := FLD.over hF9 m_u_1 (by decide)
        have hn9 := FLD.over hF9 hn9 (by decide)
        have x_SN_p0_gd_gh_gg := SNp.over hF9 x_SN_p0_gd_gh_gg (by decide)
        obtain ⟨hfn, hp_v_2⟩ := hp_v_2
        obtain ⟨sg_3, q_sg_3⟩ : ∃ q9 : OS, (f_X10_bad__1 (4 : Int32) s0).1 = q9 := ⟨_, rfl⟩
        have o_p0 : OV vw_M2 Ps ws p0 sg_3 := by rw [← q_sg_3]; exact hfn.1
        have q_v_2 : (f_X10_bad__1 (4 : Int32) s0).2 = v_2 := hfn.2.1
        have r_v_2 : RI v_2 0 0 := hp_v_2.1
        simp only [f_X10_readSaid__10_30, ↓reduceIte, q_z0_47, eq_false c_31, q_vu_1, eq_true c_52, q_sg_3, q_v_2] at hE
        subst hQ
        exact W.zret (v := v_2) hx hb hr (tq_nz (r_v_2.to (by decide))) (fun t ht hW => ⟨⟨v_2, ws, rfl, ⟨⟨⟨(by rw [hR, ← hE]; exact o_p0), (by rw [hR, ← hE]), trivial⟩, r_v_2.to (by decide), (fun h0 => ⟨⟨_, m_z0_47, r_z0_47⟩, trivial⟩), (fun h0 => absurd (Int32.toInt_inj.mp (by have h8 := r_v_2; unfold RI at h8; rw [Int32.toInt_zero]; omega)) h0)⟩, hw.1, hw.2.2.2.2.1⟩, by rw [ht]; exact hw.2.1, va_K.moved hW.alike hK, hw.2.2.1⟩, hw.2.2.2.1.F ht⟩) hw.2.2.2.1.2.2 dX10_readSaid_69
      · have r_vu_1 : RI vu_1 0 19 := rc_neU r_vu_1 rl_20 (ti_ne c_52) (by decide)
        refine lv_aload_n hx hb dX10_readSaid_55 rfl (lv_at hl 0 rfl) ?_
        refine tg_mem (ci := 10) (C := RX10) (T := TX10) (N := 49) hx hb hts inX10 hown hK hw 47 m_z0_47 rfl (by decide) (hts _ tw_1184) (fun _ h9 => h9) dX10_readSaid_56 ?_
        refine lv_bipush (v := 8) hx hb dX10_readSaid_59 (by decide) ?_
        refine lv_icmp_ne (tgt := 70) hx hb dX10_readSaid_61 (by decide) (fun c_61 => ?_) (fun c_61 => ?_)
        · refine lv_aload_n hx hb dX10_readSaid_70 rfl (lv_at hl 0 rfl) ?_
          refine lv_dup hx hb dX10_readSaid_71 rfl ?_
          refine tg_mem (ci := 10) (C := RX10) (T := TX10) (N := 49) hx hb hts inX10 hown hK hw 46 m_u_1 rfl (by decide) (hts _ tw_1183) (fun _ h9 => h9) dX10_readSaid_72 ?_
          refine lv_iconst (v := 1) hx hb dX10_readSaid_75 (by decide) ?_
          refine lv_iadd hx hb dX10_readSaid_76 (lv_topi (fun v_4 e_v_4 => ?_))
          obtain ⟨t_v_4, r_v_4⟩ := tq_add (lo := 1) (hi := 20) r_vu_1 rl_1 (by decide +kernel) e_v_4
          have t_v_4 : v_4.toInt = vu_1.toInt + 1 := t_v_4
          have q_v_4 : vu_1 + (1 : Int32) = v_4 := e_v_4.symm
          refine tg_put (ci := 10) (ts := ty_MODEL) (v := .int v_4) (ty := .int) (C := RX10) (T := TX10) (N := 49) hx hb hts inX10 tyX10 tyX10_ok nmX10 hown hK hw h_p0 rfl rfl 46 (by decide) (hts _ tw_1183) (fun _ h9 => h9) rfl (by decide +kernel) rfl rfl (ft := vI (-2147483648) 2147483647) rfl ⟨_, rfl, (r_v_4.to (by decide))⟩ (by decide) dX10_readSaid_77 (fun ws H locs hw n_k_5 hF9 => ?_)
          have m_z0_47 := FLD.over hF9 m_z0_47 (by decide)
          have hn9 := FLD.over hF9 hn9 (by decide)
          obtain ⟨sg_6, q_sg_6⟩ : ∃ q9 : OS, sI s0 46 v_4 = q9 := ⟨_, rfl⟩
          have o_p0 : OV vw_M2 Ps ws p0 sg_6 := by rw [← q_sg_6]; exact OV.putI (V := vw_M2) hF9 n_k_5 o_p0 (by decide)
          have x_SNI_p0_gd_1_gh_1_gg : SNI ws p0 (gd+1) (gh+1) (gg) := ⟨by omega, _, _, hn9, n_k_5, by have k1 := rn9.1; have k2 := r_v_4.2; omega⟩
          refine lv_aload_n hx hb dX10_readSaid_80 rfl (lv_at hl 0 rfl) ?_
          refine lv_dup hx hb dX10_readSaid_81 rfl ?_
          refine tg_mem (ci := 10) (C := RX10) (T := TX10) (N := 49) hx hb hts inX10 hown hK hw 47 m_z0_47 rfl (by decide) (hts _ tw_1184) (fun _ h9 => h9) dX10_readSaid_82 ?_
          refine lv_iconst (v := 1) hx hb dX10_readSaid_85 (by decide) ?_
          refine lv_iadd hx hb dX10_readSaid_86 (lv_topi (fun v_7 e_v_7 => ?_))
          obtain ⟨t_v_7, r_v_7⟩ := tq_add (lo := 2) (hi := 2) r_z0_47 rl_1 (by decide +kernel) e_v_7
          have t_v_7 : v_7.toInt = z0_47.toInt + 1 := t_v_7
          have q_v_7 : z0_47 + (1 : Int32) = v_7 := e_v_7.symm
          refine tg_put (ci := 10) (ts := ty_MODEL) (v := .int v_7) (ty := .int) (C := RX10) (T := TX10) (N := 49) hx hb hts inX10 tyX10 tyX10_ok nmX10 hown hK hw h_p0 rfl rfl 47 (by decide) (hts _ tw_1184) (fun _ h9 => h9) rfl (by decide +kernel) rfl rfl (ft := vI (-2147483648) 2147483647) rfl ⟨_, rfl, (r_v_7.to (by decide))⟩ (by decide) dX10_readSaid_87 (fun ws H locs hw n_k_8 hF9 => ?_)
          have hn9 := FLD.over hF9 hn9 (by decide)
          have n_k_5 := FLD.over hF9 n_k_5 (by decide)
          have x_SNI_p0_gd_1_gh_1_gg := SNI.over hF9 x_SNI_p0_gd_1_gh_1_gg (by decide)
          obtain ⟨sg_9, q_sg_9⟩ : ∃ q9 : OS, sI sg_6 47 v_7 = q9 := ⟨_, rfl⟩
          have o_p0 : OV vw_M2 Ps ws p0 sg_9 := by rw [← q_sg_9]; exact OV.putI (V := vw_M2) hF9 n_k_8 o_p0 (by decide)
          refine lv_aload_n hx hb dX10_readSaid_90 rfl (lv_at hl 0 rfl) ?_
          refine tk_v (va_runV (As := []) (rest := []) ⟨hx, hb, hml, hown, hts⟩ (c_X10_go__4 l D cy z H.size Ps ws hw.1 p0 sg_9 h_p0 o_p0) (cwV 0 hts (gV tw_1298 tw_1300 ts_40 tw_15 tw_1301) rfl rfl rfl (by decide +kernel) ⟨Nat.le_of_ble_eq_true rfl, Nat.le_of_ble_eq_true rfl⟩) (tg_preV hw hK hSD hA (ci := 10) (q := (RX10, TX10, 49)) rfl h_p0 rfl) rfl rfl hl.1 rfl (lv_room (Nat.le_of_ble_eq_true rfl)) dX10_readSaid_91 ⟨Nat.le_of_ble_eq_true rfl, Nat.le_of_ble_eq_true rfl⟩) hw hA ⟨by decide, by decide⟩ (fun ws H locs hp_v_10 hw hF9 => ?_)
          have hn9 := FLD.over hF9 hn9 (by decide)
          have n_k_5 := FLD.over hF9 n_k_5 (by decide)
          have n_k_8 := FLD.over hF9 n_k_8 (by decide)
          have x_SNI_p0_gd_1_gh_1_gg := SNI.over hF9 x_SNI_p0_gd_1_gh_1_gg (by decide)
          obtain ⟨hfn, hp_v_10⟩ := hp_v_10
          obtain ⟨sg_11, q_sg_11⟩ : ∃ q9 : OS, (f_X10_go__2 sg_9) = q9 := ⟨_, rfl⟩
          have o_p0 : OV vw_M2 Ps ws p0 sg_11 := by rw [← q_sg_11]; exact hfn.1
          refine lv_iconst (v := 1) hx hb dX10_readSaid_94 (by decide) ?_
          refine lv_istore_n (lv' := [(3, .int 1), (0, .ref p0), (1, .int x1), (2, .int x2)]) hx hb dX10_readSaid_95 rfl hl (by decide) rfl (fun ls hl => ?_)
          refine lv_iload_n hx hb dX10_readSaid_96 rfl (lv_at hl 2 rfl) ?_
          refine lv_if_eq (tgt := 108) hx hb dX10_readSaid_97 (by decide) (fun c_97 => ?_) (fun c_97 => ?_)
          · have r_x1 : RI x1 1 0 := rc_eq1 r_x1 rl_0 (ti_eq c_97) (by decide)
            exact (r_x1.no (by decide)).elim
          · refine lv_aload_n hx hb dX10_readSaid_100 rfl (lv_at hl 1 rfl) ?_
            refine tk_i (va_runV (As := []) (rest := []) ⟨hx, hb, hml, hown, hts⟩ (c_X10_readBracket__9 l D cy z H.size Ps ws hw.1 p0 v_7 (gd+1) (gh+1) (gg) sg_11 h_p0 r_v_7 n_k_8 x_SNI_p0_gd_1_gh_1_gg o_p0) (cwV 0 hts (gV tw_1763 tw_1765 ts_114 tw_15 tw_1766) rfl rfl rfl (by decide +kernel) ⟨Nat.le_of_ble_eq_true rfl, Nat.le_of_ble_eq_true rfl⟩) (tg_preV hw hK hSD hA (ci := 10) (q := (RX10, TX10, 49)) rfl h_p0 rfl) rfl rfl hl.1 rfl (lv_room (Nat.le_of_ble_eq_true rfl)) dX10_readSaid_101 ⟨Nat.le_of_ble_eq_true rfl, Nat.le_of_ble_eq_true rfl⟩) hw hA ⟨by decide, by decide⟩ (fun v_12 ws H locs hp_v_12 hw hF9 => ?_)
            obtain ⟨hfn, hp_v_12⟩ := hp_v_12
            obtain ⟨sg_13, q_sg_13⟩ : ∃ q9 : OS, (f_X10_readBracket__9 sg_11).1 = q9 := ⟨_, rfl⟩
            have o_p0 : OV vw_M2 Ps ws p0 sg_13 := by rw [← q_sg_13]; exact hfn.1
            have q_v_12 : (f_X10_readBracket__9 sg_11).2 = v_12 := hfn.2.1
            have r_v_12 : RI v_12 0 1 := hp_v_12.1
            by_cases c9_v_12 : v_12 = 0
            · have r_v_12 : RI v_12 0 0 := by rw [c9_v_12]; exact rl_0
              obtain ⟨v_14, m_v_14, r_v_14⟩ := ((hp_v_12.2.1 c9_v_12).1)
              refine lv_istore_n (lv' := [(3, .int v_12), (0, .ref p0), (1, .int x1), (2, .int x2)]) hx hb dX10_readSaid_104 rfl hl (by decide) rfl (fun ls hl => ?_)
              refine lv_goto (tgt := 166) hx hb dX10_readSaid_105 (by decide) ?_
              refine lv_aload_n hx hb dX10_readSaid_166 rfl (lv_at hl 1 rfl) ?_
              refine lv_dup hx hb dX10_readSaid_167 rfl ?_
              refine tg_mem (ci := 10) (C := RX10) (T := TX10) (N := 49) hx hb hts inX10 hown hK hw 47 m_v_14 rfl (by decide) (hts _ tw_1184) (fun _ h9 => h9) dX10_readSaid_168 ?_
              have q_v_14 : sg_13.1 47 = v_14 := OV.eqI (V := vw_M2) hw.2.2.1 o_p0 m_v_14 (by decide)
              refine lv_iconst (v := 1) hx hb dX10_readSaid_171 (by decide) ?_
              refine lv_isub hx hb dX10_readSaid_172 (lv_topi (fun v_15 e_v_15 => ?_))
              obtain ⟨t_v_15, r_v_15⟩ := tq_sub (lo := 1) (hi := 1) r_v_14 rl_1 (by decide +kernel) e_v_15
              have t_v_15 : v_15.toInt = v_14.toInt - 1 := t_v_15
              have q_v_15 : v_14 - (1 : Int32) = v_15 := e_v_15.symm
              refine tg_put (ci := 10) (ts := ty_MODEL) (v := .int v_15) (ty := .int) (C := RX10) (T := TX10) (N := 49) hx hb hts inX10 tyX10 tyX10_ok nmX10 hown hK hw h_p0 rfl rfl 47 (by decide) (hts _ tw_1184) (fun _ h9 => h9) rfl (by decide +kernel) rfl rfl (ft := vI (-2147483648) 2147483647) rfl ⟨_, rfl, (r_v_15.to (by decide))⟩ (by decide) dX10_readSaid_173 (fun ws H locs hw n_k_16 hF9 => ?_)
              obtain ⟨sg_17, q_sg_17⟩ : ∃ q9 : OS, sI sg_13 47 v_15 = q9 := ⟨_, rfl⟩
              have o_p0 : OV vw_M2 Ps ws p0 sg_17 := by rw [← q_sg_17]; exact OV.putI (V := vw_M2) hF9 n_k_16 o_p0 (by decide)
              refine lv_iload_n hx hb dX10_readSaid_176 rfl (lv_at hl 0 rfl) ?_
              simp only [f_X10_readSaid__10_30, ↓reduceIte, q_z0_47, eq_false c_31, q_vu_1, eq_false c_52, eq_false c_61, q_v_4, q_sg_6, q_v_7, q_sg_9, q_sg_11, eq_false c_97, q_sg_13, q_v_12, eq_true c9_v_12, q_v_14, q_v_15, q_sg_17] at hE
              subst hQ
              exact W.zret (v := v_12) hx hb hr (tq_nz (r_v_12.to (by decide))) (fun t ht hW => ⟨⟨v_12, ws, rfl, ⟨⟨⟨(by rw [hR, ← hE]; exact o_p0), (by rw [hR, ← hE]), trivial⟩, r_v_12.to (by decide), (fun h0 => ⟨⟨_, n_k_16, r_v_15⟩, trivial⟩), (fun h0 => absurd (Int32.toInt_inj.mp (by have h8 := r_v_12; unfold RI at h8; rw [Int32.toInt_zero]; omega)) h0)⟩, hw.1, hw.2.2.2.2.1⟩, by rw [ht]; exact hw.2.1, va_K.moved hW.alike hK, hw.2.2.1⟩, hw.2.2.2.1.F ht⟩) hw.2.2.2.1.2.2 dX10_readSaid_177
            · have r_v_12 : RI v_12 1 1 := rc_neL r_v_12 rl_0 (ti_ne c9_v_12) (by decide)
              obtain ⟨v_18, m_v_18, r_v_18⟩ := ((hp_v_12.2.2 c9_v_12).1)
              obtain ⟨v_19, m_v_19, r_v_19⟩ := ((hp_v_12.2.2 c9_v_12).2.1)
              obtain ⟨v_20, m_v_20, r_v_20⟩ := ((hp_v_12.2.2 c9_v_12).2.2.1)
              have x_SNT_p0_gd_1_gh_1_gg := ((hp_v_12.2.2 c9_v_12).2.2.2.1)
              refine lv_istore_n (lv' := [(3, .int v_12), (0, .ref p0), (1, .int x1), (2, .int x2)]) hx hb dX10_readSaid_104 rfl hl (by decide) rfl (fun ls hl => ?_)
              refine lv_goto (tgt := 166) hx hb dX10_readSaid_105 (by decide) ?_
              refine lv_aload_n hx hb dX10_readSaid_166 rfl (lv_at hl 1 rfl) ?_
              refine lv_dup hx hb dX10_readSaid_167 rfl ?_
              refine tg_mem (ci := 10) (C := RX10) (T := TX10) (N := 49) hx hb hts inX10 hown hK hw 47 m_v_19 rfl (by decide) (hts _ tw_1184) (fun _ h9 => h9) dX10_readSaid_168 ?_
              have q_v_19 : sg_13.1 47 = v_19 := OV.eqI (V := vw_M2) hw.2.2.1 o_p0 m_v_19 (by decide)
              refine lv_iconst (v := 1) hx hb dX10_readSaid_171 (by decide) ?_
              refine lv_isub hx hb dX10_readSaid_172 (lv_topi (fun v_21 e_v_21 => ?_))
              obtain ⟨t_v_21, r_v_21⟩ := tq_sub (lo := 1) (hi := 1) r_v_19 rl_1 (by decide +kernel) e_v_21
              have t_v_21 : v_21.toInt = v_19.toInt - 1 := t_v_21
              have q_v_21 : v_19 - (1 : Int32) = v_21 := e_v_21.symm
              refine tg_put (ci := 10) (ts := ty_MODEL) (v := .int v_21) (ty := .int) (C := RX10) (T := TX10) (N := 49) hx hb hts inX10 tyX10 tyX10_ok nmX10 hown hK hw h_p0 rfl rfl 47 (by decide) (hts _ tw_1184) (fun _ h9 => h9) rfl (by decide +kernel) rfl rfl (ft := vI (-2147483648) 2147483647) rfl ⟨_, rfl, (r_v_21.to (by decide))⟩ (by decide) dX10_readSaid_173 (fun ws H locs hw n_k_22 hF9 => ?_)
              have m_v_18 := FLD.over hF9 m_v_18 (by decide)
              have m_v_20 := FLD.over hF9 m_v_20 (by decide)
              have x_SNT_p0_gd_1_gh_1_gg := SNT.over hF9 x_SNT_p0_gd_1_gh_1_gg (by decide)
              obtain ⟨sg_23, q_sg_23⟩ : ∃ q9 : OS, sI sg_13 47 v_21 = q9 := ⟨_, rfl⟩
              have o_p0 : OV vw_M2 Ps ws p0 sg_23 := by rw [← q_sg_23]; exact OV.putI (V := vw_M2) hF9 n_k_22 o_p0 (by decide)
              refine lv_iload_n hx hb dX10_readSaid_176 rfl (lv_at hl 0 rfl) ?_
              simp only [f_X10_readSaid__10_30, ↓reduceIte, q_z0_47, eq_false c_31, q_vu_1, eq_false c_52, eq_false c_61, q_v_4, q_sg_6, q_v_7, q_sg_9, q_sg_11, eq_false c_97, q_sg_13, q_v_12, eq_false c9_v_12, q_v_19, q_v_21, q_sg_23] at hE
              subst hQ
              exact W.zret (v := v_12) hx hb hr (tq_nz (r_v_12.to (by decide))) (fun t ht hW => ⟨⟨v_12, ws, rfl, ⟨⟨⟨(by rw [hR, ← hE]; exact o_p0), (by rw [hR, ← hE]), trivial⟩, r_v_12.to (by decide), (fun h0 => absurd (ti_eq h0) (by have h8 := r_v_12; unfold RI at h8; rw [Int32.toInt_zero]; omega)), (fun h0 => ⟨⟨_, m_v_18, r_v_18⟩, ⟨_, m_v_20, r_v_20⟩, ⟨_, n_k_22, r_v_21⟩, x_SNT_p0_gd_1_gh_1_gg, trivial⟩)⟩, hw.1, hw.2.2.2.2.1⟩, by rw [ht]; exact hw.2.1, va_K.moved hW.alike hK, hw.2.2.1⟩, hw.2.2.2.1.F ht⟩) hw.2.2.2.1.2.2 dX10_readSaid_177
        · have r_z0_47 : RI z0_47 8 1 := rc_eq1 r_z0_47 rl_8 (ti_eq c_61) (by decide)
          exact (r_z0_47.no (by decide)).elim
    · have r_x1 : RI x1 0 0 := rc_eq1 r_x1 rl_0 (ti_eq c_31) (by decide)
      refine lv_iload_n hx hb dX10_readSaid_34 rfl (lv_at hl 2 rfl) ?_
      refine lv_bipush (v := 27) hx hb dX10_readSaid_35 (by decide) ?_
      refine lv_icmp_le (tgt := 46) hx hb dX10_readSaid_37 (by decide) (fun c_37 => ?_) (fun c_37 => ?_)
      · have r_x2 : RI x2 18 27 := rc_le1 r_x2 rl_27 (ti_le c_37) (by decide)
        refine lv_aload_n hx hb dX10_readSaid_46 rfl (lv_at hl 0 rfl) ?_
        refine tg_get (ci := 10) (ts := ty_MODEL) (C := RX10) (T := TX10) (N := 49) hx hb hts inX10 hown hK hw h_p0 rfl rfl 46 (by decide) (hts _ tw_1183) (fun _ h9 => h9) (ft := vI (-2147483648) 2147483647) rfl dX10_readSaid_47 (fun u_24 hv_u_24 m_u_24 => ?_)
        obtain ⟨vu_24, rfl, r_vu_24⟩ := hv_u_24
        have q_vu_24 : s0.1 46 = vu_24 := OV.eqI (V := vw_M2) hw.2.2.1 o_p0 m_u_24 (by decide)
        obtain ⟨n9, hn9, rn9, r_vu_24, b9⟩ := SNp.getO hw x_SN_p0_gd_gh_gg m_u_24
        refine lv_bipush (v := 20) hx hb dX10_readSaid_50 (by decide) ?_
        refine lv_icmp_eq (tgt := 64) hx hb dX10_readSaid_52 (by decide) (fun c_52 => ?_) (fun c_52 => ?_)
        · have r_vu_24 : RI vu_24 20 20 := rc_eq1 r_vu_24 rl_20 (ti_eq c_52) (by decide)
          refine lv_aload_n hx hb dX10_readSaid_64 rfl (lv_at hl 0 rfl) ?_
          refine lv_iconst (v := 4) hx hb dX10_readSaid_65 (by decide) ?_
          refine tk_i (va_runV (As := [.int 4]) (rest := []) ⟨hx, hb, hml, hown, hts⟩ (c_X10_bad__2 l D cy z H.size Ps ws hw.1 p0 4 s0 h_p0 (rl_4.to (by decide)) o_p0) (cwV 1 hts (gV tw_1336 tw_1338 ts_46 tw_15 tw_1339) rfl rfl rfl (by decide +kernel) ⟨Nat.le_of_ble_eq_true rfl, Nat.le_of_ble_eq_true rfl⟩) (tg_preV hw hK hSD hA (ci := 10) (q := (RX10, TX10, 49)) rfl h_p0 rfl) rfl rfl hl.1 rfl (lv_room (Nat.le_of_ble_eq_true rfl)) dX10_readSaid_66 ⟨Nat.le_of_ble_eq_true rfl, Nat.le_of_ble_eq_true rfl⟩) hw hA ⟨by decide, by decide⟩ (fun v_25 ws H locs hp_v_25 hw hF9 => ?_)
          have m_z0_47 := FLD.over hF9 m_z0_47 (by decide)
          have m_u_24 := FLD.over hF9 m_u_24 (by decide)
          have hn9 := FLD.over hF9 hn9 (by decide)
          have x_SN_p0_gd_gh_gg := SNp.over hF9 x_SN_p0_gd_gh_gg (by decide)
          obtain ⟨hfn, hp_v_25⟩ := hp_v_25
          obtain ⟨sg_26, q_sg_26⟩ : ∃ q9 : OS, (f_X10_bad__1 (4 : Int32) s0).1 = q9 := ⟨_, rfl⟩
          have o_p0 : OV vw_M2 Ps ws p0 sg_26 := by rw [← q_sg_26]; exact hfn.1
          have q_v_25 : (f_X10_bad__1 (4 : Int32) s0).2 = v_25 := hfn.2.1
          have r_v_25 : RI v_25 0 0 := hp_v_25.1
          simp only [f_X10_readSaid__10_30, ↓reduceIte, q_z0_47, eq_true c_31, eq_true c_37, q_vu_24, eq_true c_52, q_sg_26, q_v_25] at hE
          subst hQ
          exact W.zret (v := v_25) hx hb hr (tq_nz (r_v_25.to (by decide))) (fun t ht hW => ⟨⟨v_25, ws, rfl, ⟨⟨⟨(by rw [hR, ← hE]; exact o_p0), (by rw [hR, ← hE]), trivial⟩, r_v_25.to (by decide), (fun h0 => ⟨⟨_, m_z0_47, r_z0_47⟩, trivial⟩), (fun h0 => absurd (Int32.toInt_inj.mp (by have h8 := r_v_25; unfold RI at h8; rw [Int32.toInt_zero]; omega)) h0)⟩, hw.1, hw.2.2.2.2.1⟩, by rw [ht]; exact hw.2.1, va_K.moved hW.alike hK, hw.2.2.1⟩, hw.2.2.2.1.F ht⟩) hw.2.2.2.1.2.2 dX10_readSaid_69
        · have r_vu_24 : RI vu_24 0 19 := rc_neU r_vu_24 rl_20 (ti_ne c_52) (by decide)
          refine lv_aload_n hx hb dX10_readSaid_55 rfl (lv_at hl 0 rfl) ?_
          refine tg_mem (ci := 10) (C := RX10) (T := TX10) (N := 49) hx hb hts inX10 hown hK hw 47 m_z0_47 rfl (by decide) (hts _ tw_1184) (fun _ h9 => h9) dX10_readSaid_56 ?_
          refine lv_bipush (v := 8) hx hb dX10_readSaid_59 (by decide) ?_
          refine lv_icmp_ne (tgt := 70) hx hb dX10_readSaid_61 (by decide) (fun c_61 => ?_) (fun c_61 => ?_)
          · refine lv_aload_n hx hb dX10_readSaid_70 rfl (lv_at hl 0 rfl) ?_
            refine lv_dup hx hb dX10_readSaid_71 rfl ?_
            refine tg_mem (ci := 10) (C := RX10) (T := TX10) (N := 49) hx hb hts inX10 hown hK hw 46 m_u_24 rfl (by decide) (hts _ tw_1183) (fun _ h9 => h9) dX10_readSaid_72 ?_
            refine lv_iconst (v := 1) hx hb dX10_readSaid_75 (by decide) ?_
            refine lv_iadd hx hb dX10_readSaid_76 (lv_topi (fun v_27 e_v_27 => ?_))
            obtain ⟨t_v_27, r_v_27⟩ := tq_add (lo := 1) (hi := 20) r_vu_24 rl_1 (by decide +kernel) e_v_27
            have t_v_27 : v_27.toInt = vu_24.toInt + 1 := t_v_27
            have q_v_27 : vu_24 + (1 : Int32) = v_27 := e_v_27.symm
            refine tg_put (ci := 10) (ts := ty_MODEL) (v := .int v_27) (ty := .int) (C := RX10) (T := TX10) (N := 49) hx hb hts inX10 tyX10 tyX10_ok nmX10 hown hK hw h_p0 rfl rfl 46 (by decide) (hts _ tw_1183) (fun _ h9 => h9) rfl (by decide +kernel) rfl rfl (ft := vI (-2147483648) 2147483647) rfl ⟨_, rfl, (r_v_27.to (by decide))⟩ (by decide) dX10_readSaid_77 (fun ws H locs hw n_k_28 hF9 => ?_)
            have m_z0_47 := FLD.over hF9 m_z0_47 (by decide)
            have hn9 := FLD.over hF9 hn9 (by decide)
            obtain ⟨sg_29, q_sg_29⟩ : ∃ q9 : OS, sI s0 46 v_27 = q9 := ⟨_, rfl⟩
            have o_p0 : OV vw_M2 Ps ws p0 sg_29 := by rw [← q_sg_29]; exact OV.putI (V := vw_M2) hF9 n_k_28 o_p0 (by decide)
            have x_SNI_p0_gd_1_gh_1_gg : SNI ws p0 (gd+1) (gh+1) (gg) := ⟨by omega, _, _, hn9, n_k_28, by have k1 := rn9.1; have k2 := r_v_27.2; omega⟩
            refine lv_aload_n hx hb dX10_readSaid_80 rfl (lv_at hl 0 rfl) ?_
            refine lv_dup hx hb dX10_readSaid_81 rfl ?_
            refine tg_mem (ci := 10) (C := RX10) (T := TX10) (N := 49) hx hb hts inX10 hown hK hw 47 m_z0_47 rfl (by decide) (hts _ tw_1184) (fun _ h9 => h9) dX10_readSaid_82 ?_
            refine lv_iconst (v := 1) hx hb dX10_readSaid_85 (by decide) ?_
            refine lv_iadd hx hb dX10_readSaid_86 (lv_topi (fun v_30 e_v_30 => ?_))
            obtain ⟨t_v_30, r_v_30⟩ := tq_add (lo := 2) (hi := 2) r_z0_47 rl_1 (by decide +kernel) e_v_30
            have t_v_30 : v_30.toInt = z0_47.toInt + 1 := t_v_30
            have q_v_30 : z0_47 + (1 : Int32) = v_30 := e_v_30.symm
            refine tg_put (ci := 10) (ts := ty_MODEL) (v := .int v_30) (ty := .int) (C := RX10) (T := TX10) (N := 49) hx hb hts inX10 tyX10 tyX10_ok nmX10 hown hK hw h_p0 rfl rfl 47 (by decide) (hts _ tw_1184) (fun _ h9 => h9) rfl (by decide +kernel) rfl rfl (ft := vI (-2147483648) 2147483647) rfl ⟨_, rfl, (r_v_30.to (by decide))⟩ (by decide) dX10_readSaid_87 (fun ws H locs hw n_k_31 hF9 => ?_)
            have hn9 := FLD.over hF9 hn9 (by decide)
            have n_k_28 := FLD.over hF9 n_k_28 (by decide)
            have x_SNI_p0_gd_1_gh_1_gg := SNI.over hF9 x_SNI_p0_gd_1_gh_1_gg (by decide)
            obtain ⟨sg_32, q_sg_32⟩ : ∃ q9 : OS, sI sg_29 47 v_30 = q9 := ⟨_, rfl⟩
            have o_p0 : OV vw_M2 Ps ws p0 sg_32 := by rw [← q_sg_32]; exact OV.putI (V := vw_M2) hF9 n_k_31 o_p0 (by decide)
            refine lv_aload_n hx hb dX10_readSaid_90 rfl (lv_at hl 0 rfl) ?_
            refine tk_v (va_runV (As := []) (rest := []) ⟨hx, hb, hml, hown, hts⟩ (c_X10_go__4 l D cy z H.size Ps ws hw.1 p0 sg_32 h_p0 o_p0) (cwV 0 hts (gV tw_1298 tw_1300 ts_40 tw_15 tw_1301) rfl rfl rfl (by decide +kernel) ⟨Nat.le_of_ble_eq_true rfl, Nat.le_of_ble_eq_true rfl⟩) (tg_preV hw hK hSD hA (ci := 10) (q := (RX10, TX10, 49)) rfl h_p0 rfl) rfl rfl hl.1 rfl (lv_room (Nat.le_of_ble_eq_true rfl)) dX10_readSaid_91 ⟨Nat.le_of_ble_eq_true rfl, Nat.le_of_ble_eq_true rfl⟩) hw hA ⟨by decide, by decide⟩ (fun ws H locs hp_v_33 hw hF9 => ?_)
            have hn9 := FLD.over hF9 hn9 (by decide)
            have n_k_28 := FLD.over hF9 n_k_28 (by decide)
            have n_k_31 := FLD.over hF9 n_k_31 (by decide)
            have x_SNI_p0_gd_1_gh_1_gg := SNI.over hF9 x_SNI_p0_gd_1_gh_1_gg (by decide)
            obtain ⟨hfn, hp_v_33⟩ := hp_v_33
            obtain ⟨sg_34, q_sg_34⟩ : ∃ q9 : OS, (f_X10_go__2 sg_32) = q9 := ⟨_, rfl⟩
            have o_p0 : OV vw_M2 Ps ws p0 sg_34 := by rw [← q_sg_34]; exact hfn.1
            refine lv_iconst (v := 1) hx hb dX10_readSaid_94 (by decide) ?_
            refine lv_istore_n (lv' := [(3, .int 1), (0, .ref p0), (1, .int x1), (2, .int x2)]) hx hb dX10_readSaid_95 rfl hl (by decide) rfl (fun ls hl => ?_)
            refine lv_iload_n hx hb dX10_readSaid_96 rfl (lv_at hl 2 rfl) ?_
            refine lv_if_eq (tgt := 108) hx hb dX10_readSaid_97 (by decide) (fun c_97 => ?_) (fun c_97 => ?_)
            · refine lv_iload_n hx hb dX10_readSaid_108 rfl (lv_at hl 3 rfl) ?_
              refine lv_bipush (v := 18) hx hb dX10_readSaid_109 (by decide) ?_
              refine lv_icmp_ne (tgt := 122) hx hb dX10_readSaid_111 (by decide) (fun c_111 => ?_) (fun c_111 => ?_)
              · have r_x2 : RI x2 19 27 := rc_neL r_x2 rl_18 (ti_ne c_111) (by decide)
                refine lv_iload_n hx hb dX10_readSaid_122 rfl (lv_at hl 3 rfl) ?_
                refine lv_bipush (v := 22) hx hb dX10_readSaid_123 (by decide) ?_
                refine lv_icmp_ge (tgt := 146) hx hb dX10_readSaid_125 (by decide) (fun c_125 => ?_) (fun c_125 => ?_)
                · have r_x2 : RI x2 22 27 := rc_le2 rl_22 r_x2 (ti_le c_125) (by decide)
                  refine lv_iload_n hx hb dX10_readSaid_146 rfl (lv_at hl 3 rfl) ?_
                  refine lv_bipush (v := 24) hx hb dX10_readSaid_147 (by decide) ?_
                  refine lv_icmp_ge (tgt := 160) hx hb dX10_readSaid_149 (by decide) (fun c_149 => ?_) (fun c_149 => ?_)
                  · have r_x2 : RI x2 24 27 := rc_le2 rl_24 r_x2 (ti_le c_149) (by decide)
                    refine lv_aload_n hx hb dX10_readSaid_160 rfl (lv_at hl 1 rfl) ?_
                    refine lv_iload_n hx hb dX10_readSaid_161 rfl (lv_at hl 3 rfl) ?_
                    refine tk_i (va_runV (As := [.int x2]) (rest := []) ⟨hx, hb, hml, hown, hts⟩ (c_X10_readCompare__1 l D cy z H.size Ps ws hw.1 p0 x2 (gd+1) (gh+1) (gg) sg_34 h_p0 r_x2 x_SNI_p0_gd_1_gh_1_gg o_p0) (cwV 1 hts (gV tw_1779 tw_1781 ts_118 tw_15 tw_1782) rfl rfl rfl (by decide +kernel) ⟨Nat.le_of_ble_eq_true rfl, Nat.le_of_ble_eq_true rfl⟩) (tg_preV hw hK hSD hA (ci := 10) (q := (RX10, TX10, 49)) rfl h_p0 rfl) rfl rfl hl.1 rfl (lv_room (Nat.le_of_ble_eq_true rfl)) dX10_readSaid_162 ⟨Nat.le_of_ble_eq_true rfl, Nat.le_of_ble_eq_true rfl⟩) hw hA ⟨by decide, by decide⟩ (fun v_35 ws H locs hp_v_35 hw hF9 => ?_)
                    have n_k_28 := FLD.over hF9 n_k_28 (by decide)
                    have n_k_31 := FLD.over hF9 n_k_31 (by decide)
                    obtain ⟨hfn, hp_v_35⟩ := hp_v_35
                    obtain ⟨sg_36, q_sg_36⟩ : ∃ q9 : OS, (f_X10_readCompare__1 x2 sg_34).1 = q9 := ⟨_, rfl⟩
                    have o_p0 : OV vw_M2 Ps ws p0 sg_36 := by rw [← q_sg_36]; exact hfn.1
                    have q_v_35 : (f_X10_readCompare__1 x2 sg_34).2 = v_35 := hfn.2.1
                    have r_v_35 : RI v_35 0 1 := hp_v_35.1
                    by_cases c9_v_35 : v_35 = 0
                    · have r_v_35 : RI v_35 0 0 := by rw [c9_v_35]; exact rl_0
                      refine lv_istore_n (lv' := [(3, .int v_35), (0, .ref p0), (1, .int x1), (2, .int x2)]) hx hb dX10_readSaid_165 rfl hl (by decide) rfl (fun ls hl => ?_)
                      refine lv_aload_n hx hb dX10_readSaid_166 rfl (lv_at hl 1 rfl) ?_
                      refine lv_dup hx hb dX10_readSaid_167 rfl ?_
                      refine tg_mem (ci := 10) (C := RX10) (T := TX10) (N := 49) hx hb hts inX10 hown hK hw 47 n_k_31 rfl (by decide) (hts _ tw_1184) (fun _ h9 => h9) dX10_readSaid_168 ?_
                      refine lv_iconst (v := 1) hx hb dX10_readSaid_171 (by decide) ?_
                      refine lv_isub hx hb dX10_readSaid_172 (lv_topi (fun v_37 e_v_37 => ?_))
                      obtain ⟨t_v_37, r_v_37⟩ := tq_sub (lo := 1) (hi := 1) r_v_30 rl_1 (by decide +kernel) e_v_37
                      have t_v_37 : v_37.toInt = v_30.toInt - 1 := t_v_37
                      have q_v_37 : v_30 - (1 : Int32) = v_37 := e_v_37.symm
                      refine tg_put (ci := 10) (ts := ty_MODEL) (v := .int v_37) (ty := .int) (C := RX10) (T := TX10) (N := 49) hx hb hts inX10 tyX10 tyX10_ok nmX10 hown hK hw h_p0 rfl rfl 47 (by decide) (hts _ tw_1184) (fun _ h9 => h9) rfl (by decide +kernel) rfl rfl (ft := vI (-2147483648) 2147483647) rfl ⟨_, rfl, (r_v_37.to (by decide))⟩ (by decide) dX10_readSaid_173 (fun ws H locs hw n_k_38 hF9 => ?_)
                      have n_k_28 := FLD.over hF9 n_k_28 (by decide)
                      obtain ⟨sg_39, q_sg_39⟩ : ∃ q9 : OS, sI sg_36 47 v_37 = q9 := ⟨_, rfl⟩
                      have o_p0 : OV vw_M2 Ps ws p0 sg_39 := by rw [← q_sg_39]; exact OV.putI (V := vw_M2) hF9 n_k_38 o_p0 (by decide)
                      refine lv_iload_n hx hb dX10_readSaid_176 rfl (lv_at hl 0 rfl) ?_
                      simp only [f_X10_readSaid__10_30, ↓reduceIte, q_z0_47, eq_true c_31, eq_true c_37, q_vu_24, eq_false c_52, eq_false c_61, q_v_27, q_sg_29, q_v_30, q_sg_32, q_sg_34, eq_true c_97, eq_false c_111, eq_true c_125, eq_true c_149, q_sg_36, q_v_35, eq_true c9_v_35, q_v_37, q_sg_39] at hE
                      subst hQ
                      exact W.zret (v := v_35) hx hb hr (tq_nz (r_v_35.to (by decide))) (fun t ht hW => ⟨⟨v_35, ws, rfl, ⟨⟨⟨(by rw [hR, ← hE]; exact o_p0), (by rw [hR, ← hE]), trivial⟩, r_v_35.to (by decide), (fun h0 => ⟨⟨_, n_k_38, r_v_37⟩, trivial⟩), (fun h0 => absurd (Int32.toInt_inj.mp (by have h8 := r_v_35; unfold RI at h8; rw [Int32.toInt_zero]; omega)) h0)⟩, hw.1, hw.2.2.2.2.1⟩, by rw [ht]; exact hw.2.1, va_K.moved hW.alike hK, hw.2.2.1⟩, hw.2.2.2.1.F ht⟩) hw.2.2.2.1.2.2 dX10_readSaid_177
                    · have r_v_35 : RI v_35 1 1 := rc_neL r_v_35 rl_0 (ti_ne c9_v_35) (by decide)
                      obtain ⟨v_40, m_v_40, r_v_40⟩ := ((hp_v_35.2.2 c9_v_35).1)
                      obtain ⟨v_41, m_v_41, r_v_41⟩ := ((hp_v_35.2.2 c9_v_35).2.1)
                      have x_SNT_p0_gd_1_gh_1_gg := ((hp_v_35.2.2 c9_v_35).2.2.1)
                      refine lv_istore_n (lv' := [(3, .int v_35), (0, .ref p0), (1, .int x1), (2, .int x2)]) hx hb dX10_readSaid_165 rfl hl (by decide) rfl (fun ls hl => ?_)
                      refine lv_aload_n hx hb dX10_readSaid_166 rfl (lv_at hl 1 rfl) ?_
                      refine lv_dup hx hb dX10_readSaid_167 rfl ?_
                      refine tg_mem (ci := 10) (C := RX10) (T := TX10) (N := 49) hx hb hts inX10 hown hK hw 47 n_k_31 rfl (by decide) (hts _ tw_1184) (fun _ h9 => h9) dX10_readSaid_168 ?_
                      refine lv_iconst (v := 1) hx hb dX10_readSaid_171 (by decide) ?_
                      refine lv_isub hx hb dX10_readSaid_172 (lv_topi (fun v_42 e_v_42 => ?_))
                      obtain ⟨t_v_42, r_v_42⟩ := tq_sub (lo := 1) (hi := 1) r_v_30 rl_1 (by decide +kernel) e_v_42
                      have t_v_42 : v_42.toInt = v_30.toInt - 1 := t_v_42
                      have q_v_42 : v_30 - (1 : Int32) = v_42 := e_v_42.symm
                      refine tg_put (ci := 10) (ts := ty_MODEL) (v := .int v_42) (ty := .int) (C := RX10) (T := TX10) (N := 49) hx hb hts inX10 tyX10 tyX10_ok nmX10 hown hK hw h_p0 rfl rfl 47 (by decide) (hts _ tw_1184) (fun _ h9 => h9) rfl (by decide +kernel) rfl rfl (ft := vI (-2147483648) 2147483647) rfl ⟨_, rfl, (r_v_42.to (by decide))⟩ (by decide) dX10_readSaid_173 (fun ws H locs hw n_k_43 hF9 => ?_)
                      have n_k_28 := FLD.over hF9 n_k_28 (by decide)
                      have m_v_40 := FLD.over hF9 m_v_40 (by decide)
                      have m_v_41 := FLD.over hF9 m_v_41 (by decide)
                      have x_SNT_p0_gd_1_gh_1_gg := SNT.over hF9 x_SNT_p0_gd_1_gh_1_gg (by decide)
                      obtain ⟨sg_44, q_sg_44⟩ : ∃ q9 : OS, sI sg_36 47 v_42 = q9 := ⟨_, rfl⟩
                      have o_p0 : OV vw_M2 Ps ws p0 sg_44 := by rw [← q_sg_44]; exact OV.putI (V := vw_M2) hF9 n_k_43 o_p0 (by decide)
                      refine lv_iload_n hx hb dX10_readSaid_176 rfl (lv_at hl 0 rfl) ?_
                      simp only [f_X10_readSaid__10_30, ↓reduceIte, q_z0_47, eq_true c_31, eq_true c_37, q_vu_24, eq_false c_52, eq_false c_61, q_v_27, q_sg_29, q_v_30, q_sg_32, q_sg_34, eq_true c_97, eq_false c_111, eq_true c_125, eq_true c_149, q_sg_36, q_v_35, eq_false c9_v_35, q_v_42, q_sg_44] at hE
                      subst hQ
                      exact W.zret (v := v_35) hx hb hr (tq_nz (r_v_35.to (by decide))) (fun t ht hW => ⟨⟨v_35, ws, rfl, ⟨⟨⟨(by rw [hR, ← hE]; exact o_p0), (by rw [hR, ← hE]), trivial⟩, r_v_35.to (by decide), (fun h0 => absurd (ti_eq h0) (by have h8 := r_v_35; unfold RI at h8; rw [Int32.toInt_zero]; omega)), (fun h0 => ⟨⟨_, n_k_28, r_v_27⟩, ⟨_, m_v_41, r_v_41⟩, ⟨_, n_k_43, r_v_42⟩, x_SNT_p0_gd_1_gh_1_gg, trivial⟩)⟩, hw.1, hw.2.2.2.2.1⟩, by rw [ht]; exact hw.2.1, va_K.moved hW.alike hK, hw.2.2.1⟩, hw.2.2.2.1.F ht⟩) hw.2.2.2.1.2.2 dX10_readSaid_177
                  · have r_x2 : RI x2 22 23 := rc_lt1 r_x2 rl_24 (ti_nle c_149) (by decide)
                    refine lv_aload_n hx hb dX10_readSaid_152 rfl (lv_at hl 1 rfl) ?_
                    refine lv_iload_n hx hb dX10_readSaid_153 rfl (lv_at hl 3 rfl) ?_
                    refine tk_i (va_runV (As := [.int x2]) (rest := []) ⟨hx, hb, hml, hown, hts⟩ (c_X10_readOf__1 l D cy z H.size Ps ws hw.1 p0 x2 (gd+1) (gh+1) (gg) sg_34 h_p0 r_x2 x_SNI_p0_gd_1_gh_1_gg o_p0) (cwV 1 hts (gV tw_1775 tw_1777 ts_117 tw_15 tw_1778) rfl rfl rfl (by decide +kernel) ⟨Nat.le_of_ble_eq_true rfl, Nat.le_of_ble_eq_true rfl⟩) (tg_preV hw hK hSD hA (ci := 10) (q := (RX10, TX10, 49)) rfl h_p0 rfl) rfl rfl hl.1 rfl (lv_room (Nat.le_of_ble_eq_true rfl)) dX10_readSaid_154 ⟨Nat.le_of_ble_eq_true rfl, Nat.le_of_ble_eq_true rfl⟩) hw hA ⟨by decide, by decide⟩ (fun v_45 ws H locs hp_v_45 hw hF9 => ?_)
                    have n_k_28 := FLD.over hF9 n_k_28 (by decide)
                    have n_k_31 := FLD.over hF9 n_k_31 (by decide)
                    obtain ⟨hfn, hp_v_45⟩ := hp_v_45
                    obtain ⟨sg_46, q_sg_46⟩ : ∃ q9 : OS, (f_X10_readOf__1 x2 sg_34).1 = q9 := ⟨_, rfl⟩
                    have o_p0 : OV vw_M2 Ps ws p0 sg_46 := by rw [← q_sg_46]; exact hfn.1
                    have q_v_45 : (f_X10_readOf__1 x2 sg_34).2 = v_45 := hfn.2.1
                    have r_v_45 : RI v_45 0 1 := hp_v_45.1
                    by_cases c9_v_45 : v_45 = 0
                    · have r_v_45 : RI v_45 0 0 := by rw [c9_v_45]; exact rl_0
                      refine lv_goto (tgt := 165) hx hb dX10_readSaid_157 (by decide) ?_
                      refine lv_istore_n (lv' := [(3, .int v_45), (0, .ref p0), (1, .int x1), (2, .int x2)]) hx hb dX10_readSaid_165 rfl hl (by decide) rfl (fun ls hl => ?_)
                      refine lv_aload_n hx hb dX10_readSaid_166 rfl (lv_at hl 1 rfl) ?_
                      refine lv_dup hx hb dX10_readSaid_167 rfl ?_
                      refine tg_mem (ci := 10) (C := RX10) (T := TX10) (N := 49) hx hb hts inX10 hown hK hw 47 n_k_31 rfl (by decide) (hts _ tw_1184) (fun _ h9 => h9) dX10_readSaid_168 ?_
                      refine lv_iconst (v := 1) hx hb dX10_readSaid_171 (by decide) ?_
                      refine lv_isub hx hb dX10_readSaid_172 (lv_topi (fun v_47 e_v_47 => ?_))
                      obtain ⟨t_v_47, r_v_47⟩ := tq_sub (lo := 1) (hi := 1) r_v_30 rl_1 (by decide +kernel) e_v_47
                      have t_v_47 : v_47.toInt = v_30.toInt - 1 := t_v_47
                      have q_v_47 : v_30 - (1 : Int32) = v_47 := e_v_47.symm
                      refine tg_put (ci := 10) (ts := ty_MODEL) (v := .int v_47) (ty := .int) (C := RX10) (T := TX10) (N := 49) hx hb hts inX10 tyX10 tyX10_ok nmX10 hown hK hw h_p0 rfl rfl 47 (by decide) (hts _ tw_1184) (fun _ h9 => h9) rfl (by decide +kernel) rfl rfl (ft := vI (-2147483648) 2147483647) rfl ⟨_, rfl, (r_v_47.to (by decide))⟩ (by decide) dX10_readSaid_173 (fun ws H locs hw n_k_48 hF9 => ?_)
                      have n_k_28 := FLD.over hF9 n_k_28 (by decide)
                      obtain ⟨sg_49, q_sg_49⟩ : ∃ q9 : OS, sI sg_46 47 v_47 = q9 := ⟨_, rfl⟩
                      have o_p0 : OV vw_M2 Ps ws p0 sg_49 := by rw [← q_sg_49]; exact OV.putI (V := vw_M2) hF9 n_k_48 o_p0 (by decide)
                      refine lv_iload_n hx hb dX10_readSaid_176 rfl (lv_at hl 0 rfl) ?_
                      simp only [f_X10_readSaid__10_30, ↓reduceIte, q_z0_47, eq_true c_31, eq_true c_37, q_vu_24, eq_false c_52, eq_false c_61, q_v_27, q_sg_29, q_v_30, q_sg_32, q_sg_34, eq_true c_97, eq_false c_111, eq_true c_125, eq_false c_149, q_sg_46, q_v_45, eq_true c9_v_45, q_v_47, q_sg_49] at hE
                      subst hQ
                      exact W.zret (v := v_45) hx hb hr (tq_nz (r_v_45.to (by decide))) (fun t ht hW => ⟨⟨v_45, ws, rfl, ⟨⟨⟨(by rw [hR, ← hE]; exact o_p0), (by rw [hR, ← hE]), trivial⟩, r_v_45.to (by decide), (fun h0 => ⟨⟨_, n_k_48, r_v_47⟩, trivial⟩), (fun h0 => absurd (Int32.toInt_inj.mp (by have h8 := r_v_45; unfold RI at h8; rw [Int32.toInt_zero]; omega)) h0)⟩, hw.1, hw.2.2.2.2.1⟩, by rw [ht]; exact hw.2.1, va_K.moved hW.alike hK, hw.2.2.1⟩, hw.2.2.2.1.F ht⟩) hw.2.2.2.1.2.2 dX10_readSaid_177
                    · have r_v_45 : RI v_45 1 1 := rc_neL r_v_45 rl_0 (ti_ne c9_v_45) (by decide)
                      obtain ⟨v_50, m_v_50, r_v_50⟩ := ((hp_v_45.2.2 c9_v_45).1)
                      obtain ⟨v_51, m_v_51, r_v_51⟩ := ((hp_v_45.2.2 c9_v_45).2.1)
                      have x_SNT_p0_gd_1_gh_1_gg := ((hp_v_45.2.2 c9_v_45).2.2.1)
                      refine lv_goto (tgt := 165) hx hb dX10_readSaid_157 (by decide) ?_
                      refine lv_istore_n (lv' := [(3, .int v_45), (0, .ref p0), (1, .int x1), (2, .int x2)]) hx hb dX10_readSaid_165 rfl hl (by decide) rfl (fun ls hl => ?_)
                      refine lv_aload_n hx hb dX10_readSaid_166 rfl (lv_at hl 1 rfl) ?_
                      refine lv_dup hx hb dX10_readSaid_167 rfl ?_
                      refine tg_mem (ci := 10) (C := RX10) (T := TX10) (N := 49) hx hb hts inX10 hown hK hw 47 n_k_31 rfl (by decide) (hts _ tw_1184) (fun _ h9 => h9) dX10_readSaid_168 ?_
                      refine lv_iconst (v := 1) hx hb dX10_readSaid_171 (by decide) ?_
                      refine lv_isub hx hb dX10_readSaid_172 (lv_topi (fun v_52 e_v_52 => ?_))
                      obtain ⟨t_v_52, r_v_52⟩ := tq_sub (lo := 1) (hi := 1) r_v_30 rl_1 (by decide +kernel) e_v_52
                      have t_v_52 : v_52.toInt = v_30.toInt - 1 := t_v_52
                      have q_v_52 : v_30 - (1 : Int32) = v_52 := e_v_52.symm
                      refine tg_put (ci := 10) (ts := ty_MODEL) (v := .int v_52) (ty := .int) (C := RX10) (T := TX10) (N := 49) hx hb hts inX10 tyX10 tyX10_ok nmX10 hown hK hw h_p0 rfl rfl 47 (by decide) (hts _ tw_1184) (fun _ h9 => h9) rfl (by decide +kernel) rfl rfl (ft := vI (-2147483648) 2147483647) rfl ⟨_, rfl, (r_v_52.to (by decide))⟩ (by decide) dX10_readSaid_173 (fun ws H locs hw n_k_53 hF9 => ?_)
                      have n_k_28 := FLD.over hF9 n_k_28 (by decide)
                      have m_v_50 := FLD.over hF9 m_v_50 (by decide)
                      have m_v_51 := FLD.over hF9 m_v_51 (by decide)
                      have x_SNT_p0_gd_1_gh_1_gg := SNT.over hF9 x_SNT_p0_gd_1_gh_1_gg (by decide)
                      obtain ⟨sg_54, q_sg_54⟩ : ∃ q9 : OS, sI sg_46 47 v_52 = q9 := ⟨_, rfl⟩
                      have o_p0 : OV vw_M2 Ps ws p0 sg_54 := by rw [← q_sg_54]; exact OV.putI (V := vw_M2) hF9 n_k_53 o_p0 (by decide)
                      refine lv_iload_n hx hb dX10_readSaid_176 rfl (lv_at hl 0 rfl) ?_
                      simp only [f_X10_readSaid__10_30, ↓reduceIte, q_z0_47, eq_true c_31, eq_true c_37, q_vu_24, eq_false c_52, eq_false c_61, q_v_27, q_sg_29, q_v_30, q_sg_32, q_sg_34, eq_true c_97, eq_false c_111, eq_true c_125, eq_false c_149, q_sg_46, q_v_45, eq_false c9_v_45, q_v_52, q_sg_54] at hE
                      subst hQ
                      exact W.zret (v := v_45) hx hb hr (tq_nz (r_v_45.to (by decide))) (fun t ht hW => ⟨⟨v_45, ws, rfl, ⟨⟨⟨(by rw [hR, ← hE]; exact o_p0), (by rw [hR, ← hE]), trivial⟩, r_v_45.to (by decide), (fun h0 => absurd (ti_eq h0) (by have h8 := r_v_45; unfold RI at h8; rw [Int32.toInt_zero]; omega)), (fun h0 => ⟨⟨_, n_k_28, r_v_27⟩, ⟨_, m_v_51, r_v_51⟩, ⟨_, n_k_53, r_v_52⟩, x_SNT_p0_gd_1_gh_1_gg, trivial⟩)⟩, hw.1, hw.2.2.2.2.1⟩, by rw [ht]; exact hw.2.1, va_K.moved hW.alike hK, hw.2.2.1⟩, hw.2.2.2.1.F ht⟩) hw.2.2.2.1.2.2 dX10_readSaid_177
                · have r_x2 : RI x2 19 21 := rc_lt1 r_x2 rl_22 (ti_nle c_125) (by decide)
                  refine lv_aload_n hx hb dX10_readSaid_128 rfl (lv_at hl 1 rfl) ?_
                  refine lv_aload_n hx hb dX10_readSaid_129 rfl (lv_at hl 1 rfl) ?_
                  refine lv_bipush (v := 50) hx hb dX10_readSaid_130 (by decide) ?_
                  refine lv_iload_n hx hb dX10_readSaid_132 rfl (lv_at hl 3 rfl) ?_
                  refine lv_iadd hx hb dX10_readSaid_133 (lv_topi (fun v_55 e_v_55 => ?_))
                  obtain ⟨t_v_55, r_v_55⟩ := tq_add (lo := 69) (hi := 71) rl_50 r_x2 (by decide +kernel) e_v_55
                  have t_v_55 : v_55.toInt = 50 + x2.toInt := t_v_55
                  have q_v_55 : (50 : Int32) + x2 = v_55 := e_v_55.symm
                  refine lv_iconst (v := 0) hx hb dX10_readSaid_134 (by decide) ?_
                  refine lv_iconst (v := 0) hx hb dX10_readSaid_135 (by decide) ?_
                  refine lv_iconst (v := 0) hx hb dX10_readSaid_136 (by decide) ?_
                  refine tk_i (va_runV (As := [.int v_55, .int 0, .int 0, .int 0]) (rest := [.ref p0]) ⟨hx, hb, hml, hown, hts⟩ (c_X10_saysOne__3 l D cy z H.size Ps ws hw.1 p0 v_55 0 0 0 (gd+1) (gh+1) (gg) sg_34 h_p0 (r_v_55.to (by decide)) (rl_0.to (by decide)) (rl_0.to (by decide)) (rl_0.to (by decide)) x_SNI_p0_gd_1_gh_1_gg o_p0) (cwV 4 hts (gV tw_1771 tw_1773 ts_116 tw_15 tw_1774) rfl rfl rfl (by decide +kernel) ⟨Nat.le_of_ble_eq_true rfl, Nat.le_of_ble_eq_true rfl⟩) (tg_preV hw hK hSD hA (ci := 10) (q := (RX10, TX10, 49)) rfl h_p0 rfl) rfl rfl hl.1 rfl (lv_room (Nat.le_of_ble_eq_true rfl)) dX10_readSaid_137 ⟨Nat.le_of_ble_eq_true rfl, Nat.le_of_ble_eq_true rfl⟩) hw hA ⟨by decide, by decide⟩ (fun v_56 ws H locs hp_v_56 hw hF9 => ?_)
                  have n_k_28 := FLD.over hF9 n_k_28 (by decide)
                  have n_k_31 := FLD.over hF9 n_k_31 (by decide)
                  obtain ⟨hfn, hp_v_56⟩ := hp_v_56
                  obtain ⟨sg_57, q_sg_57⟩ : ∃ q9 : OS, (f_X10_saysOne__3 v_55 (0 : Int32) (0 : Int32) (0 : Int32) sg_34).1 = q9 := ⟨_, rfl⟩
                  have o_p0 : OV vw_M2 Ps ws p0 sg_57 := by rw [← q_sg_57]; exact hfn.1
                  have q_v_56 : (f_X10_saysOne__3 v_55 (0 : Int32) (0 : Int32) (0 : Int32) sg_34).2 = v_56 := hfn.2.1
                  have r_v_56 : RI v_56 0 39 := hp_v_56.1
                  have x_SNL_p0_gd_1_gh_1_gg_v_56 := hp_v_56.2.2.2.1.1
                  refine tg_put (ci := 10) (ts := ty_MODEL) (v := .int v_56) (ty := .int) (C := RX10) (T := TX10) (N := 49) hx hb hts inX10 tyX10 tyX10_ok nmX10 hown hK hw h_p0 rfl rfl 48 (by decide) (hts _ tw_1185) (fun _ h9 => h9) rfl (by decide +kernel) rfl rfl (ft := vI (-2147483648) 2147483647) rfl ⟨_, rfl, (r_v_56.to (by decide))⟩ (by decide) dX10_readSaid_140 (fun ws H locs hw n_k_58 hF9 => ?_)
                  have n_k_28 := FLD.over hF9 n_k_28 (by decide)
                  have n_k_31 := FLD.over hF9 n_k_31 (by decide)
                  have x_SNL_p0_gd_1_gh_1_gg_v_56 := SNL.over hF9 x_SNL_p0_gd_1_gh_1_gg_v_56 (by decide)
                  obtain ⟨sg_59, q_sg_59⟩ : ∃ q9 : OS, sI sg_57 48 v_56 = q9 := ⟨_, rfl⟩
                  have o_p0 : OV vw_M2 Ps ws p0 sg_59 := by rw [← q_sg_59]; exact OV.putI (V := vw_M2) hF9 n_k_58 o_p0 (by decide)
                  have x_SNT_p0_gd_1_gh_1_gg : SNT ws p0 (gd+1) (gh+1) (gg) := (x_SNL_p0_gd_1_gh_1_gg_v_56.weak (d' := gd+1) (h' := gh+1) (g' := gg) (by have k1 := x_SNL_p0_gd_1_gh_1_gg_v_56.le; have d_8 := SNp.le x_SN_p0_gd_gh_gg; omega)).snt n_k_58
                  refine lv_goto (tgt := 166) hx hb dX10_readSaid_143 (by decide) ?_
                  refine lv_aload_n hx hb dX10_readSaid_166 rfl (lv_at hl 1 rfl) ?_
                  refine lv_dup hx hb dX10_readSaid_167 rfl ?_
                  refine tg_mem (ci := 10) (C := RX10) (T := TX10) (N := 49) hx hb hts inX10 hown hK hw 47 n_k_31 rfl (by decide) (hts _ tw_1184) (fun _ h9 => h9) dX10_readSaid_168 ?_
                  refine lv_iconst (v := 1) hx hb dX10_readSaid_171 (by decide) ?_
                  refine lv_isub hx hb dX10_readSaid_172 (lv_topi (fun v_60 e_v_60 => ?_))
                  obtain ⟨t_v_60, r_v_60⟩ := tq_sub (lo := 1) (hi := 1) r_v_30 rl_1 (by decide +kernel) e_v_60
                  have t_v_60 : v_60.toInt = v_30.toInt - 1 := t_v_60
                  have q_v_60 : v_30 - (1 : Int32) = v_60 := e_v_60.symm
                  refine tg_put (ci := 10) (ts := ty_MODEL) (v := .int v_60) (ty := .int) (C := RX10) (T := TX10) (N := 49) hx hb hts inX10 tyX10 tyX10_ok nmX10 hown hK hw h_p0 rfl rfl 47 (by decide) (hts _ tw_1184) (fun _ h9 => h9) rfl (by decide +kernel) rfl rfl (ft := vI (-2147483648) 2147483647) rfl ⟨_, rfl, (r_v_60.to (by decide))⟩ (by decide) dX10_readSaid_173 (fun ws H locs hw n_k_61 hF9 => ?_)
                  have n_k_28 := FLD.over hF9 n_k_28 (by decide)
                  have n_k_58 := FLD.over hF9 n_k_58 (by decide)
                  have x_SNL_p0_gd_1_gh_1_gg_v_56 := SNL.over hF9 x_SNL_p0_gd_1_gh_1_gg_v_56 (by decide)
                  have x_SNT_p0_gd_1_gh_1_gg := SNT.over hF9 x_SNT_p0_gd_1_gh_1_gg (by decide)
                  obtain ⟨sg_62, q_sg_62⟩ : ∃ q9 : OS, sI sg_59 47 v_60 = q9 := ⟨_, rfl⟩
                  have o_p0 : OV vw_M2 Ps ws p0 sg_62 := by rw [← q_sg_62]; exact OV.putI (V := vw_M2) hF9 n_k_61 o_p0 (by decide)
                  refine lv_iload_n hx hb dX10_readSaid_176 rfl (lv_at hl 0 rfl) ?_
                  simp only [f_X10_readSaid__10_30, ↓reduceIte, q_z0_47, eq_true c_31, eq_true c_37, q_vu_24, eq_false c_52, eq_false c_61, q_v_27, q_sg_29, q_v_30, q_sg_32, q_sg_34, eq_true c_97, eq_false c_111, eq_false c_125, q_v_55, q_sg_57, q_v_56, q_sg_59, q_v_60, q_sg_62] at hE
                  subst hQ
                  exact W.zret (v := 1) hx hb hr (rfl) (fun t ht hW => ⟨⟨1, ws, rfl, ⟨⟨⟨(by rw [hR, ← hE]; exact o_p0), (by rw [hR, ← hE]), trivial⟩, rl_1.to (by decide), (fun h0 => absurd h0 (by decide)), (fun h0 => ⟨⟨_, n_k_28, r_v_27⟩, ⟨_, n_k_58, r_v_56⟩, ⟨_, n_k_61, r_v_60⟩, x_SNT_p0_gd_1_gh_1_gg, trivial⟩)⟩, hw.1, hw.2.2.2.2.1⟩, by rw [ht]; exact hw.2.1, va_K.moved hW.alike hK, hw.2.2.1⟩, hw.2.2.2.1.F ht⟩) hw.2.2.2.1.2.2 dX10_readSaid_177
              · have r_x2 : RI x2 18 18 := rc_eq1 r_x2 rl_18 (ti_eq c_111) (by decide)
                refine lv_aload_n hx hb dX10_readSaid_114 rfl (lv_at hl 1 rfl) ?_
                refine tk_i (va_runV (As := []) (rest := []) ⟨hx, hb, hml, hown, hts⟩ (c_X10_readNot__14 l D cy z H.size Ps ws hw.1 p0 v_30 (gd+1) (gh+1) (gg) sg_34 h_p0 r_v_30 n_k_31 x_SNI_p0_gd_1_gh_1_gg o_p0) (cwV 0 hts (gV tw_1767 tw_1769 ts_115 tw_15 tw_1770) rfl rfl rfl (by decide +kernel) ⟨Nat.le_of_ble_eq_true rfl, Nat.le_of_ble_eq_true rfl⟩) (tg_preV hw hK hSD hA (ci := 10) (q := (RX10, TX10, 49)) rfl h_p0 rfl) rfl rfl hl.1 rfl (lv_room (Nat.le_of_ble_eq_true rfl)) dX10_readSaid_115 ⟨Nat.le_of_ble_eq_true rfl, Nat.le_of_ble_eq_true rfl⟩) hw hA ⟨by decide, by decide⟩ (fun v_63 ws H locs hp_v_63 hw hF9 => ?_)
                obtain ⟨hfn, hp_v_63⟩ := hp_v_63
                obtain ⟨sg_64, q_sg_64⟩ : ∃ q9 : OS, (f_X10_readNot__14 sg_34).1 = q9 := ⟨_, rfl⟩
                have o_p0 : OV vw_M2 Ps ws p0 sg_64 := by rw [← q_sg_64]; exact hfn.1
                have q_v_63 : (f_X10_readNot__14 sg_34).2 = v_63 := hfn.2.1
                have r_v_63 : RI v_63 0 1 := hp_v_63.1
                by_cases c9_v_63 : v_63 = 0
                · have r_v_63 : RI v_63 0 0 := by rw [c9_v_63]; exact rl_0
                  obtain ⟨v_65, m_v_65, r_v_65⟩ := ((hp_v_63.2.1 c9_v_63).1)
                  refine lv_istore_n (lv' := [(3, .int v_63), (0, .ref p0), (1, .int x1), (2, .int x2)]) hx hb dX10_readSaid_118 rfl hl (by decide) rfl (fun ls hl => ?_)
                  refine lv_goto (tgt := 166) hx hb dX10_readSaid_119 (by decide) ?_
                  refine lv_aload_n hx hb dX10_readSaid_166 rfl (lv_at hl 1 rfl) ?_
                  refine lv_dup hx hb dX10_readSaid_167 rfl ?_
                  refine tg_mem (ci := 10) (C := RX10) (T := TX10) (N := 49) hx hb hts inX10 hown hK hw 47 m_v_65 rfl (by decide) (hts _ tw_1184) (fun _ h9 => h9) dX10_readSaid_168 ?_
                  have q_v_65 : sg_64.1 47 = v_65 := OV.eqI (V := vw_M2) hw.2.2.1 o_p0 m_v_65 (by decide)
                  refine lv_iconst (v := 1) hx hb dX10_readSaid_171 (by decide) ?_
                  refine lv_isub hx hb dX10_readSaid_172 (lv_topi (fun v_66 e_v_66 => ?_))
                  obtain ⟨t_v_66, r_v_66⟩ := tq_sub (lo := 1) (hi := 1) r_v_65 rl_1 (by decide +kernel) e_v_66
                  have t_v_66 : v_66.toInt = v_65.toInt - 1 := t_v_66
                  have q_v_66 : v_65 - (1 : Int32) = v_66 := e_v_66.symm
                  refine tg_put (ci := 10) (ts := ty_MODEL) (v := .int v_66) (ty := .int) (C := RX10) (T := TX10) (N := 49) hx hb hts inX10 tyX10 tyX10_ok nmX10 hown hK hw h_p0 rfl rfl 47 (by decide) (hts _ tw_1184) (fun _ h9 => h9) rfl (by decide +kernel) rfl rfl (ft := vI (-2147483648) 2147483647) rfl ⟨_, rfl, (r_v_66.to (by decide))⟩ (by decide) dX10_readSaid_173 (fun ws H locs hw n_k_67 hF9 => ?_)
                  obtain ⟨sg_68, q_sg_68⟩ : ∃ q9 : OS, sI sg_64 47 v_66 = q9 := ⟨_, rfl⟩
                  have o_p0 : OV vw_M2 Ps ws p0 sg_68 := by rw [← q_sg_68]; exact OV.putI (V := vw_M2) hF9 n_k_67 o_p0 (by decide)
                  refine lv_iload_n hx hb dX10_readSaid_176 rfl (lv_at hl 0 rfl) ?_
                  simp only [f_X10_readSaid__10_30, ↓reduceIte, q_z0_47, eq_true c_31, eq_true c_37, q_vu_24, eq_false c_52, eq_false c_61, q_v_27, q_sg_29, q_v_30, q_sg_32, q_sg_34, eq_true c_97, eq_true c_111, q_sg_64, q_v_63, eq_true c9_v_63, q_v_65, q_v_66, q_sg_68] at hE
                  subst hQ
                  exact W.zret (v := v_63) hx hb hr (tq_nz (r_v_63.to (by decide))) (fun t ht hW => ⟨⟨v_63, ws, rfl, ⟨⟨⟨(by rw [hR, ← hE]; exact o_p0), (by rw [hR, ← hE]), trivial⟩, r_v_63.to (by decide), (fun h0 => ⟨⟨_, n_k_67, r_v_66⟩, trivial⟩), (fun h0 => absurd (Int32.toInt_inj.mp (by have h8 := r_v_63; unfold RI at h8; rw [Int32.toInt_zero]; omega)) h0)⟩, hw.1, hw.2.2.2.2.1⟩, by rw [ht]; exact hw.2.1, va_K.moved hW.alike hK, hw.2.2.1⟩, hw.2.2.2.1.F ht⟩) hw.2.2.2.1.2.2 dX10_readSaid_177
                · have r_v_63 : RI v_63 1 1 := rc_neL r_v_63 rl_0 (ti_ne c9_v_63) (by decide)
                  obtain ⟨v_69, m_v_69, r_v_69⟩ := ((hp_v_63.2.2 c9_v_63).1)
                  obtain ⟨v_70, m_v_70, r_v_70⟩ := ((hp_v_63.2.2 c9_v_63).2.1)
                  obtain ⟨v_71, m_v_71, r_v_71⟩ := ((hp_v_63.2.2 c9_v_63).2.2.1)
                  have x_SNT_p0_gd_1_gh_1_gg := ((hp_v_63.2.2 c9_v_63).2.2.2.1)
                  refine lv_istore_n (lv' := [(3, .int v_63), (0, .ref p0), (1, .int x1), (2, .int x2)]) hx hb dX10_readSaid_118 rfl hl (by decide) rfl (fun ls hl => ?_)
                  refine lv_goto (tgt := 166) hx hb dX10_readSaid_119 (by decide) ?_
                  refine lv_aload_n hx hb dX10_readSaid_166 rfl (lv_at hl 1 rfl) ?_
                  refine lv_dup hx hb dX10_readSaid_167 rfl ?_
                  refine tg_mem (ci := 10) (C := RX10) (T := TX10) (N := 49) hx hb hts inX10 hown hK hw 47 m_v_70 rfl (by decide) (hts _ tw_1184) (fun _ h9 => h9) dX10_readSaid_168 ?_
                  have q_v_70 : sg_64.1 47 = v_70 := OV.eqI (V := vw_M2) hw.2.2.1 o_p0 m_v_70 (by decide)
                  refine lv_iconst (v := 1) hx hb dX10_readSaid_171 (by decide) ?_
                  refine lv_isub hx hb dX10_readSaid_172 (lv_topi (fun v_72 e_v_72 => ?_))
                  obtain ⟨t_v_72, r_v_72⟩ := tq_sub (lo := 1) (hi := 1) r_v_70 rl_1 (by decide +kernel) e_v_72
                  have t_v_72 : v_72.toInt = v_70.toInt - 1 := t_v_72
                  have q_v_72 : v_70 - (1 : Int32) = v_72 := e_v_72.symm
                  refine tg_put (ci := 10) (ts := ty_MODEL) (v := .int v_72) (ty := .int) (C := RX10) (T := TX10) (N := 49) hx hb hts inX10 tyX10 tyX10_ok nmX10 hown hK hw h_p0 rfl rfl 47 (by decide) (hts _ tw_1184) (fun _ h9 => h9) rfl (by decide +kernel) rfl rfl (ft := vI (-2147483648) 2147483647) rfl ⟨_, rfl, (r_v_72.to (by decide))⟩ (by decide) dX10_readSaid_173 (fun ws H locs hw n_k_73 hF9 => ?_)
                  have m_v_69 := FLD.over hF9 m_v_69 (by decide)
                  have m_v_71 := FLD.over hF9 m_v_71 (by decide)
                  have x_SNT_p0_gd_1_gh_1_gg := SNT.over hF9 x_SNT_p0_gd_1_gh_1_gg (by decide)
                  obtain ⟨sg_74, q_sg_74⟩ : ∃ q9 : OS, sI sg_64 47 v_72 = q9 := ⟨_, rfl⟩
                  have o_p0 : OV vw_M2 Ps ws p0 sg_74 := by rw [← q_sg_74]; exact OV.putI (V := vw_M2) hF9 n_k_73 o_p0 (by decide)
                  refine lv_iload_n hx hb dX10_readSaid_176 rfl (lv_at hl 0 rfl) ?_
                  simp only [f_X10_readSaid__10_30, ↓reduceIte, q_z0_47, eq_true c_31, eq_true c_37, q_vu_24, eq_false c_52, eq_false c_61, q_v_27, q_sg_29, q_v_30, q_sg_32, q_sg_34, eq_true c_97, eq_true c_111, q_sg_64, q_v_63, eq_false c9_v_63, q_v_70, q_v_72, q_sg_74] at hE
                  subst hQ
                  exact W.zret (v := v_63) hx hb hr (tq_nz (r_v_63.to (by decide))) (fun t ht hW => ⟨⟨v_63, ws, rfl, ⟨⟨⟨(by rw [hR, ← hE]; exact o_p0), (by rw [hR, ← hE]), trivial⟩, r_v_63.to (by decide), (fun h0 => absurd (ti_eq h0) (by have h8 := r_v_63; unfold RI at h8; rw [Int32.toInt_zero]; omega)), (fun h0 => ⟨⟨_, m_v_69, r_v_69⟩, ⟨_, m_v_71, r_v_71⟩, ⟨_, n_k_73, r_v_72⟩, x_SNT_p0_gd_1_gh_1_gg, trivial⟩)⟩, hw.1, hw.2.2.2.2.1⟩, by rw [ht]; exact hw.2.1, va_K.moved hW.alike hK, hw.2.2.1⟩, hw.2.2.2.1.F ht⟩) hw.2.2.2.1.2.2 dX10_readSaid_177
            · exact absurd (r_x1.eq.trans rl_0.eq.symm) ((ti_ne c_97))
          · have r_z0_47 : RI z0_47 8 1 := rc_eq1 r_z0_47 rl_8 (ti_eq c_61) (by decide)
            exact (r_z0_47.no (by decide)).elim
      · have r_x2 : RI x2 28 28 := rc_lt2 rl_27 r_x2 (ti_nle c_37) (by decide)
        refine lv_aload_n hx hb dX10_readSaid_40 rfl (lv_at hl 0 rfl) ?_
        refine lv_iconst (v := 1) hx hb dX10_readSaid_41 (by decide) ?_
        refine tk_i (va_runV (As := [.int 1]) (rest := []) ⟨hx, hb, hml, hown, hts⟩ (c_X10_bad__2 l D cy z H.size Ps ws hw.1 p0 1 s0 h_p0 (rl_1.to (by decide)) o_p0) (cwV 1 hts (gV tw_1336 tw_1338 ts_46 tw_15 tw_1339) rfl rfl rfl (by decide +kernel) ⟨Nat.le_of_ble_eq_true rfl, Nat.le_of_ble_eq_true rfl⟩) (tg_preV hw hK hSD hA (ci := 10) (q := (RX10, TX10, 49)) rfl h_p0 rfl) rfl rfl hl.1 rfl (lv_room (Nat.le_of_ble_eq_true rfl)) dX10_readSaid_42 ⟨Nat.le_of_ble_eq_true rfl, Nat.le_of_ble_eq_true rfl⟩) hw hA ⟨by decide, by decide⟩ (fun v_75 ws H locs hp_v_75 hw hF9 => ?_)
        have m_z0_47 := FLD.over hF9 m_z0_47 (by decide)
        have x_SN_p0_gd_gh_gg := SNp.over hF9 x_SN_p0_gd_gh_gg (by decide)
        obtain ⟨hfn, hp_v_75⟩ := hp_v_75
        obtain ⟨sg_76, q_sg_76⟩ : ∃ q9 : OS, (f_X10_bad__1 (1 : Int32) s0).1 = q9 := ⟨_, rfl⟩
        have o_p0 : OV vw_M2 Ps ws p0 sg_76 := by rw [← q_sg_76]; exact hfn.1
        have q_v_75 : (f_X10_bad__1 (1 : Int32) s0).2 = v_75 := hfn.2.1
        have r_v_75 : RI v_75 0 0 := hp_v_75.1
        simp only [f_X10_readSaid__10_30, ↓reduceIte, q_z0_47, eq_true c_31, eq_false c_37, q_sg_76, q_v_75] at hE
        subst hQ
        exact W.zret (v := v_75) hx hb hr (tq_nz (r_v_75.to (by decide))) (fun t ht hW => ⟨⟨v_75, ws, rfl, ⟨⟨⟨(by rw [hR, ← hE]; exact o_p0), (by rw [hR, ← hE]), trivial⟩, r_v_75.to (by decide), (fun h0 => ⟨⟨_, m_z0_47, r_z0_47⟩, trivial⟩), (fun h0 => absurd (Int32.toInt_inj.mp (by have h8 := r_v_75; unfold RI at h8; rw [Int32.toInt_zero]; omega)) h0)⟩, hw.1, hw.2.2.2.2.1⟩, by rw [ht]; exact hw.2.1, va_K.moved hW.alike hK, hw.2.2.1⟩, hw.2.2.2.1.F ht⟩) hw.2.2.2.1.2.2 dX10_readSaid_45
  have B10 : ∀ (nf : Nat) (x1 : Int32) (x2 : Int32) (z0_47 : Int32) (s0 : OS) (ws : va_W) (H : Heap) (locs : List Loc) (ls : Array Slot), 28 - x2.toInt < (nf : Int) → RI x1 0 1 → RI x2 18 28 → RI z0_47 1 1 → FLD ws p0 10 47 (.int z0_47) → SNp ws p0 (gd) (gh) (gg) → OV vw_M2 Ps ws p0 s0 → f_X10_readSaid__10_10 nf x1 x2 s0 = R9 → WD D cy GG A s wr_X10_readSaid__10 wa_X10_readSaid__10 Ps w0 Ps ws H locs → lv_has ls 4 [(0, .ref p0), (1, .int x1), (2, .int x2)] → W p l e (headSpec (Cond.code yX10_readSaid cX10_readSaid 4 (some .boolean) :: gT) ({ frames := 32, cells := 0, slots := 0, locals := 6400 } : Room)).room s m ([.ref p0] : List Value).toArray below meth c H locs 0 0 Q (F0 m 10 ls []) := by
    intro nf10
    induction nf10 with
    | zero =>
      intro x1 x2 z0_47 s0 ws H locs ls hn10 r_x1 r_x2 r_z0_47 m_z0_47 x_SN_p0_gd_gh_gg o_p0 hE hw hl
      exact absurd hn10 (by have q0 := r_x2.1; have u0 := r_x2.2; omega)
    | succ nf10 ih10 =>
      intro x1 x2 z0_47 s0 ws H locs ls hn10 r_x1 r_x2 r_z0_47 m_z0_47 x_SN_p0_gd_gh_gg o_p0 hE hw hl
      have q_z0_47 : s0.1 47 = z0_47 := OV.eqI (V := vw_M2) hw.2.2.1 o_p0 m_z0_47 (by decide)
      refine lv_iload_n hx hb dX10_readSaid_10 rfl (lv_at hl 2 rfl) ?_
      refine lv_bipush (v := 27) hx hb dX10_readSaid_11 (by decide) ?_
      refine lv_icmp_gt (tgt := 30) hx hb dX10_readSaid_13 (by decide) (fun c_13 => ?_) (fun c_13 => ?_)
      · have r_x2 : RI x2 28 28 := rc_lt2 rl_27 r_x2 (ti_lt c_13) (by decide)
        simp only [f_X10_readSaid__10_10, ↓reduceIte, q_z0_47, eq_true c_13] at hE
        exact B30 x1 x2 z0_47 s0 ws _ _ ls r_x1 (r_x2.to (by decide)) r_z0_47 m_z0_47 x_SN_p0_gd_gh_gg o_p0 hE hw hl
      · have r_x2 : RI x2 18 27 := rc_le1 r_x2 rl_27 (ti_nlt c_13) (by decide)
        refine lv_aload_n hx hb dX10_readSaid_16 rfl (lv_at hl 0 rfl) ?_
        refine lv_iload_n hx hb dX10_readSaid_17 rfl (lv_at hl 2 rfl) ?_
        refine tk_ir (va_runV (As := [.int x2]) (rest := []) ⟨hx, hb, hml, hown, hts⟩ (c_X10_isWord__5 l D cy z H.size Ps ws hw.1 p0 x2 s0 h_p0 (r_x2.to (by decide)) o_p0) (cwV 1 hts (gV tw_1318 tw_1320 ts_43 tw_15 tw_1321) rfl rfl rfl (by decide +kernel) ⟨Nat.le_of_ble_eq_true rfl, Nat.le_of_ble_eq_true rfl⟩) (tg_preV hw hK hSD hA (ci := 10) (q := (RX10, TX10, 49)) rfl h_p0 rfl) rfl rfl hl.1 rfl (lv_room (Nat.le_of_ble_eq_true rfl)) dX10_readSaid_18 ⟨Nat.le_of_ble_eq_true rfl, Nat.le_of_ble_eq_true rfl⟩) hw hA (fun v_77  H locs hp_v_77 hw => ?_)
        obtain ⟨hfn, hp_v_77⟩ := hp_v_77
        have q_v_77 : (f_X10_isWord__4 x2 s0) = v_77 := hfn.1
        have r_v_77 : RI v_77 0 1 := hp_v_77.1
        refine lv_if_ne (tgt := 30) hx hb dX10_readSaid_21 (by decide) (fun c_21 => ?_) (fun c_21 => ?_)
        · have r_v_77 : RI v_77 1 1 := rc_neL r_v_77 rl_0 (ti_ne c_21) (by decide)
          simp only [f_X10_readSaid__10_10, ↓reduceIte, q_z0_47, eq_false c_13, q_v_77, eq_false c_21] at hE
          exact B30 x1 x2 z0_47 s0 ws _ _ ls r_x1 (r_x2.to (by decide)) r_z0_47 m_z0_47 x_SN_p0_gd_gh_gg o_p0 hE hw hl
        · have r_v_77 : RI v_77 0 0 := rc_eq1 r_v_77 rl_0 (ti_eq c_21) (by decide)
          obtain ⟨v_78, e_v_78⟩ : ∃ q9 : Int32, q9 = x2 + Int32.ofInt 1 := ⟨_, rfl⟩
          obtain ⟨t_v_78, r_v_78⟩ := tq_add (lo := 19) (hi := 28) r_x2 (show RI (Int32.ofInt 1) 1 1 by unfold RI; decide +kernel) (by decide +kernel) e_v_78
          have t_v_78 : v_78.toInt = x2.toInt + 1 := t_v_78
          refine lv_iinc (v := v_78) (lv' := [(2, .int v_78), (0, .ref p0), (1, .int x1)]) hx hb dX10_readSaid_24 hl (k := 2) rfl e_v_78.symm (by decide) rfl (fun ls hl => ?_)
          have q_v_78 : x2 + (1 : Int32) = v_78 := by rw [e_v_78, show Int32.ofInt 1 = (1 : Int32) by decide]
          refine lv_goto (tgt := 10) hx hb dX10_readSaid_27 (by decide) ?_
          simp only [f_X10_readSaid__10_10, ↓reduceIte, q_z0_47, eq_false c_13, q_v_77, eq_true c_21, q_v_78] at hE
          exact ih10 x1 v_78 z0_47 s0 ws _ _ ls (by have q0 := r_v_78.1; have u0 := r_v_78.2; have o0 := r_x2.1; have p0 := r_x2.2; omega) r_x1 (r_v_78.to (by decide)) r_z0_47 m_z0_47 x_SN_p0_gd_gh_gg o_p0 hE hw (lv_sub hl [1, 2, 0] rfl)
  refine lv_aload_n hx hb dX10_readSaid_0 rfl (lv_at hl 0 rfl) ?_
  refine lv_bipush (v := 40) hx hb dX10_readSaid_1 (by decide) ?_
  refine tk_ir (va_runV (As := [.int 40]) (rest := []) ⟨hx, hb, hml, hown, hts⟩ (c_X10_isSign__2 l D cy z s.heap.size Ps w0 hw.1 p0 40 s0 h_p0 (rl_40.to (by decide)) o_p0) (cwV 1 hts (gV tw_1413 tw_1415 ts_63 tw_15 tw_1416) rfl rfl rfl (by decide +kernel) ⟨Nat.le_of_ble_eq_true rfl, Nat.le_of_ble_eq_true rfl⟩) (tg_preV hw hK hSD hA (ci := 10) (q := (RX10, TX10, 49)) rfl h_p0 rfl) rfl rfl hl.1 rfl (lv_room (Nat.le_of_ble_eq_true rfl)) dX10_readSaid_3 ⟨Nat.le_of_ble_eq_true rfl, Nat.le_of_ble_eq_true rfl⟩) hw hA (fun v_79  H locs hp_v_79 hw => ?_)
  obtain ⟨hfn, hp_v_79⟩ := hp_v_79
  have q_v_79 : (f_X10_isSign__1 (40 : Int32) s0) = v_79 := hfn.1
  have r_v_79 : RI v_79 0 1 := hp_v_79.1
  by_cases c9_v_79 : v_79 = 0
  · have r_v_79 : RI v_79 0 0 := by rw [c9_v_79]; exact rl_0
    refine lv_istore_n (lv' := [(1, .int v_79), (0, .ref p0)]) hx hb dX10_readSaid_6 rfl hl (by decide) rfl (fun ls hl => ?_)
    refine lv_bipush (v := 18) hx hb dX10_readSaid_7 (by decide) ?_
    refine lv_istore_n (lv' := [(2, .int 18), (1, .int v_79), (0, .ref p0)]) hx hb dX10_readSaid_9 rfl hl (by decide) rfl (fun ls hl => ?_)
    simp only [f_X10_readSaid__10, ↓reduceIte, q_v_79, eq_true c9_v_79] at hE
    exact B10 4294967298 v_79 18 f0_47 s0 w0 _ _ ls (by have q0 := rl_18.1; have u0 := rl_18.2; omega) (r_v_79.to (by decide)) (rl_18.to (by decide)) r_f0_47 m_f0_47 x_SN_p0_gd_gh_gg o_p0 hE hw (lv_sub hl [2, 1, 0] rfl)
  · have r_v_79 : RI v_79 1 1 := rc_neL r_v_79 rl_0 (ti_ne c9_v_79) (by decide)
    obtain ⟨v_80, m_v_80, r_v_80⟩ := ((hp_v_79.2.2 c9_v_79).1)
    refine lv_istore_n (lv' := [(1, .int v_79), (0, .ref p0)]) hx hb dX10_readSaid_6 rfl hl (by decide) rfl (fun ls hl => ?_)
    refine lv_bipush (v := 18) hx hb dX10_readSaid_7 (by decide) ?_
    refine lv_istore_n (lv' := [(2, .int 18), (1, .int v_79), (0, .ref p0)]) hx hb dX10_readSaid_9 rfl hl (by decide) rfl (fun ls hl => ?_)
    simp only [f_X10_readSaid__10, ↓reduceIte, q_v_79, eq_false c9_v_79] at hE
    exact B10 4294967298 v_79 18 f0_47 s0 w0 _ _ ls (by have q0 := rl_18.1; have u0 := rl_18.2; omega) (r_v_79.to (by decide)) (rl_18.to (by decide)) r_f0_47 m_f0_47 x_SN_p0_gd_gh_gg o_p0 hE hw (lv_sub hl [2, 1, 0] rfl)
abbrev wr_X10_readAnd__10 : List (Nat × Nat) := [(10, 5), (10, 6), (10, 7), (10, 8), (10, 9), (10, 10), (10, 11), (10, 12), (10, 13), (10, 45), (10, 46), (10, 47), (10, 48)]
abbrev wa_X10_readAnd__10 : List Nat := [54]
set_option maxHeartbeats 4000000 in
set_option maxRecDepth 100000 in
theorem c_X10_readAnd__10 (l : Launch) (D : va_G) (cy : Nat → ClassId) (z : Nat → Nat) (sz : Nat) (Ps : PSI) (w0 : va_W) (hT : HT cy GG Ps w0) (p0 : Nat) (f0_47 : Int32) (gd : Int) (gh : Int) (gg : Int) (s0 : OS) (h_p0 : (p0, 55) ∈ Ps) (r_f0_47 : RI f0_47 1 1) (m_f0_47 : FLD w0 p0 10 47 (.int f0_47)) (x_SN_p0_gd_gh_gg : SNp w0 p0 (gd) (gh) (gg)) (o_p0 : OV vw_M2 Ps w0 p0 s0) : Met l yX10_readAnd (Cond.code yX10_readAnd cX10_readAnd 2 (some .boolean) :: gT) ({ frames := 33, cells := 0, slots := 0, locals := 6600 } : Room) (va_Pc [.ref p0] (PRE D cy z w0 sz)) (va_Qi (fun (r : Int32) (u : va_W) => ((OV vw_M2 Ps u p0 ((f_X10_readAnd__10 s0).1) ∧ (f_X10_readAnd__10 s0).2 = r ∧ True) ∧ (RI r 0 1 ∧ (r = 0 → (∃ v9 : Int32, FLD u p0 10 47 (.int v9) ∧ RI v9 1 1) ∧ True) ∧ (¬ r = 0 → (∃ v9 : Int32, FLD u p0 10 46 (.int v9) ∧ RI v9 1 20) ∧ (∃ v9 : Int32, FLD u p0 10 47 (.int v9) ∧ RI v9 1 1) ∧ (∃ v9 : Int32, FLD u p0 10 48 (.int v9) ∧ RI v9 0 39) ∧ SNT u p0 (gd+1) (gh+1) (gg) ∧ True))) ∧ HT cy GG Ps u ∧ FR wr_X10_readAnd__10 wa_X10_readAnd__10 Ps w0 u) (BB D cy (va_A w0 sz) (fun (u : va_W) => u)) (va_A w0 sz)) 0 0 (va_A w0 sz) := by
  refine Met.ofW (cc := cX10_readAnd) (maxL := 2) (ret := (some .boolean)) (by decide) rfl ?_
  intro p e s m args below meth c s₁ B hml hv
  obtain ⟨rfl, hsz, hP, hK, hD0, hSD⟩ := hv
  have hx := B.exec
  have hb := B.bytes
  have hr := B.returns
  have hlocks := B.notSynchronized
  have hts : ∀ w ∈ gT, w.before _ s = true := fun w h => atoms_spec (ws := Cond.code yX10_readAnd cX10_readAnd 2 (some .boolean) :: gT) B.pre w (List.mem_cons_of_mem _ h)
  have hown : s.vm.findClass RX10 = some m.cls := findClass_of_methodNamed B.named
  subst hsz
  have hD := hD0.self (sz := s.heap.size)
  generalize hAe : va_A w0 s.heap.size = A at hD hSD ⊢
  have hA : ∀ q : Nat, s.heap.size ≤ q → A q := fun q h => by rw [← hAe]; exact Or.inr h
  have hl := lv_entry ([.ref p0]) (n := 2) (Nat.le_of_ble_eq_true rfl)
  rw [lg_entry_eq]
  generalize (lg_sl ([.ref p0]) ++ List.replicate (2 - (lg_sl ([.ref p0])).length) Slot.unset).toArray = ls at hl ⊢
  have hl : lv_has ls 2 [(0, .ref p0)] := hl
  refine nameQ (fun Q hQ => ?_)
  have hw : WD D cy GG A s wr_X10_readAnd__10 wa_X10_readAnd__10 Ps w0 Ps w0 s.heap [] := ⟨hT, hP, hD, va_S.rf, FR.rf, hT.1, [], (List.append_nil _).symm⟩
  obtain ⟨R9, hR⟩ : ∃ q9 : OS × Int32, f_X10_readAnd__10 s0 = q9 := ⟨_, rfl⟩
  have hE := hR
  have B14 : ∀ (nf : Nat) (x1 : Int32) (z0_46 : Int32) (z0_47 : Int32) (z0_48 : Int32) (gz : Int) (s0 : OS) (ws : va_W) (H : Heap) (locs : List Loc) (ls : Array Slot), 21 - gz < (nf : Int) → RI x1 0 39 → RI z0_46 1 20 → FLD ws p0 10 46 (.int z0_46) → RI z0_47 1 1 → FLD ws p0 10 47 (.int z0_47) → RI z0_48 0 39 → FLD ws p0 10 48 (.int z0_48) → (SNL ws p0 (gd+1) (gz) (gg) x1 ∧ gh + 1 ≤ gz) → OV vw_M2 Ps ws p0 s0 → f_X10_readAnd__10_14 nf x1 s0 = R9 → WD D cy GG A s wr_X10_readAnd__10 wa_X10_readAnd__10 Ps w0 Ps ws H locs → lv_has ls 2 [(0, .ref p0), (1, .int x1)] → W p l e (headSpec (Cond.code yX10_readAnd cX10_readAnd 2 (some .boolean) :: gT) ({ frames := 33, cells := 0, slots := 0, locals := 6600 } : Room)).room s m ([.ref p0] : List Value).toArray below meth c H locs 0 0 Q (F0 m 14 ls []) := by
    intro nf14
    induction nf14 with
    | zero =>
      intro x1 z0_46 z0_47 z0_48 gz s0 ws H locs ls hn14 r_x1 r_z0_46 m_z0_46 r_z0_47 m_z0_47 r_z0_48 m_z0_48 x_SNW_p0_gd_1_gz_gg__1 o_p0 hE hw hl
      exact absurd hn14 (by have q9 := SNL.le x_SNW_p0_gd_1_gz_gg__1.1; omega)
    | succ nf14 ih14 =>
      intro x1 z0_46 z0_47 z0_48 gz s0 ws H locs ls hn14 r_x1 r_z0_46 m_z0_46 r_z0_47 m_z0_47 r_z0_48 m_z0_48 x_SNW_p0_gd_1_gz_gg__1 o_p0 hE hw hl
      have q_z0_46 : s0.1 46 = z0_46 := OV.eqI (V := vw_M2) hw.2.2.1 o_p0 m_z0_46 (by decide)
      have q_z0_47 : s0.1 47 = z0_47 := OV.eqI (V := vw_M2) hw.2.2.1 o_p0 m_z0_47 (by decide)
      have q_z0_48 : s0.1 48 = z0_48 := OV.eqI (V := vw_M2) hw.2.2.1 o_p0 m_z0_48 (by decide)
      refine lv_aload_n hx hb dX10_readAnd_14 rfl (lv_at hl 0 rfl) ?_
      refine lv_bipush (v := 17) hx hb dX10_readAnd_15 (by decide) ?_
      refine tk_ir (va_runV (As := [.int 17]) (rest := []) ⟨hx, hb, hml, hown, hts⟩ (c_X10_isWord__5 l D cy z H.size Ps ws hw.1 p0 17 s0 h_p0 (rl_17.to (by decide)) o_p0) (cwV 1 hts (gV tw_1318 tw_1320 ts_43 tw_15 tw_1321) rfl rfl rfl (by decide +kernel) ⟨Nat.le_of_ble_eq_true rfl, Nat.le_of_ble_eq_true rfl⟩) (tg_preV hw hK hSD hA (ci := 10) (q := (RX10, TX10, 49)) rfl h_p0 rfl) rfl rfl hl.1 rfl (lv_room (Nat.le_of_ble_eq_true rfl)) dX10_readAnd_17 ⟨Nat.le_of_ble_eq_true rfl, Nat.le_of_ble_eq_true rfl⟩) hw hA (fun v_1  H locs hp_v_1 hw => ?_)
      obtain ⟨hfn, hp_v_1⟩ := hp_v_1
      have q_v_1 : (f_X10_isWord__4 (17 : Int32) s0) = v_1 := hfn.1
      have r_v_1 : RI v_1 0 1 := hp_v_1.1
      refine lv_if_eq (tgt := 51) hx hb dX10_readAnd_20 (by decide) (fun c_20 => ?_) (fun c_20 => ?_)
      · have r_v_1 : RI v_1 0 0 := rc_eq1 r_v_1 rl_0 (ti_eq c_20) (by decide)
        refine lv_aload_n hx hb dX10_readAnd_51 rfl (lv_at hl 0 rfl) ?_
        refine lv_iload_n hx hb dX10_readAnd_52 rfl (lv_at hl 1 rfl) ?_
        refine tg_put (ci := 10) (ts := ty_MODEL) (v := .int x1) (ty := .int) (C := RX10) (T := TX10) (N := 49) hx hb hts inX10 tyX10 tyX10_ok nmX10 hown hK hw h_p0 rfl rfl 48 (by decide) (hts _ tw_1185) (fun _ h9 => h9) rfl (by decide +kernel) rfl rfl (ft := vI (-2147483648) 2147483647) rfl ⟨_, rfl, (r_x1.to (by decide))⟩ (by decide) dX10_readAnd_53 (fun ws H locs hw n_k_2 hF9 => ?_)
        have m_z0_46 := FLD.over hF9 m_z0_46 (by decide)
        have m_z0_47 := FLD.over hF9 m_z0_47 (by decide)
        have x_SNW_p0_gd_1_gz_gg__1 := SNW.over hF9 x_SNW_p0_gd_1_gz_gg__1 (by decide)
        obtain ⟨sg_3, q_sg_3⟩ : ∃ q9 : OS, sI s0 48 x1 = q9 := ⟨_, rfl⟩
        have o_p0 : OV vw_M2 Ps ws p0 sg_3 := by rw [← q_sg_3]; exact OV.putI (V := vw_M2) hF9 n_k_2 o_p0 (by decide)
        have f6 := SNL.le x_SNW_p0_gd_1_gz_gg__1.1
        have f7 := x_SNW_p0_gd_1_gz_gg__1.2
        have x_SNT_p0_gd_1_gh_1_gg : SNT ws p0 (gd+1) (gh+1) (gg) := (SNL.snt x_SNW_p0_gd_1_gz_gg__1.1 n_k_2).weak (by have d_8 := SNp.le x_SN_p0_gd_gh_gg; omega)
        refine lv_iconst (v := 1) hx hb dX10_readAnd_56 (by decide) ?_
        simp only [f_X10_readAnd__10_14, ↓reduceIte, q_z0_46, q_z0_47, q_z0_48, q_v_1, eq_true c_20, q_sg_3] at hE
        subst hQ
        exact W.zret (v := 1) hx hb hr (rfl) (fun t ht hW => ⟨⟨1, ws, rfl, ⟨⟨⟨(by rw [hR, ← hE]; exact o_p0), (by rw [hR, ← hE]), trivial⟩, rl_1.to (by decide), (fun h0 => absurd h0 (by decide)), (fun h0 => ⟨⟨_, m_z0_46, r_z0_46⟩, ⟨_, m_z0_47, r_z0_47⟩, ⟨_, n_k_2, r_x1⟩, x_SNT_p0_gd_1_gh_1_gg, trivial⟩)⟩, hw.1, hw.2.2.2.2.1⟩, by rw [ht]; exact hw.2.1, va_K.moved hW.alike hK, hw.2.2.1⟩, hw.2.2.2.1.F ht⟩) hw.2.2.2.1.2.2 dX10_readAnd_57
      · have r_v_1 : RI v_1 1 1 := rc_neL r_v_1 rl_0 (ti_ne c_20) (by decide)
        refine lv_aload_n hx hb dX10_readAnd_23 rfl (lv_at hl 0 rfl) ?_
        refine tk_v (va_runV (As := []) (rest := []) ⟨hx, hb, hml, hown, hts⟩ (c_X10_go__4 l D cy z H.size Ps ws hw.1 p0 s0 h_p0 o_p0) (cwV 0 hts (gV tw_1298 tw_1300 ts_40 tw_15 tw_1301) rfl rfl rfl (by decide +kernel) ⟨Nat.le_of_ble_eq_true rfl, Nat.le_of_ble_eq_true rfl⟩) (tg_preV hw hK hSD hA (ci := 10) (q := (RX10, TX10, 49)) rfl h_p0 rfl) rfl rfl hl.1 rfl (lv_room (Nat.le_of_ble_eq_true rfl)) dX10_readAnd_24 ⟨Nat.le_of_ble_eq_true rfl, Nat.le_of_ble_eq_true rfl⟩) hw hA ⟨by decide, by decide⟩ (fun ws H locs hp_v_4 hw hF9 => ?_)
        have m_z0_46 := FLD.over hF9 m_z0_46 (by decide)
        have m_z0_47 := FLD.over hF9 m_z0_47 (by decide)
        have m_z0_48 := FLD.over hF9 m_z0_48 (by decide)
        have x_SNW_p0_gd_1_gz_gg__1 := SNW.over hF9 x_SNW_p0_gd_1_gz_gg__1 (by decide)
        obtain ⟨hfn, hp_v_4⟩ := hp_v_4
        obtain ⟨sg_5, q_sg_5⟩ : ∃ q9 : OS, (f_X10_go__2 s0) = q9 := ⟨_, rfl⟩
        have o_p0 : OV vw_M2 Ps ws p0 sg_5 := by rw [← q_sg_5]; exact hfn.1
        refine lv_aload_n hx hb dX10_readAnd_27 rfl (lv_at hl 0 rfl) ?_
        have f9 := SNL.sn x_SNW_p0_gd_1_gz_gg__1.1
        have f8 := f9.2
        have f7 := x_SNW_p0_gd_1_gz_gg__1.2
        have f6 := SNL.le x_SNW_p0_gd_1_gz_gg__1.1
        have x_SN_p0_gd_1_gz_max_gg__Int32_toInt_x1___1_ : SNp ws p0 (gd+1) (gz) (max gg (Int32.toInt x1 + 1)) := f9.1
        refine tk_i (va_runV (As := []) (rest := []) ⟨hx, hb, hml, hown, hts⟩ (c_X10_readSaid__10 l D cy z H.size Ps ws hw.1 p0 z0_47 (gd+1) (gz) (max gg (Int32.toInt x1 + 1)) sg_5 h_p0 r_z0_47 m_z0_47 x_SN_p0_gd_1_gz_max_gg__Int32_toInt_x1___1_ o_p0) (cwV 0 hts (gV tw_1759 tw_1761 ts_113 tw_15 tw_1762) rfl rfl rfl (by decide +kernel) ⟨Nat.le_of_ble_eq_true rfl, Nat.le_of_ble_eq_true rfl⟩) (tg_preV hw hK hSD hA (ci := 10) (q := (RX10, TX10, 49)) rfl h_p0 rfl) rfl rfl hl.1 rfl (lv_room (Nat.le_of_ble_eq_true rfl)) dX10_readAnd_28 ⟨Nat.le_of_ble_eq_true rfl, Nat.le_of_ble_eq_true rfl⟩) hw hA ⟨by decide, by decide⟩ (fun v_6 ws H locs hp_v_6 hw hF9 => ?_)
        obtain ⟨hfn, hp_v_6⟩ := hp_v_6
        obtain ⟨sg_7, q_sg_7⟩ : ∃ q9 : OS, (f_X10_readSaid__10 sg_5).1 = q9 := ⟨_, rfl⟩
        have o_p0 : OV vw_M2 Ps ws p0 sg_7 := by rw [← q_sg_7]; exact hfn.1
        have q_v_6 : (f_X10_readSaid__10 sg_5).2 = v_6 := hfn.2.1
        have r_v_6 : RI v_6 0 1 := hp_v_6.1
        by_cases c9_v_6 : v_6 = 0
        · have r_v_6 : RI v_6 0 0 := by rw [c9_v_6]; exact rl_0
          obtain ⟨v_8, m_v_8, r_v_8⟩ := ((hp_v_6.2.1 c9_v_6).1)
          refine lv_if_ne (tgt := 36) hx hb dX10_readAnd_31 (by decide) (fun c_31 => ?_) (fun c_31 => ?_)
          · exact absurd (r_v_6.eq.trans rl_0.eq.symm) ((ti_ne c_31))
          · refine lv_iconst (v := 0) hx hb dX10_readAnd_34 (by decide) ?_
            simp only [f_X10_readAnd__10_14, ↓reduceIte, q_z0_46, q_z0_47, q_z0_48, q_v_1, eq_false c_20, q_sg_5, q_sg_7, q_v_6, eq_true c9_v_6, eq_true c_31] at hE
            subst hQ
            exact W.zret (v := 0) hx hb hr (rfl) (fun t ht hW => ⟨⟨0, ws, rfl, ⟨⟨⟨(by rw [hR, ← hE]; exact o_p0), (by rw [hR, ← hE]), trivial⟩, rl_0.to (by decide), (fun h0 => ⟨⟨_, m_v_8, r_v_8⟩, trivial⟩), (fun h0 => absurd rfl h0)⟩, hw.1, hw.2.2.2.2.1⟩, by rw [ht]; exact hw.2.1, va_K.moved hW.alike hK, hw.2.2.1⟩, hw.2.2.2.1.F ht⟩) hw.2.2.2.1.2.2 dX10_readAnd_35
        · have r_v_6 : RI v_6 1 1 := rc_neL r_v_6 rl_0 (ti_ne c9_v_6) (by decide)
          obtain ⟨v_9, m_v_9, r_v_9⟩ := ((hp_v_6.2.2 c9_v_6).1)
          obtain ⟨v_10, m_v_10, r_v_10⟩ := ((hp_v_6.2.2 c9_v_6).2.1)
          obtain ⟨v_11, m_v_11, r_v_11⟩ := ((hp_v_6.2.2 c9_v_6).2.2.1)
          have x_SNT_p0_gd_2_gz_1_max_gg__Int32_toInt_x1___1_ := ((hp_v_6.2.2 c9_v_6).2.2.2.1)
          refine lv_if_ne (tgt := 36) hx hb dX10_readAnd_31 (by decide) (fun c_31 => ?_) (fun c_31 => ?_)
          · refine lv_aload_n hx hb dX10_readAnd_36 rfl (lv_at hl 0 rfl) ?_
            refine lv_iconst (v := 2) hx hb dX10_readAnd_37 (by decide) ?_
            refine lv_iload_n hx hb dX10_readAnd_38 rfl (lv_at hl 1 rfl) ?_
            refine lv_aload_n hx hb dX10_readAnd_39 rfl (lv_at hl 0 rfl) ?_
            refine tg_mem (ci := 10) (C := RX10) (T := TX10) (N := 49) hx hb hts inX10 hown hK hw 48 m_v_10 rfl (by decide) (hts _ tw_1185) (fun _ h9 => h9) dX10_readAnd_40 ?_
            have q_v_10 : sg_7.1 48 = v_10 := OV.eqI (V := vw_M2) hw.2.2.1 o_p0 m_v_10 (by decide)
            refine lv_iconst (v := 0) hx hb dX10_readAnd_43 (by decide) ?_
            have l9 := SNT.top hw x_SNT_p0_gd_2_gz_1_max_gg__Int32_toInt_x1___1_ m_v_10
            have l8 := SNT.sn x_SNT_p0_gd_2_gz_1_max_gg__Int32_toInt_x1___1_
            have x_SNI_p0_gd_1_gz_1_gg : SNI ws p0 (gd+1) (gz+1) (gg) := SNp.sni l8 (by have d_8 := SNp.le x_SN_p0_gd_gh_gg; omega)
            have x_LTN_p0_x1 : LTN ws p0 (x1) := SNp.ltn l8 f8
            have x_LTN_p0_v_10 : LTN ws p0 (v_10) := l9.ltn
            refine tk_i (va_runV (As := [.int 2, .int x1, .int v_10, .int 0]) (rest := []) ⟨hx, hb, hml, hown, hts⟩ (c_X10_saysOne__4 l D cy z H.size Ps ws hw.1 p0 2 x1 v_10 0 (gd+1) (gz+1) (gg) sg_7 h_p0 (rl_2.to (by decide)) (r_x1.to (by decide)) (r_v_10.to (by decide)) (rl_0.to (by decide)) x_SNI_p0_gd_1_gz_1_gg x_LTN_p0_x1 x_LTN_p0_v_10 o_p0) (cwV 4 hts (gV tw_1771 tw_1773 ts_116 tw_15 tw_1774) rfl rfl rfl (by decide +kernel) ⟨Nat.le_of_ble_eq_true rfl, Nat.le_of_ble_eq_true rfl⟩) (tg_preV hw hK hSD hA (ci := 10) (q := (RX10, TX10, 49)) rfl h_p0 rfl) rfl rfl hl.1 rfl (lv_room (Nat.le_of_ble_eq_true rfl)) dX10_readAnd_44 ⟨Nat.le_of_ble_eq_true rfl, Nat.le_of_ble_eq_true rfl⟩) hw hA ⟨by decide, by decide⟩ (fun v_12 ws H locs hp_v_12 hw hF9 => ?_)
            have m_v_9 := FLD.over hF9 m_v_9 (by decide)
            have m_v_10 := FLD.over hF9 m_v_10 (by decide)
            have m_v_11 := FLD.over hF9 m_v_11 (by decide)
            obtain ⟨hfn, hp_v_12⟩ := hp_v_12
            obtain ⟨sg_13, q_sg_13⟩ : ∃ q9 : OS, (f_X10_saysOne__3 (2 : Int32) x1 v_10 (0 : Int32) sg_7).1 = q9 := ⟨_, rfl⟩
            have o_p0 : OV vw_M2 Ps ws p0 sg_13 := by rw [← q_sg_13]; exact hfn.1
            have q_v_12 : (f_X10_saysOne__3 (2 : Int32) x1 v_10 (0 : Int32) sg_7).2 = v_12 := hfn.2.1
            have r_v_12 : RI v_12 0 39 := hp_v_12.1
            have x_SNL_p0_gd_1_gz_1_gg_v_12 := hp_v_12.2.2.2.1.1
            refine lv_istore_n (lv' := [(1, .int v_12), (0, .ref p0)]) hx hb dX10_readAnd_47 rfl hl (by decide) rfl (fun ls hl => ?_)
            refine lv_goto (tgt := 14) hx hb dX10_readAnd_48 (by decide) ?_
            simp only [f_X10_readAnd__10_14, ↓reduceIte, q_z0_46, q_z0_47, q_z0_48, q_v_1, eq_false c_20, q_sg_5, q_sg_7, q_v_6, eq_false c9_v_6, eq_false c_31, q_v_10, q_sg_13, q_v_12] at hE
            have x_SNW_p0_gd_1_gz_1_gg_v_12 : (SNL ws p0 (gd+1) (gz+1) (gg) v_12 ∧ gh + 1 ≤ gz+1) := ⟨x_SNL_p0_gd_1_gz_1_gg_v_12, by omega⟩
            exact ih14 v_12 v_9 v_11 v_10 (gz+1) sg_13 ws _ _ ls (by have d_8 := SNp.le x_SN_p0_gd_gh_gg; omega) r_v_12 r_v_9 m_v_9 r_v_11 m_v_11 r_v_10 m_v_10 x_SNW_p0_gd_1_gz_1_gg_v_12 o_p0 hE hw (lv_sub hl [1, 0] rfl)
          · have r_v_6 : RI v_6 1 0 := rc_eq1 r_v_6 rl_0 (ti_eq c_31) (by decide)
            exact (r_v_6.no (by decide)).elim
  refine lv_aload_n hx hb dX10_readAnd_0 rfl (lv_at hl 0 rfl) ?_
  refine tk_i (va_runV (As := []) (rest := []) ⟨hx, hb, hml, hown, hts⟩ (c_X10_readSaid__10 l D cy z s.heap.size Ps w0 hw.1 p0 f0_47 (gd) (gh) (gg) s0 h_p0 r_f0_47 m_f0_47 x_SN_p0_gd_gh_gg o_p0) (cwV 0 hts (gV tw_1759 tw_1761 ts_113 tw_15 tw_1762) rfl rfl rfl (by decide +kernel) ⟨Nat.le_of_ble_eq_true rfl, Nat.le_of_ble_eq_true rfl⟩) (tg_preV hw hK hSD hA (ci := 10) (q := (RX10, TX10, 49)) rfl h_p0 rfl) rfl rfl hl.1 rfl (lv_room (Nat.le_of_ble_eq_true rfl)) dX10_readAnd_1 ⟨Nat.le_of_ble_eq_true rfl, Nat.le_of_ble_eq_true rfl⟩) hw hA ⟨by decide, by decide⟩ (fun v_14 ws H locs hp_v_14 hw hF9 => ?_)
  obtain ⟨hfn, hp_v_14⟩ := hp_v_14
  obtain ⟨sg_15, q_sg_15⟩ : ∃ q9 : OS, (f_X10_readSaid__10 s0).1 = q9 := ⟨_, rfl⟩
  have o_p0 : OV vw_M2 Ps ws p0 sg_15 := by rw [← q_sg_15]; exact hfn.1
  have q_v_14 : (f_X10_readSaid__10 s0).2 = v_14 := hfn.2.1
  have r_v_14 : RI v_14 0 1 := hp_v_14.1
  by_cases c9_v_14 : v_14 = 0
  · have r_v_14 : RI v_14 0 0 := by rw [c9_v_14]; exact rl_0
    obtain ⟨v_16, m_v_16, r_v_16⟩ := ((hp_v_14.2.1 c9_v_14).1)
    refine lv_if_ne (tgt := 9) hx hb dX10_readAnd_4 (by decide) (fun c_4 => ?_) (fun c_4 => ?_)
    · exact absurd (r_v_14.eq.trans rl_0.eq.symm) ((ti_ne c_4))
    · refine lv_iconst (v := 0) hx hb dX10_readAnd_7 (by decide) ?_
      simp only [f_X10_readAnd__10, ↓reduceIte, q_sg_15, q_v_14, eq_true c9_v_14, eq_true c_4] at hE
      subst hQ
      exact W.zret (v := 0) hx hb hr (rfl) (fun t ht hW => ⟨⟨0, ws, rfl, ⟨⟨⟨(by rw [hR, ← hE]; exact o_p0), (by rw [hR, ← hE]), trivial⟩, rl_0.to (by decide), (fun h0 => ⟨⟨_, m_v_16, r_v_16⟩, trivial⟩), (fun h0 => absurd rfl h0)⟩, hw.1, hw.2.2.2.2.1⟩, by rw [ht]; exact hw.2.1, va_K.moved hW.alike hK, hw.2.2.1⟩, hw.2.2.2.1.F ht⟩) hw.2.2.2.1.2.2 dX10_readAnd_8
  · have r_v_14 : RI v_14 1 1 := rc_neL r_v_14 rl_0 (ti_ne c9_v_14) (by decide)
    obtain ⟨v_17, m_v_17, r_v_17⟩ := ((hp_v_14.2.2 c9_v_14).1)
    obtain ⟨v_18, m_v_18, r_v_18⟩ := ((hp_v_14.2.2 c9_v_14).2.1)
    obtain ⟨v_19, m_v_19, r_v_19⟩ := ((hp_v_14.2.2 c9_v_14).2.2.1)
    have x_SNT_p0_gd_1_gh_1_gg := ((hp_v_14.2.2 c9_v_14).2.2.2.1)
    refine lv_if_ne (tgt := 9) hx hb dX10_readAnd_4 (by decide) (fun c_4 => ?_) (fun c_4 => ?_)
    · refine lv_aload_n hx hb dX10_readAnd_9 rfl (lv_at hl 0 rfl) ?_
      refine tg_mem (ci := 10) (C := RX10) (T := TX10) (N := 49) hx hb hts inX10 hown hK hw 48 m_v_18 rfl (by decide) (hts _ tw_1185) (fun _ h9 => h9) dX10_readAnd_10 ?_
      have q_v_18 : sg_15.1 48 = v_18 := OV.eqI (V := vw_M2) hw.2.2.1 o_p0 m_v_18 (by decide)
      refine lv_istore_n (lv' := [(1, .int v_18), (0, .ref p0)]) hx hb dX10_readAnd_13 rfl hl (by decide) rfl (fun ls hl => ?_)
      simp only [f_X10_readAnd__10, ↓reduceIte, q_sg_15, q_v_14, eq_false c9_v_14, eq_false c_4, q_v_18] at hE
      have x_SNW_p0_gd_1_gh_1_gg_v_18 : (SNL ws p0 (gd+1) (gh+1) (gg) v_18 ∧ gh + 1 ≤ gh+1) := ⟨SNT.top hw x_SNT_p0_gd_1_gh_1_gg m_v_18, by omega⟩
      exact B14 4294967298 v_18 v_17 v_19 v_18 (gh+1) sg_15 ws _ _ ls (by have d_8 := SNp.le x_SN_p0_gd_gh_gg; omega) r_v_18 r_v_17 m_v_17 r_v_19 m_v_19 r_v_18 m_v_18 x_SNW_p0_gd_1_gh_1_gg_v_18 o_p0 hE hw (lv_sub hl [1, 0] rfl)
    · have r_v_14 : RI v_14 1 0 := rc_eq1 r_v_14 rl_0 (ti_eq c_4) (by decide)
      exact (r_v_14.no (by decide)).elim
abbrev wr_X10_readOr__10 : List (Nat × Nat) := [(10, 5), (10, 6), (10, 7), (10, 8), (10, 9), (10, 10), (10, 11), (10, 12), (10, 13), (10, 45), (10, 46), (10, 47), (10, 48)]
abbrev wa_X10_readOr__10 : List Nat := [54]
set_option maxHeartbeats 4000000 in
set_option maxRecDepth 100000 in
theorem c_X10_readOr__10 (l : Launch) (D : va_G) (cy : Nat → ClassId) (z : Nat → Nat) (sz : Nat) (Ps : PSI) (w0 : va_W) (hT : HT cy GG Ps w0) (p0 : Nat) (f0_47 : Int32) (gd : Int) (gh : Int) (gg : Int) (s0 : OS) (h_p0 : (p0, 55) ∈ Ps) (r_f0_47 : RI f0_47 1 1) (m_f0_47 : FLD w0 p0 10 47 (.int f0_47)) (x_SN_p0_gd_gh_gg : SNp w0 p0 (gd) (gh) (gg)) (o_p0 : OV vw_M2 Ps w0 p0 s0) : Met l yX10_readOr (Cond.code yX10_readOr cX10_readOr 2 (some .boolean) :: gT) ({ frames := 34, cells := 0, slots := 0, locals := 6800 } : Room) (va_Pc [.ref p0] (PRE D cy z w0 sz)) (va_Qi (fun (r : Int32) (u : va_W) => ((OV vw_M2 Ps u p0 ((f_X10_readOr__10 s0).1) ∧ (f_X10_readOr__10 s0).2 = r ∧ True) ∧ (RI r 0 1 ∧ (r = 0 → (∃ v9 : Int32, FLD u p0 10 47 (.int v9) ∧ RI v9 1 1) ∧ True) ∧ (¬ r = 0 → (∃ v9 : Int32, FLD u p0 10 46 (.int v9) ∧ RI v9 1 20) ∧ (∃ v9 : Int32, FLD u p0 10 47 (.int v9) ∧ RI v9 1 1) ∧ (∃ v9 : Int32, FLD u p0 10 48 (.int v9) ∧ RI v9 0 39) ∧ SNT u p0 (gd+1) (gh+1) (gg) ∧ True))) ∧ HT cy GG Ps u ∧ FR wr_X10_readOr__10 wa_X10_readOr__10 Ps w0 u) (BB D cy (va_A w0 sz) (fun (u : va_W) => u)) (va_A w0 sz)) 0 0 (va_A w0 sz) := by
  refine Met.ofW (cc := cX10_readOr) (maxL := 2) (ret := (some .boolean)) (by decide) rfl ?_
  intro p e s m args below meth c s₁ B hml hv
  obtain ⟨rfl, hsz, hP, hK, hD0, hSD⟩ := hv
  have hx := B.exec
  have hb := B.bytes
  have hr := B.returns
  have hlocks := B.notSynchronized
  have hts : ∀ w ∈ gT, w.before _ s = true := fun w h => atoms_spec (ws := Cond.code yX10_readOr cX10_readOr 2 (some .boolean) :: gT) B.pre w (List.mem_cons_of_mem _ h)
  have hown : s.vm.findClass RX10 = some m.cls := findClass_of_methodNamed B.named
  subst hsz
  have hD := hD0.self (sz := s.heap.size)
  generalize hAe : va_A w0 s.heap.size = A at hD hSD ⊢
  have hA : ∀ q : Nat, s.heap.size ≤ q → A q := fun q h => by rw [← hAe]; exact Or.inr h
  have hl := lv_entry ([.ref p0]) (n := 2) (Nat.le_of_ble_eq_true rfl)
  rw [lg_entry_eq]
  generalize (lg_sl ([.ref p0]) ++ List.replicate (2 - (lg_sl ([.ref p0])).length) Slot.unset).toArray = ls at hl ⊢
  have hl : lv_has ls 2 [(0, .ref p0)] := hl
  refine nameQ (fun Q hQ => ?_)
  have hw : WD D cy GG A s wr_X10_readOr__10 wa_X10_readOr__10 Ps w0 Ps w0 s.heap [] := ⟨hT, hP, hD, va_S.rf, FR.rf, hT.1, [], (List.append_nil _).symm⟩
  obtain ⟨R9, hR⟩ : ∃ q9 : OS × Int32, f_X10_readOr__10 s0 = q9 := ⟨_, rfl⟩
  have hE := hR
  have B14 : ∀ (nf : Nat) (x1 : Int32) (z0_46 : Int32) (z0_47 : Int32) (z0_48 : Int32) (gz : Int) (s0 : OS) (ws : va_W) (H : Heap) (locs : List Loc) (ls : Array Slot), 21 - gz < (nf : Int) → RI x1 0 39 → RI z0_46 1 20 → FLD ws p0 10 46 (.int z0_46) → RI z0_47 1 1 → FLD ws p0 10 47 (.int z0_47) → RI z0_48 0 39 → FLD ws p0 10 48 (.int z0_48) → (SNL ws p0 (gd+1) (gz) (gg) x1 ∧ gh + 1 ≤ gz) → OV vw_M2 Ps ws p0 s0 → f_X10_readOr__10_14 nf x1 s0 = R9 → WD D cy GG A s wr_X10_readOr__10 wa_X10_readOr__10 Ps w0 Ps ws H locs → lv_has ls 2 [(0, .ref p0), (1, .int x1)] → W p l e (headSpec (Cond.code yX10_readOr cX10_readOr 2 (some .boolean) :: gT) ({ frames := 34, cells := 0, slots := 0, locals := 6800 } : Room)).room s m ([.ref p0] : List Value).toArray below meth c H locs 0 0 Q (F0 m 14 ls []) := by
    intro nf14
    induction nf14 with
    | zero =>
      intro x1 z0_46 z0_47 z0_48 gz s0 ws H locs ls hn14 r_x1 r_z0_46 m_z0_46 r_z0_47 m_z0_47 r_z0_48 m_z0_48 x_SNW_p0_gd_1_gz_gg__1 o_p0 hE hw hl
      exact absurd hn14 (by have q9 := SNL.le x_SNW_p0_gd_1_gz_gg__1.1; omega)
    | succ nf14 ih14 =>
      intro x1 z0_46 z0_47 z0_48 gz s0 ws H locs ls hn14 r_x1 r_z0_46 m_z0_46 r_z0_47 m_z0_47 r_z0_48 m_z0_48 x_SNW_p0_gd_1_gz_gg__1 o_p0 hE hw hl
      have q_z0_46 : s0.1 46 = z0_46 := OV.eqI (V := vw_M2) hw.2.2.1 o_p0 m_z0_46 (by decide)
      have q_z0_47 : s0.1 47 = z0_47 := OV.eqI (V := vw_M2) hw.2.2.1 o_p0 m_z0_47 (by decide)
      have q_z0_48 : s0.1 48 = z0_48 := OV.eqI (V := vw_M2) hw.2.2.1 o_p0 m_z0_48 (by decide)
      refine lv_aload_n hx hb dX10_readOr_14 rfl (lv_at hl 0 rfl) ?_
      refine lv_bipush (v := 16) hx hb dX10_readOr_15 (by decide) ?_
      refine tk_ir (va_runV (As := [.int 16]) (rest := []) ⟨hx, hb, hml, hown, hts⟩ (c_X10_isWord__5 l D cy z H.size Ps ws hw.1 p0 16 s0 h_p0 (rl_16.to (by decide)) o_p0) (cwV 1 hts (gV tw_1318 tw_1320 ts_43 tw_15 tw_1321) rfl rfl rfl (by decide +kernel) ⟨Nat.le_of_ble_eq_true rfl, Nat.le_of_ble_eq_true rfl⟩) (tg_preV hw hK hSD hA (ci := 10) (q := (RX10, TX10, 49)) rfl h_p0 rfl) rfl rfl hl.1 rfl (lv_room (Nat.le_of_ble_eq_true rfl)) dX10_readOr_17 ⟨Nat.le_of_ble_eq_true rfl, Nat.le_of_ble_eq_true rfl⟩) hw hA (fun v_1  H locs hp_v_1 hw => ?_)
      obtain ⟨hfn, hp_v_1⟩ := hp_v_1
      have q_v_1 : (f_X10_isWord__4 (16 : Int32) s0) = v_1 := hfn.1
      have r_v_1 : RI v_1 0 1 := hp_v_1.1
      refine lv_if_eq (tgt := 51) hx hb dX10_readOr_20 (by decide) (fun c_20 => ?_) (fun c_20 => ?_)
      · have r_v_1 : RI v_1 0 0 := rc_eq1 r_v_1 rl_0 (ti_eq c_20) (by decide)
        refine lv_aload_n hx hb dX10_readOr_51 rfl (lv_at hl 0 rfl) ?_
        refine lv_iload_n hx hb dX10_readOr_52 rfl (lv_at hl 1 rfl) ?_
        refine tg_put (ci := 10) (ts := ty_MODEL) (v := .int x1) (ty := .int) (C := RX10) (T := TX10) (N := 49) hx hb hts inX10 tyX10 tyX10_ok nmX10 hown hK hw h_p0 rfl rfl 48 (by decide) (hts _ tw_1185) (fun _ h9 => h9) rfl (by decide +kernel) rfl rfl (ft := vI (-2147483648) 2147483647) rfl ⟨_, rfl, (r_x1.to (by decide))⟩ (by decide) dX10_readOr_53 (fun ws H locs hw n_k_2 hF9 => ?_)
        have m_z0_46 := FLD.over hF9 m_z0_46 (by decide)
        have m_z0_47 := FLD.over hF9 m_z0_47 (by decide)
        have x_SNW_p0_gd_1_gz_gg__1 := SNW.over hF9 x_SNW_p0_gd_1_gz_gg__1 (by decide)
        obtain ⟨sg_3, q_sg_3⟩ : ∃ q9 : OS, sI s0 48 x1 = q9 := ⟨_, rfl⟩
        have o_p0 : OV vw_M2 Ps ws p0 sg_3 := by rw [← q_sg_3]; exact OV.putI (V := vw_M2) hF9 n_k_2 o_p0 (by decide)
        have f6 := SNL.le x_SNW_p0_gd_1_gz_gg__1.1
        have f7 := x_SNW_p0_gd_1_gz_gg__1.2
        have x_SNT_p0_gd_1_gh_1_gg : SNT ws p0 (gd+1) (gh+1) (gg) := (SNL.snt x_SNW_p0_gd_1_gz_gg__1.1 n_k_2).weak (by have d_8 := SNp.le x_SN_p0_gd_gh_gg; omega)
        refine lv_iconst (v := 1) hx hb dX10_readOr_56 (by decide) ?_
        simp only [f_X10_readOr__10_14, ↓reduceIte, q_z0_46, q_z0_47, q_z0_48, q_v_1, eq_true c_20, q_sg_3] at hE
        subst hQ
        exact W.zret (v := 1) hx hb hr (rfl) (fun t ht hW => ⟨⟨1, ws, rfl, ⟨⟨⟨(by rw [hR, ← hE]; exact o_p0), (by rw [hR, ← hE]), trivial⟩, rl_1.to (by decide), (fun h0 => absurd h0 (by decide)), (fun h0 => ⟨⟨_, m_z0_46, r_z0_46⟩, ⟨_, m_z0_47, r_z0_47⟩, ⟨_, n_k_2, r_x1⟩, x_SNT_p0_gd_1_gh_1_gg, trivial⟩)⟩, hw.1, hw.2.2.2.2.1⟩, by rw [ht]; exact hw.2.1, va_K.moved hW.alike hK, hw.2.2.1⟩, hw.2.2.2.1.F ht⟩) hw.2.2.2.1.2.2 dX10_readOr_57
      · have r_v_1 : RI v_1 1 1 := rc_neL r_v_1 rl_0 (ti_ne c_20) (by decide)
        refine lv_aload_n hx hb dX10_readOr_23 rfl (lv_at hl 0 rfl) ?_
        refine tk_v (va_runV (As := []) (rest := []) ⟨hx, hb, hml, hown, hts⟩ (c_X10_go__4 l D cy z H.size Ps ws hw.1 p0 s0 h_p0 o_p0) (cwV 0 hts (gV tw_1298 tw_1300 ts_40 tw_15 tw_1301) rfl rfl rfl (by decide +kernel) ⟨Nat.le_of_ble_eq_true rfl, Nat.le_of_ble_eq_true rfl⟩) (tg_preV hw hK hSD hA (ci := 10) (q := (RX10, TX10, 49)) rfl h_p0 rfl) rfl rfl hl.1 rfl (lv_room (Nat.le_of_ble_eq_true rfl)) dX10_readOr_24 ⟨Nat.le_of_ble_eq_true rfl, Nat.le_of_ble_eq_true rfl⟩) hw hA ⟨by decide, by decide⟩ (fun ws H locs hp_v_4 hw hF9 => ?_)
        have m_z0_46 := FLD.over hF9 m_z0_46 (by decide)
        have m_z0_47 := FLD.over hF9 m_z0_47 (by decide)
        have m_z0_48 := FLD.over hF9 m_z0_48 (by decide)
        have x_SNW_p0_gd_1_gz_gg__1 := SNW.over hF9 x_SNW_p0_gd_1_gz_gg__1 (by decide)
        obtain ⟨hfn, hp_v_4⟩ := hp_v_4
        obtain ⟨sg_5, q_sg_5⟩ : ∃ q9 : OS, (f_X10_go__2 s0) = q9 := ⟨_, rfl⟩
        have o_p0 : OV vw_M2 Ps ws p0 sg_5 := by rw [← q_sg_5]; exact hfn.1
        refine lv_aload_n hx hb dX10_readOr_27 rfl (lv_at hl 0 rfl) ?_
        have f9 := SNL.sn x_SNW_p0_gd_1_gz_gg__1.1
        have f8 := f9.2
        have f7 := x_SNW_p0_gd_1_gz_gg__1.2
        have f6 := SNL.le x_SNW_p0_gd_1_gz_gg__1.1
        have x_SN_p0_gd_1_gz_max_gg__Int32_toInt_x1___1_ : SNp ws p0 (gd+1) (gz) (max gg (Int32.toInt x1 + 1)) := f9.1
        refine tk_i (va_runV (As := []) (rest := []) ⟨hx, hb, hml, hown, hts⟩ (c_X10_readAnd__10 l D cy z H.size Ps ws hw.1 p0 z0_47 (gd+1) (gz) (max gg (Int32.toInt x1 + 1)) sg_5 h_p0 r_z0_47 m_z0_47 x_SN_p0_gd_1_gz_max_gg__Int32_toInt_x1___1_ o_p0) (cwV 0 hts (gV tw_1755 tw_1757 ts_112 tw_15 tw_1758) rfl rfl rfl (by decide +kernel) ⟨Nat.le_of_ble_eq_true rfl, Nat.le_of_ble_eq_true rfl⟩) (tg_preV hw hK hSD hA (ci := 10) (q := (RX10, TX10, 49)) rfl h_p0 rfl) rfl rfl hl.1 rfl (lv_room (Nat.le_of_ble_eq_true rfl)) dX10_readOr_28 ⟨Nat.le_of_ble_eq_true rfl, Nat.le_of_ble_eq_true rfl⟩) hw hA ⟨by decide, by decide⟩ (fun v_6 ws H locs hp_v_6 hw hF9 => ?_)
        obtain ⟨hfn, hp_v_6⟩ := hp_v_6
        obtain ⟨sg_7, q_sg_7⟩ : ∃ q9 : OS, (f_X10_readAnd__10 sg_5).1 = q9 := ⟨_, rfl⟩
        have o_p0 : OV vw_M2 Ps ws p0 sg_7 := by rw [← q_sg_7]; exact hfn.1
        have q_v_6 : (f_X10_readAnd__10 sg_5).2 = v_6 := hfn.2.1
        have r_v_6 : RI v_6 0 1 := hp_v_6.1
        by_cases c9_v_6 : v_6 = 0
        · have r_v_6 : RI v_6 0 0 := by rw [c9_v_6]; exact rl_0
          obtain ⟨v_8, m_v_8, r_v_8⟩ := ((hp_v_6.2.1 c9_v_6).1)
          refine lv_if_ne (tgt := 36) hx hb dX10_readOr_31 (by decide) (fun c_31 => ?_) (fun c_31 => ?_)
          · exact absurd (r_v_6.eq.trans rl_0.eq.symm) ((ti_ne c_31))
          · refine lv_iconst (v := 0) hx hb dX10_readOr_34 (by decide) ?_
            simp only [f_X10_readOr__10_14, ↓reduceIte, q_z0_46, q_z0_47, q_z0_48, q_v_1, eq_false c_20, q_sg_5, q_sg_7, q_v_6, eq_true c9_v_6, eq_true c_31] at hE
            subst hQ
            exact W.zret (v := 0) hx hb hr (rfl) (fun t ht hW => ⟨⟨0, ws, rfl, ⟨⟨⟨(by rw [hR, ← hE]; exact o_p0), (by rw [hR, ← hE]), trivial⟩, rl_0.to (by decide), (fun h0 => ⟨⟨_, m_v_8, r_v_8⟩, trivial⟩), (fun h0 => absurd rfl h0)⟩, hw.1, hw.2.2.2.2.1⟩, by rw [ht]; exact hw.2.1, va_K.moved hW.alike hK, hw.2.2.1⟩, hw.2.2.2.1.F ht⟩) hw.2.2.2.1.2.2 dX10_readOr_35
        · have r_v_6 : RI v_6 1 1 := rc_neL r_v_6 rl_0 (ti_ne c9_v_6) (by decide)
          obtain ⟨v_9, m_v_9, r_v_9⟩ := ((hp_v_6.2.2 c9_v_6).1)
          obtain ⟨v_10, m_v_10, r_v_10⟩ := ((hp_v_6.2.2 c9_v_6).2.1)
          obtain ⟨v_11, m_v_11, r_v_11⟩ := ((hp_v_6.2.2 c9_v_6).2.2.1)
          have x_SNT_p0_gd_2_gz_1_max_gg__Int32_toInt_x1___1_ := ((hp_v_6.2.2 c9_v_6).2.2.2.1)
          refine lv_if_ne (tgt := 36) hx hb dX10_readOr_31 (by decide) (fun c_31 => ?_) (fun c_31 => ?_)
          · refine lv_aload_n hx hb dX10_readOr_36 rfl (lv_at hl 0 rfl) ?_
            refine lv_iconst (v := 3) hx hb dX10_readOr_37 (by decide) ?_
            refine lv_iload_n hx hb dX10_readOr_38 rfl (lv_at hl 1 rfl) ?_
            refine lv_aload_n hx hb dX10_readOr_39 rfl (lv_at hl 0 rfl) ?_
            refine tg_mem (ci := 10) (C := RX10) (T := TX10) (N := 49) hx hb hts inX10 hown hK hw 48 m_v_11 rfl (by decide) (hts _ tw_1185) (fun _ h9 => h9) dX10_readOr_40 ?_
            have q_v_11 : sg_7.1 48 = v_11 := OV.eqI (V := vw_M2) hw.2.2.1 o_p0 m_v_11 (by decide)
            refine lv_iconst (v := 0) hx hb dX10_readOr_43 (by decide) ?_
            have l9 := SNT.top hw x_SNT_p0_gd_2_gz_1_max_gg__Int32_toInt_x1___1_ m_v_11
            have l8 := SNT.sn x_SNT_p0_gd_2_gz_1_max_gg__Int32_toInt_x1___1_
            have x_SNI_p0_gd_1_gz_1_gg : SNI ws p0 (gd+1) (gz+1) (gg) := SNp.sni l8 (by have d_8 := SNp.le x_SN_p0_gd_gh_gg; omega)
            have x_LTN_p0_x1 : LTN ws p0 (x1) := SNp.ltn l8 f8
            have x_LTN_p0_v_11 : LTN ws p0 (v_11) := l9.ltn
            refine tk_i (va_runV (As := [.int 3, .int x1, .int v_11, .int 0]) (rest := []) ⟨hx, hb, hml, hown, hts⟩ (c_X10_saysOne__4 l D cy z H.size Ps ws hw.1 p0 3 x1 v_11 0 (gd+1) (gz+1) (gg) sg_7 h_p0 (rl_3.to (by decide)) (r_x1.to (by decide)) (r_v_11.to (by decide)) (rl_0.to (by decide)) x_SNI_p0_gd_1_gz_1_gg x_LTN_p0_x1 x_LTN_p0_v_11 o_p0) (cwV 4 hts (gV tw_1771 tw_1773 ts_116 tw_15 tw_1774) rfl rfl rfl (by decide +kernel) ⟨Nat.le_of_ble_eq_true rfl, Nat.le_of_ble_eq_true rfl⟩) (tg_preV hw hK hSD hA (ci := 10) (q := (RX10, TX10, 49)) rfl h_p0 rfl) rfl rfl hl.1 rfl (lv_room (Nat.le_of_ble_eq_true rfl)) dX10_readOr_44 ⟨Nat.le_of_ble_eq_true rfl, Nat.le_of_ble_eq_true rfl⟩) hw hA ⟨by decide, by decide⟩ (fun v_12 ws H locs hp_v_12 hw hF9 => ?_)
            have m_v_9 := FLD.over hF9 m_v_9 (by decide)
            have m_v_10 := FLD.over hF9 m_v_10 (by decide)
            have m_v_11 := FLD.over hF9 m_v_11 (by decide)
            obtain ⟨hfn, hp_v_12⟩ := hp_v_12
            obtain ⟨sg_13, q_sg_13⟩ : ∃ q9 : OS, (f_X10_saysOne__3 (3 : Int32) x1 v_11 (0 : Int32) sg_7).1 = q9 := ⟨_, rfl⟩
            have o_p0 : OV vw_M2 Ps ws p0 sg_13 := by rw [← q_sg_13]; exact hfn.1
            have q_v_12 : (f_X10_saysOne__3 (3 : Int32) x1 v_11 (0 : Int32) sg_7).2 = v_12 := hfn.2.1
            have r_v_12 : RI v_12 0 39 := hp_v_12.1
            have x_SNL_p0_gd_1_gz_1_gg_v_12 := hp_v_12.2.2.2.1.1
            refine lv_istore_n (lv' := [(1, .int v_12), (0, .ref p0)]) hx hb dX10_readOr_47 rfl hl (by decide) rfl (fun ls hl => ?_)
            refine lv_goto (tgt := 14) hx hb dX10_readOr_48 (by decide) ?_
            simp only [f_X10_readOr__10_14, ↓reduceIte, q_z0_46, q_z0_47, q_z0_48, q_v_1, eq_false c_20, q_sg_5, q_sg_7, q_v_6, eq_false c9_v_6, eq_false c_31, q_v_11, q_sg_13, q_v_12] at hE
            have x_SNW_p0_gd_1_gz_1_gg_v_12 : (SNL ws p0 (gd+1) (gz+1) (gg) v_12 ∧ gh + 1 ≤ gz+1) := ⟨x_SNL_p0_gd_1_gz_1_gg_v_12, by omega⟩
            exact ih14 v_12 v_9 v_10 v_11 (gz+1) sg_13 ws _ _ ls (by have d_8 := SNp.le x_SN_p0_gd_gh_gg; omega) r_v_12 r_v_9 m_v_9 r_v_10 m_v_10 r_v_11 m_v_11 x_SNW_p0_gd_1_gz_1_gg_v_12 o_p0 hE hw (lv_sub hl [1, 0] rfl)
          · have r_v_6 : RI v_6 1 0 := rc_eq1 r_v_6 rl_0 (ti_eq c_31) (by decide)
            exact (r_v_6.no (by decide)).elim
  refine lv_aload_n hx hb dX10_readOr_0 rfl (lv_at hl 0 rfl) ?_
  refine tk_i (va_runV (As := []) (rest := []) ⟨hx, hb, hml, hown, hts⟩ (c_X10_readAnd__10 l D cy z s.heap.size Ps w0 hw.1 p0 f0_47 (gd) (gh) (gg) s0 h_p0 r_f0_47 m_f0_47 x_SN_p0_gd_gh_gg o_p0) (cwV 0 hts (gV tw_1755 tw_1757 ts_112 tw_15 tw_1758) rfl rfl rfl (by decide +kernel) ⟨Nat.le_of_ble_eq_true rfl, Nat.le_of_ble_eq_true rfl⟩) (tg_preV hw hK hSD hA (ci := 10) (q := (RX10, TX10, 49)) rfl h_p0 rfl) rfl rfl hl.1 rfl (lv_room (Nat.le_of_ble_eq_true rfl)) dX10_readOr_1 ⟨Nat.le_of_ble_eq_true rfl, Nat.le_of_ble_eq_true rfl⟩) hw hA ⟨by decide, by decide⟩ (fun v_14 ws H locs hp_v_14 hw hF9 => ?_)
  obtain ⟨hfn, hp_v_14⟩ := hp_v_14
  obtain ⟨sg_15, q_sg_15⟩ : ∃ q9 : OS, (f_X10_readAnd__10 s0).1 = q9 := ⟨_, rfl⟩
  have o_p0 : OV vw_M2 Ps ws p0 sg_15 := by rw [← q_sg_15]; exact hfn.1
  have q_v_14 : (f_X10_readAnd__10 s0).2 = v_14 := hfn.2.1
  have r_v_14 : RI v_14 0 1 := hp_v_14.1
  by_cases c9_v_14 : v_14 = 0
  · have r_v_14 : RI v_14 0 0 := by rw [c9_v_14]; exact rl_0
    obtain ⟨v_16, m_v_16, r_v_16⟩ := ((hp_v_14.2.1 c9_v_14).1)
    refine lv_if_ne (tgt := 9) hx hb dX10_readOr_4 (by decide) (fun c_4 => ?_) (fun c_4 => ?_)
    · exact absurd (r_v_14.eq.trans rl_0.eq.symm) ((ti_ne c_4))
    · refine lv_iconst (v := 0) hx hb dX10_readOr_7 (by decide) ?_
      simp only [f_X10_readOr__10, ↓reduceIte, q_sg_15, q_v_14, eq_true c9_v_14, eq_true c_4] at hE
      subst hQ
      exact W.zret (v := 0) hx hb hr (rfl) (fun t ht hW => ⟨⟨0, ws, rfl, ⟨⟨⟨(by rw [hR, ← hE]; exact o_p0), (by rw [hR, ← hE]), trivial⟩, rl_0.to (by decide), (fun h0 => ⟨⟨_, m_v_16, r_v_16⟩, trivial⟩), (fun h0 => absurd rfl h0)⟩, hw.1, hw.2.2.2.2.1⟩, by rw [ht]; exact hw.2.1, va_K.moved hW.alike hK, hw.2.2.1⟩, hw.2.2.2.1.F ht⟩) hw.2.2.2.1.2.2 dX10_readOr_8
  · have r_v_14 : RI v_14 1 1 := rc_neL r_v_14 rl_0 (ti_ne c9_v_14) (by decide)
    obtain ⟨v_17, m_v_17, r_v_17⟩ := ((hp_v_14.2.2 c9_v_14).1)
    obtain ⟨v_18, m_v_18, r_v_18⟩ := ((hp_v_14.2.2 c9_v_14).2.1)
    obtain ⟨v_19, m_v_19, r_v_19⟩ := ((hp_v_14.2.2 c9_v_14).2.2.1)
    have x_SNT_p0_gd_1_gh_1_gg := ((hp_v_14.2.2 c9_v_14).2.2.2.1)
    refine lv_if_ne (tgt := 9) hx hb dX10_readOr_4 (by decide) (fun c_4 => ?_) (fun c_4 => ?_)
    · refine lv_aload_n hx hb dX10_readOr_9 rfl (lv_at hl 0 rfl) ?_
      refine tg_mem (ci := 10) (C := RX10) (T := TX10) (N := 49) hx hb hts inX10 hown hK hw 48 m_v_19 rfl (by decide) (hts _ tw_1185) (fun _ h9 => h9) dX10_readOr_10 ?_
      have q_v_19 : sg_15.1 48 = v_19 := OV.eqI (V := vw_M2) hw.2.2.1 o_p0 m_v_19 (by decide)
      refine lv_istore_n (lv' := [(1, .int v_19), (0, .ref p0)]) hx hb dX10_readOr_13 rfl hl (by decide) rfl (fun ls hl => ?_)
      simp only [f_X10_readOr__10, ↓reduceIte, q_sg_15, q_v_14, eq_false c9_v_14, eq_false c_4, q_v_19] at hE
      have x_SNW_p0_gd_1_gh_1_gg_v_19 : (SNL ws p0 (gd+1) (gh+1) (gg) v_19 ∧ gh + 1 ≤ gh+1) := ⟨SNT.top hw x_SNT_p0_gd_1_gh_1_gg m_v_19, by omega⟩
      exact B14 4294967298 v_19 v_17 v_18 v_19 (gh+1) sg_15 ws _ _ ls (by have d_8 := SNp.le x_SN_p0_gd_gh_gg; omega) r_v_19 r_v_17 m_v_17 r_v_18 m_v_18 r_v_19 m_v_19 x_SNW_p0_gd_1_gh_1_gg_v_19 o_p0 hE hw (lv_sub hl [1, 0] rfl)
    · have r_v_14 : RI v_14 1 0 := rc_eq1 r_v_14 rl_0 (ti_eq c_4) (by decide)
      exact (r_v_14.no (by decide)).elim
abbrev wr_X10_readBracket__8 : List (Nat × Nat) := [(10, 5), (10, 6), (10, 7), (10, 8), (10, 9), (10, 10), (10, 11), (10, 12), (10, 13), (10, 45), (10, 46), (10, 47), (10, 48)]
abbrev wa_X10_readBracket__8 : List Nat := [54]
set_option maxHeartbeats 4000000 in
set_option maxRecDepth 100000 in
theorem c_X10_readBracket__8 (l : Launch) (D : va_G) (cy : Nat → ClassId) (z : Nat → Nat) (sz : Nat) (Ps : PSI) (w0 : va_W) (hT : HT cy GG Ps w0) (p0 : Nat) (f0_47 : Int32) (gd : Int) (gh : Int) (gg : Int) (s0 : OS) (h_p0 : (p0, 55) ∈ Ps) (r_f0_47 : RI f0_47 1 1) (m_f0_47 : FLD w0 p0 10 47 (.int f0_47)) (x_SNI_p0_gd_gh_gg : SNI w0 p0 (gd) (gh) (gg)) (o_p0 : OV vw_M2 Ps w0 p0 s0) : Met l yX10_readBracket (Cond.code yX10_readBracket cX10_readBracket 1 (some .boolean) :: gT) ({ frames := 35, cells := 0, slots := 0, locals := 7000 } : Room) (va_Pc [.ref p0] (PRE D cy z w0 sz)) (va_Qi (fun (r : Int32) (u : va_W) => ((OV vw_M2 Ps u p0 ((f_X10_readBracket__8 s0).1) ∧ (f_X10_readBracket__8 s0).2 = r ∧ True) ∧ (RI r 0 1 ∧ (r = 0 → (∃ v9 : Int32, FLD u p0 10 47 (.int v9) ∧ RI v9 1 1) ∧ True) ∧ (¬ r = 0 → (∃ v9 : Int32, FLD u p0 10 46 (.int v9) ∧ RI v9 1 20) ∧ (∃ v9 : Int32, FLD u p0 10 47 (.int v9) ∧ RI v9 1 1) ∧ (∃ v9 : Int32, FLD u p0 10 48 (.int v9) ∧ RI v9 0 39) ∧ SNT u p0 (gd) (gh) (gg) ∧ True))) ∧ HT cy GG Ps u ∧ FR wr_X10_readBracket__8 wa_X10_readBracket__8 Ps w0 u) (BB D cy (va_A w0 sz) (fun (u : va_W) => u)) (va_A w0 sz)) 0 0 (va_A w0 sz) := by
  refine Met.ofW (cc := cX10_readBracket) (maxL := 1) (ret := (some .boolean)) (by decide) rfl ?_
  intro p e s m args below meth c s₁ B hml hv
  obtain ⟨rfl, hsz, hP, hK, hD0, hSD⟩ := hv
  have hx := B.exec
  have hb := B.bytes
  have hr := B.returns
  have hlocks := B.notSynchronized
  have hts : ∀ w ∈ gT, w.before _ s = true := fun w h => atoms_spec (ws := Cond.code yX10_readBracket cX10_readBracket 1 (some .boolean) :: gT) B.pre w (List.mem_cons_of_mem _ h)
  have hown : s.vm.findClass RX10 = some m.cls := findClass_of_methodNamed B.named
  subst hsz
  have hD := hD0.self (sz := s.heap.size)
  generalize hAe : va_A w0 s.heap.size = A at hD hSD ⊢
  have hA : ∀ q : Nat, s.heap.size ≤ q → A q := fun q h => by rw [← hAe]; exact Or.inr h
  have hl := lv_entry ([.ref p0]) (n := 1) (Nat.le_of_ble_eq_true rfl)
  rw [lg_entry_eq]
  generalize (lg_sl ([.ref p0]) ++ List.replicate (1 - (lg_sl ([.ref p0])).length) Slot.unset).toArray = ls at hl ⊢
  have hl : lv_has ls 1 [(0, .ref p0)] := hl
  refine nameQ (fun Q hQ => ?_)
  have hw : WD D cy GG A s wr_X10_readBracket__8 wa_X10_readBracket__8 Ps w0 Ps w0 s.heap [] := ⟨hT, hP, hD, va_S.rf, FR.rf, hT.1, [], (List.append_nil _).symm⟩
  obtain ⟨R9, hR⟩ : ∃ q9 : OS × Int32, f_X10_readBracket__8 s0 = q9 := ⟨_, rfl⟩
  have hE := hR
  refine lv_aload_n hx hb dX10_readBracket_0 rfl (lv_at hl 0 rfl) ?_
  have d_8 := x_SNI_p0_gd_gh_gg.1
  have x_SN_p0_gd_1_gh_gg : SNp w0 p0 (gd+1) (gh) (gg) := x_SNI_p0_gd_gh_gg.2
  refine tk_i (va_runV (As := []) (rest := []) ⟨hx, hb, hml, hown, hts⟩ (c_X10_readOr__10 l D cy z s.heap.size Ps w0 hw.1 p0 f0_47 (gd+1) (gh) (gg) s0 h_p0 r_f0_47 m_f0_47 x_SN_p0_gd_1_gh_gg o_p0) (cwV 0 hts (gV tw_1751 tw_1753 ts_111 tw_15 tw_1754) rfl rfl rfl (by decide +kernel) ⟨Nat.le_of_ble_eq_true rfl, Nat.le_of_ble_eq_true rfl⟩) (tg_preV hw hK hSD hA (ci := 10) (q := (RX10, TX10, 49)) rfl h_p0 rfl) rfl rfl hl.1 rfl (lv_room (Nat.le_of_ble_eq_true rfl)) dX10_readBracket_1 ⟨Nat.le_of_ble_eq_true rfl, Nat.le_of_ble_eq_true rfl⟩) hw hA ⟨by decide, by decide⟩ (fun v_1 ws H locs hp_v_1 hw hF9 => ?_)
  obtain ⟨hfn, hp_v_1⟩ := hp_v_1
  obtain ⟨sg_2, q_sg_2⟩ : ∃ q9 : OS, (f_X10_readOr__10 s0).1 = q9 := ⟨_, rfl⟩
  have o_p0 : OV vw_M2 Ps ws p0 sg_2 := by rw [← q_sg_2]; exact hfn.1
  have q_v_1 : (f_X10_readOr__10 s0).2 = v_1 := hfn.2.1
  have r_v_1 : RI v_1 0 1 := hp_v_1.1
  by_cases c9_v_1 : v_1 = 0
  · have r_v_1 : RI v_1 0 0 := by rw [c9_v_1]; exact rl_0
    obtain ⟨v_3, m_v_3, r_v_3⟩ := ((hp_v_1.2.1 c9_v_1).1)
    refine lv_if_ne (tgt := 9) hx hb dX10_readBracket_4 (by decide) (fun c_4 => ?_) (fun c_4 => ?_)
    · exact absurd (r_v_1.eq.trans rl_0.eq.symm) ((ti_ne c_4))
    · refine lv_iconst (v := 0) hx hb dX10_readBracket_7 (by decide) ?_
      simp only [f_X10_readBracket__8, ↓reduceIte, q_sg_2, q_v_1, eq_true c9_v_1, eq_true c_4] at hE
      subst hQ
      exact W.zret (v := 0) hx hb hr (rfl) (fun t ht hW => ⟨⟨0, ws, rfl, ⟨⟨⟨(by rw [hR, ← hE]; exact o_p0), (by rw [hR, ← hE]), trivial⟩, rl_0.to (by decide), (fun h0 => ⟨⟨_, m_v_3, r_v_3⟩, trivial⟩), (fun h0 => absurd rfl h0)⟩, hw.1, hw.2.2.2.2.1⟩, by rw [ht]; exact hw.2.1, va_K.moved hW.alike hK, hw.2.2.1⟩, hw.2.2.2.1.F ht⟩) hw.2.2.2.1.2.2 dX10_readBracket_8
  · have r_v_1 : RI v_1 1 1 := rc_neL r_v_1 rl_0 (ti_ne c9_v_1) (by decide)
    obtain ⟨v_4, m_v_4, r_v_4⟩ := ((hp_v_1.2.2 c9_v_1).1)
    obtain ⟨v_5, m_v_5, r_v_5⟩ := ((hp_v_1.2.2 c9_v_1).2.1)
    obtain ⟨v_6, m_v_6, r_v_6⟩ := ((hp_v_1.2.2 c9_v_1).2.2.1)
    have x_SNT_p0_gd_2_gh_1_gg := ((hp_v_1.2.2 c9_v_1).2.2.2.1)
    refine lv_if_ne (tgt := 9) hx hb dX10_readBracket_4 (by decide) (fun c_4 => ?_) (fun c_4 => ?_)
    · refine lv_aload_n hx hb dX10_readBracket_9 rfl (lv_at hl 0 rfl) ?_
      refine lv_bipush (v := 41) hx hb dX10_readBracket_10 (by decide) ?_
      refine tk_ir (va_runV (As := [.int 41]) (rest := []) ⟨hx, hb, hml, hown, hts⟩ (c_X10_isSign__2 l D cy z H.size Ps ws hw.1 p0 41 sg_2 h_p0 (rl_41.to (by decide)) o_p0) (cwV 1 hts (gV tw_1413 tw_1415 ts_63 tw_15 tw_1416) rfl rfl rfl (by decide +kernel) ⟨Nat.le_of_ble_eq_true rfl, Nat.le_of_ble_eq_true rfl⟩) (tg_preV hw hK hSD hA (ci := 10) (q := (RX10, TX10, 49)) rfl h_p0 rfl) rfl rfl hl.1 rfl (lv_room (Nat.le_of_ble_eq_true rfl)) dX10_readBracket_12 ⟨Nat.le_of_ble_eq_true rfl, Nat.le_of_ble_eq_true rfl⟩) hw hA (fun v_7  H locs hp_v_7 hw => ?_)
      obtain ⟨hfn, hp_v_7⟩ := hp_v_7
      have q_v_7 : (f_X10_isSign__1 (41 : Int32) sg_2) = v_7 := hfn.1
      have r_v_7 : RI v_7 0 1 := hp_v_7.1
      by_cases c9_v_7 : v_7 = 0
      · have r_v_7 : RI v_7 0 0 := by rw [c9_v_7]; exact rl_0
        refine lv_if_ne (tgt := 24) hx hb dX10_readBracket_15 (by decide) (fun c_15 => ?_) (fun c_15 => ?_)
        · exact absurd (r_v_7.eq.trans rl_0.eq.symm) ((ti_ne c_15))
        · refine lv_aload_n hx hb dX10_readBracket_18 rfl (lv_at hl 0 rfl) ?_
          refine lv_iconst (v := 1) hx hb dX10_readBracket_19 (by decide) ?_
          refine tk_i (va_runV (As := [.int 1]) (rest := []) ⟨hx, hb, hml, hown, hts⟩ (c_X10_bad__2 l D cy z H.size Ps ws hw.1 p0 1 sg_2 h_p0 (rl_1.to (by decide)) o_p0) (cwV 1 hts (gV tw_1336 tw_1338 ts_46 tw_15 tw_1339) rfl rfl rfl (by decide +kernel) ⟨Nat.le_of_ble_eq_true rfl, Nat.le_of_ble_eq_true rfl⟩) (tg_preV hw hK hSD hA (ci := 10) (q := (RX10, TX10, 49)) rfl h_p0 rfl) rfl rfl hl.1 rfl (lv_room (Nat.le_of_ble_eq_true rfl)) dX10_readBracket_20 ⟨Nat.le_of_ble_eq_true rfl, Nat.le_of_ble_eq_true rfl⟩) hw hA ⟨by decide, by decide⟩ (fun v_8 ws H locs hp_v_8 hw hF9 => ?_)
          have m_v_4 := FLD.over hF9 m_v_4 (by decide)
          have m_v_5 := FLD.over hF9 m_v_5 (by decide)
          have m_v_6 := FLD.over hF9 m_v_6 (by decide)
          have x_SNT_p0_gd_2_gh_1_gg := SNT.over hF9 x_SNT_p0_gd_2_gh_1_gg (by decide)
          obtain ⟨hfn, hp_v_8⟩ := hp_v_8
          obtain ⟨sg_9, q_sg_9⟩ : ∃ q9 : OS, (f_X10_bad__1 (1 : Int32) sg_2).1 = q9 := ⟨_, rfl⟩
          have o_p0 : OV vw_M2 Ps ws p0 sg_9 := by rw [← q_sg_9]; exact hfn.1
          have q_v_8 : (f_X10_bad__1 (1 : Int32) sg_2).2 = v_8 := hfn.2.1
          have r_v_8 : RI v_8 0 0 := hp_v_8.1
          simp only [f_X10_readBracket__8, ↓reduceIte, q_sg_2, q_v_1, eq_false c9_v_1, eq_false c_4, q_v_7, eq_true c9_v_7, eq_true c_15, q_sg_9, q_v_8] at hE
          subst hQ
          exact W.zret (v := v_8) hx hb hr (tq_nz (r_v_8.to (by decide))) (fun t ht hW => ⟨⟨v_8, ws, rfl, ⟨⟨⟨(by rw [hR, ← hE]; exact o_p0), (by rw [hR, ← hE]), trivial⟩, r_v_8.to (by decide), (fun h0 => ⟨⟨_, m_v_5, r_v_5⟩, trivial⟩), (fun h0 => absurd (Int32.toInt_inj.mp (by have h8 := r_v_8; unfold RI at h8; rw [Int32.toInt_zero]; omega)) h0)⟩, hw.1, hw.2.2.2.2.1⟩, by rw [ht]; exact hw.2.1, va_K.moved hW.alike hK, hw.2.2.1⟩, hw.2.2.2.1.F ht⟩) hw.2.2.2.1.2.2 dX10_readBracket_23
      · have r_v_7 : RI v_7 1 1 := rc_neL r_v_7 rl_0 (ti_ne c9_v_7) (by decide)
        obtain ⟨v_10, m_v_10, r_v_10⟩ := ((hp_v_7.2.2 c9_v_7).1)
        refine lv_if_ne (tgt := 24) hx hb dX10_readBracket_15 (by decide) (fun c_15 => ?_) (fun c_15 => ?_)
        · refine lv_aload_n hx hb dX10_readBracket_24 rfl (lv_at hl 0 rfl) ?_
          refine tk_v (va_runV (As := []) (rest := []) ⟨hx, hb, hml, hown, hts⟩ (c_X10_go__4 l D cy z H.size Ps ws hw.1 p0 sg_2 h_p0 o_p0) (cwV 0 hts (gV tw_1298 tw_1300 ts_40 tw_15 tw_1301) rfl rfl rfl (by decide +kernel) ⟨Nat.le_of_ble_eq_true rfl, Nat.le_of_ble_eq_true rfl⟩) (tg_preV hw hK hSD hA (ci := 10) (q := (RX10, TX10, 49)) rfl h_p0 rfl) rfl rfl hl.1 rfl (lv_room (Nat.le_of_ble_eq_true rfl)) dX10_readBracket_25 ⟨Nat.le_of_ble_eq_true rfl, Nat.le_of_ble_eq_true rfl⟩) hw hA ⟨by decide, by decide⟩ (fun ws H locs hp_v_11 hw hF9 => ?_)
          have m_v_4 := FLD.over hF9 m_v_4 (by decide)
          have m_v_5 := FLD.over hF9 m_v_5 (by decide)
          have m_v_6 := FLD.over hF9 m_v_6 (by decide)
          have x_SNT_p0_gd_2_gh_1_gg := SNT.over hF9 x_SNT_p0_gd_2_gh_1_gg (by decide)
          obtain ⟨hfn, hp_v_11⟩ := hp_v_11
          obtain ⟨sg_12, q_sg_12⟩ : ∃ q9 : OS, (f_X10_go__2 sg_2) = q9 := ⟨_, rfl⟩
          have o_p0 : OV vw_M2 Ps ws p0 sg_12 := by rw [← q_sg_12]; exact hfn.1
          have x_SNT_p0_gd_gh_gg : SNT ws p0 (gd) (gh) (gg) := x_SNT_p0_gd_2_gh_1_gg.weak (by have d_8 := SNp.le x_SNI_p0_gd_gh_gg.2; have d_7 := x_SNI_p0_gd_gh_gg.1; omega)
          refine lv_iconst (v := 1) hx hb dX10_readBracket_28 (by decide) ?_
          simp only [f_X10_readBracket__8, ↓reduceIte, q_sg_2, q_v_1, eq_false c9_v_1, eq_false c_4, q_v_7, eq_false c9_v_7, eq_false c_15, q_sg_12] at hE
          subst hQ
          exact W.zret (v := 1) hx hb hr (rfl) (fun t ht hW => ⟨⟨1, ws, rfl, ⟨⟨⟨(by rw [hR, ← hE]; exact o_p0), (by rw [hR, ← hE]), trivial⟩, rl_1.to (by decide), (fun h0 => absurd h0 (by decide)), (fun h0 => ⟨⟨_, m_v_4, r_v_4⟩, ⟨_, m_v_5, r_v_5⟩, ⟨_, m_v_6, r_v_6⟩, x_SNT_p0_gd_gh_gg, trivial⟩)⟩, hw.1, hw.2.2.2.2.1⟩, by rw [ht]; exact hw.2.1, va_K.moved hW.alike hK, hw.2.2.1⟩, hw.2.2.2.1.F ht⟩) hw.2.2.2.1.2.2 dX10_readBracket_29
        · have r_v_7 : RI v_7 1 0 := rc_eq1 r_v_7 rl_0 (ti_eq c_15) (by decide)
          exact (r_v_7.no (by decide)).elim
    · have r_v_1 : RI v_1 1 0 := rc_eq1 r_v_1 rl_0 (ti_eq c_4) (by decide)
      exact (r_v_1.no (by decide)).elim
abbrev wr_X10_readNot__15 : List (Nat × Nat) := [(10, 5), (10, 6), (10, 7), (10, 8), (10, 9), (10, 10), (10, 11), (10, 12), (10, 13), (10, 45), (10, 46), (10, 47), (10, 48)]
abbrev wa_X10_readNot__15 : List Nat := [54]
set_option maxHeartbeats 4000000 in
set_option maxRecDepth 100000 in
theorem c_X10_readNot__15 (l : Launch) (D : va_G) (cy : Nat → ClassId) (z : Nat → Nat) (sz : Nat) (Ps : PSI) (w0 : va_W) (hT : HT cy GG Ps w0) (p0 : Nat) (f0_47 : Int32) (gd : Int) (gh : Int) (gg : Int) (s0 : OS) (h_p0 : (p0, 55) ∈ Ps) (r_f0_47 : RI f0_47 1 1) (m_f0_47 : FLD w0 p0 10 47 (.int f0_47)) (x_SNI_p0_gd_gh_gg : SNI w0 p0 (gd) (gh) (gg)) (o_p0 : OV vw_M2 Ps w0 p0 s0) : Met l yX10_readNot (Cond.code yX10_readNot cX10_readNot 1 (some .boolean) :: gT) ({ frames := 33, cells := 0, slots := 0, locals := 6600 } : Room) (va_Pc [.ref p0] (PRE D cy z w0 sz)) (va_Qi (fun (r : Int32) (u : va_W) => ((OV vw_M2 Ps u p0 ((f_X10_readNot__15 s0).1) ∧ (f_X10_readNot__15 s0).2 = r ∧ True) ∧ (RI r 0 1 ∧ (r = 0 → (∃ v9 : Int32, FLD u p0 10 47 (.int v9) ∧ RI v9 1 1) ∧ True) ∧ (¬ r = 0 → (∃ v9 : Int32, FLD u p0 10 46 (.int v9) ∧ RI v9 1 20) ∧ (∃ v9 : Int32, FLD u p0 10 47 (.int v9) ∧ RI v9 1 1) ∧ (∃ v9 : Int32, FLD u p0 10 48 (.int v9) ∧ RI v9 0 39) ∧ SNT u p0 (gd) (gh) (gg) ∧ True))) ∧ HT cy GG Ps u ∧ FR wr_X10_readNot__15 wa_X10_readNot__15 Ps w0 u) (BB D cy (va_A w0 sz) (fun (u : va_W) => u)) (va_A w0 sz)) 0 0 (va_A w0 sz) := by
  refine Met.ofW (cc := cX10_readNot) (maxL := 1) (ret := (some .boolean)) (by decide) rfl ?_
  intro p e s m args below meth c s₁ B hml hv
  obtain ⟨rfl, hsz, hP, hK, hD0, hSD⟩ := hv
  have hx := B.exec
  have hb := B.bytes
  have hr := B.returns
  have hlocks := B.notSynchronized
  have hts : ∀ w ∈ gT, w.before _ s = true := fun w h => atoms_spec (ws := Cond.code yX10_readNot cX10_readNot 1 (some .boolean) :: gT) B.pre w (List.mem_cons_of_mem _ h)
  have hown : s.vm.findClass RX10 = some m.cls := findClass_of_methodNamed B.named
  subst hsz
  have hD := hD0.self (sz := s.heap.size)
  generalize hAe : va_A w0 s.heap.size = A at hD hSD ⊢
  have hA : ∀ q : Nat, s.heap.size ≤ q → A q := fun q h => by rw [← hAe]; exact Or.inr h
  have hl := lv_entry ([.ref p0]) (n := 1) (Nat.le_of_ble_eq_true rfl)
  rw [lg_entry_eq]
  generalize (lg_sl ([.ref p0]) ++ List.replicate (1 - (lg_sl ([.ref p0])).length) Slot.unset).toArray = ls at hl ⊢
  have hl : lv_has ls 1 [(0, .ref p0)] := hl
  refine nameQ (fun Q hQ => ?_)
  have hw : WD D cy GG A s wr_X10_readNot__15 wa_X10_readNot__15 Ps w0 Ps w0 s.heap [] := ⟨hT, hP, hD, va_S.rf, FR.rf, hT.1, [], (List.append_nil _).symm⟩
  obtain ⟨R9, hR⟩ : ∃ q9 : OS × Int32, f_X10_readNot__15 s0 = q9 := ⟨_, rfl⟩
  have hE := hR
  refine lv_aload_n hx hb dX10_readNot_0 rfl (lv_at hl 0 rfl) ?_
  have x_SN_p0_gd_1_gh_gg : SNp w0 p0 (gd+1) (gh) (gg) := x_SNI_p0_gd_gh_gg.2
  refine tk_i (va_runV (As := []) (rest := []) ⟨hx, hb, hml, hown, hts⟩ (c_X10_readSaid__10 l D cy z s.heap.size Ps w0 hw.1 p0 f0_47 (gd+1) (gh) (gg) s0 h_p0 r_f0_47 m_f0_47 x_SN_p0_gd_1_gh_gg o_p0) (cwV 0 hts (gV tw_1759 tw_1761 ts_113 tw_15 tw_1762) rfl rfl rfl (by decide +kernel) ⟨Nat.le_of_ble_eq_true rfl, Nat.le_of_ble_eq_true rfl⟩) (tg_preV hw hK hSD hA (ci := 10) (q := (RX10, TX10, 49)) rfl h_p0 rfl) rfl rfl hl.1 rfl (lv_room (Nat.le_of_ble_eq_true rfl)) dX10_readNot_1 ⟨Nat.le_of_ble_eq_true rfl, Nat.le_of_ble_eq_true rfl⟩) hw hA ⟨by decide, by decide⟩ (fun v_1 ws H locs hp_v_1 hw hF9 => ?_)
  obtain ⟨hfn, hp_v_1⟩ := hp_v_1
  obtain ⟨sg_2, q_sg_2⟩ : ∃ q9 : OS, (f_X10_readSaid__10 s0).1 = q9 := ⟨_, rfl⟩
  have o_p0 : OV vw_M2 Ps ws p0 sg_2 := by rw [← q_sg_2]; exact hfn.1
  have q_v_1 : (f_X10_readSaid__10 s0).2 = v_1 := hfn.2.1
  have r_v_1 : RI v_1 0 1 := hp_v_1.1
  by_cases c9_v_1 : v_1 = 0
  · have r_v_1 : RI v_1 0 0 := by rw [c9_v_1]; exact rl_0
    obtain ⟨v_3, m_v_3, r_v_3⟩ := ((hp_v_1.2.1 c9_v_1).1)
    refine lv_if_ne (tgt := 9) hx hb dX10_readNot_4 (by decide) (fun c_4 => ?_) (fun c_4 => ?_)
    · exact absurd (r_v_1.eq.trans rl_0.eq.symm) ((ti_ne c_4))
    · refine lv_iconst (v := 0) hx hb dX10_readNot_7 (by decide) ?_
      simp only [f_X10_readNot__15, ↓reduceIte, q_sg_2, q_v_1, eq_true c9_v_1, eq_true c_4] at hE
      subst hQ
      exact W.zret (v := 0) hx hb hr (rfl) (fun t ht hW => ⟨⟨0, ws, rfl, ⟨⟨⟨(by rw [hR, ← hE]; exact o_p0), (by rw [hR, ← hE]), trivial⟩, rl_0.to (by decide), (fun h0 => ⟨⟨_, m_v_3, r_v_3⟩, trivial⟩), (fun h0 => absurd rfl h0)⟩, hw.1, hw.2.2.2.2.1⟩, by rw [ht]; exact hw.2.1, va_K.moved hW.alike hK, hw.2.2.1⟩, hw.2.2.2.1.F ht⟩) hw.2.2.2.1.2.2 dX10_readNot_8
  · have r_v_1 : RI v_1 1 1 := rc_neL r_v_1 rl_0 (ti_ne c9_v_1) (by decide)
    obtain ⟨v_4, m_v_4, r_v_4⟩ := ((hp_v_1.2.2 c9_v_1).1)
    obtain ⟨v_5, m_v_5, r_v_5⟩ := ((hp_v_1.2.2 c9_v_1).2.1)
    obtain ⟨v_6, m_v_6, r_v_6⟩ := ((hp_v_1.2.2 c9_v_1).2.2.1)
    have x_SNT_p0_gd_2_gh_1_gg := ((hp_v_1.2.2 c9_v_1).2.2.2.1)
    refine lv_if_ne (tgt := 9) hx hb dX10_readNot_4 (by decide) (fun c_4 => ?_) (fun c_4 => ?_)
    · refine lv_aload_n hx hb dX10_readNot_9 rfl (lv_at hl 0 rfl) ?_
      refine lv_aload_n hx hb dX10_readNot_10 rfl (lv_at hl 0 rfl) ?_
      refine lv_iconst (v := 1) hx hb dX10_readNot_11 (by decide) ?_
      refine lv_aload_n hx hb dX10_readNot_12 rfl (lv_at hl 0 rfl) ?_
      refine tg_mem (ci := 10) (C := RX10) (T := TX10) (N := 49) hx hb hts inX10 hown hK hw 48 m_v_5 rfl (by decide) (hts _ tw_1185) (fun _ h9 => h9) dX10_readNot_13 ?_
      have q_v_5 : sg_2.1 48 = v_5 := OV.eqI (V := vw_M2) hw.2.2.1 o_p0 m_v_5 (by decide)
      refine lv_iconst (v := 0) hx hb dX10_readNot_16 (by decide) ?_
      refine lv_iconst (v := 0) hx hb dX10_readNot_17 (by decide) ?_
      have l9 := SNT.top hw x_SNT_p0_gd_2_gh_1_gg m_v_5
      have l8 := l9.le
      have x_SNI_p0_gd_1_gh_1_gg : SNI ws p0 (gd+1) (gh+1) (gg) := SNp.sni (SNT.sn x_SNT_p0_gd_2_gh_1_gg) (by have d_8 := SNp.le x_SNI_p0_gd_gh_gg.2; have d_7 := x_SNI_p0_gd_gh_gg.1; omega)
      have x_LTN_p0_v_5 : LTN ws p0 (v_5) := l9.ltn
      refine tk_i (va_runV (As := [.int 1, .int v_5, .int 0, .int 0]) (rest := [.ref p0]) ⟨hx, hb, hml, hown, hts⟩ (c_X10_saysOne__5 l D cy z H.size Ps ws hw.1 p0 1 v_5 0 0 (gd+1) (gh+1) (gg) sg_2 h_p0 rl_1 (r_v_5.to (by decide)) (rl_0.to (by decide)) (rl_0.to (by decide)) x_SNI_p0_gd_1_gh_1_gg x_LTN_p0_v_5 o_p0) (cwV 4 hts (gV tw_1771 tw_1773 ts_116 tw_15 tw_1774) rfl rfl rfl (by decide +kernel) ⟨Nat.le_of_ble_eq_true rfl, Nat.le_of_ble_eq_true rfl⟩) (tg_preV hw hK hSD hA (ci := 10) (q := (RX10, TX10, 49)) rfl h_p0 rfl) rfl rfl hl.1 rfl (lv_room (Nat.le_of_ble_eq_true rfl)) dX10_readNot_18 ⟨Nat.le_of_ble_eq_true rfl, Nat.le_of_ble_eq_true rfl⟩) hw hA ⟨by decide, by decide⟩ (fun v_7 ws H locs hp_v_7 hw hF9 => ?_)
      have m_v_4 := FLD.over hF9 m_v_4 (by decide)
      have m_v_5 := FLD.over hF9 m_v_5 (by decide)
      have m_v_6 := FLD.over hF9 m_v_6 (by decide)
      obtain ⟨hfn, hp_v_7⟩ := hp_v_7
      obtain ⟨sg_8, q_sg_8⟩ : ∃ q9 : OS, (f_X10_saysOne__3 (1 : Int32) v_5 (0 : Int32) (0 : Int32) sg_2).1 = q9 := ⟨_, rfl⟩
      have o_p0 : OV vw_M2 Ps ws p0 sg_8 := by rw [← q_sg_8]; exact hfn.1
      have q_v_7 : (f_X10_saysOne__3 (1 : Int32) v_5 (0 : Int32) (0 : Int32) sg_2).2 = v_7 := hfn.2.1
      have r_v_7 : RI v_7 0 39 := hp_v_7.1
      have x_SNL_p0_gd_1_gh_1_gg_v_7 := hp_v_7.2.2.2.1.1
      refine tg_put (ci := 10) (ts := ty_MODEL) (v := .int v_7) (ty := .int) (C := RX10) (T := TX10) (N := 49) hx hb hts inX10 tyX10 tyX10_ok nmX10 hown hK hw h_p0 rfl rfl 48 (by decide) (hts _ tw_1185) (fun _ h9 => h9) rfl (by decide +kernel) rfl rfl (ft := vI (-2147483648) 2147483647) rfl ⟨_, rfl, (r_v_7.to (by decide))⟩ (by decide) dX10_readNot_21 (fun ws H locs hw n_k_9 hF9 => ?_)
      have m_v_4 := FLD.over hF9 m_v_4 (by decide)
      have m_v_6 := FLD.over hF9 m_v_6 (by decide)
      have x_SNL_p0_gd_1_gh_1_gg_v_7 := SNL.over hF9 x_SNL_p0_gd_1_gh_1_gg_v_7 (by decide)
      obtain ⟨sg_10, q_sg_10⟩ : ∃ q9 : OS, sI sg_8 48 v_7 = q9 := ⟨_, rfl⟩
      have o_p0 : OV vw_M2 Ps ws p0 sg_10 := by rw [← q_sg_10]; exact OV.putI (V := vw_M2) hF9 n_k_9 o_p0 (by decide)
      have x_SNT_p0_gd_gh_gg : SNT ws p0 (gd) (gh) (gg) := (x_SNL_p0_gd_1_gh_1_gg_v_7.weak (d' := gd) (h' := gh) (g' := gg) (by have k1 := x_SNL_p0_gd_1_gh_1_gg_v_7.le; have d_8 := SNp.le x_SNI_p0_gd_gh_gg.2; have d_7 := x_SNI_p0_gd_gh_gg.1; omega)).snt n_k_9
      refine lv_iconst (v := 1) hx hb dX10_readNot_24 (by decide) ?_
      simp only [f_X10_readNot__15, ↓reduceIte, q_sg_2, q_v_1, eq_false c9_v_1, eq_false c_4, q_v_5, q_sg_8, q_v_7, q_sg_10] at hE
      subst hQ
      exact W.zret (v := 1) hx hb hr (rfl) (fun t ht hW => ⟨⟨1, ws, rfl, ⟨⟨⟨(by rw [hR, ← hE]; exact o_p0), (by rw [hR, ← hE]), trivial⟩, rl_1.to (by decide), (fun h0 => absurd h0 (by decide)), (fun h0 => ⟨⟨_, m_v_4, r_v_4⟩, ⟨_, m_v_6, r_v_6⟩, ⟨_, n_k_9, r_v_7⟩, x_SNT_p0_gd_gh_gg, trivial⟩)⟩, hw.1, hw.2.2.2.2.1⟩, by rw [ht]; exact hw.2.1, va_K.moved hW.alike hK, hw.2.2.1⟩, hw.2.2.2.1.F ht⟩) hw.2.2.2.1.2.2 dX10_readNot_25
    · have r_v_1 : RI v_1 1 0 := rc_eq1 r_v_1 rl_0 (ti_eq c_4) (by decide)
      exact (r_v_1.no (by decide)).elim
abbrev wr_X10_readSaid__9 : List (Nat × Nat) := [(10, 5), (10, 6), (10, 7), (10, 8), (10, 9), (10, 10), (10, 11), (10, 12), (10, 13), (10, 45), (10, 46), (10, 47), (10, 48)]
abbrev wa_X10_readSaid__9 : List Nat := [54]
set_option maxHeartbeats 4000000 in
set_option maxRecDepth 100000 in
theorem c_X10_readSaid__9 (l : Launch) (D : va_G) (cy : Nat → ClassId) (z : Nat → Nat) (sz : Nat) (Ps : PSI) (w0 : va_W) (hT : HT cy GG Ps w0) (p0 : Nat) (f0_47 : Int32) (gd : Int) (gh : Int) (gg : Int) (s0 : OS) (h_p0 : (p0, 55) ∈ Ps) (r_f0_47 : RI f0_47 0 0) (m_f0_47 : FLD w0 p0 10 47 (.int f0_47)) (x_SN_p0_gd_gh_gg : SNp w0 p0 (gd) (gh) (gg)) (o_p0 : OV vw_M2 Ps w0 p0 s0) : Met l yX10_readSaid (Cond.code yX10_readSaid cX10_readSaid 4 (some .boolean) :: gT) ({ frames := 36, cells := 0, slots := 0, locals := 7200 } : Room) (va_Pc [.ref p0] (PRE D cy z w0 sz)) (va_Qi (fun (r : Int32) (u : va_W) => ((OV vw_M2 Ps u p0 ((f_X10_readSaid__9 s0).1) ∧ (f_X10_readSaid__9 s0).2 = r ∧ True) ∧ (RI r 0 1 ∧ (r = 0 → (∃ v9 : Int32, FLD u p0 10 47 (.int v9) ∧ RI v9 0 0) ∧ True) ∧ (¬ r = 0 → (∃ v9 : Int32, FLD u p0 10 46 (.int v9) ∧ RI v9 1 20) ∧ (∃ v9 : Int32, FLD u p0 10 48 (.int v9) ∧ RI v9 0 39) ∧ (∃ v9 : Int32, FLD u p0 10 47 (.int v9) ∧ RI v9 0 0) ∧ SNT u p0 (gd+1) (gh+1) (gg) ∧ True))) ∧ HT cy GG Ps u ∧ FR wr_X10_readSaid__9 wa_X10_readSaid__9 Ps w0 u) (BB D cy (va_A w0 sz) (fun (u : va_W) => u)) (va_A w0 sz)) 0 0 (va_A w0 sz) := by
  refine Met.ofW (cc := cX10_readSaid) (maxL := 4) (ret := (some .boolean)) (by decide) rfl ?_
  intro p e s m args below meth c s₁ B hml hv
  obtain ⟨rfl, hsz, hP, hK, hD0, hSD⟩ := hv
  have hx := B.exec
  have hb := B.bytes
  have hr := B.returns
  have hlocks := B.notSynchronized
  have hts : ∀ w ∈ gT, w.before _ s = true := fun w h => atoms_spec (ws := Cond.code yX10_readSaid cX10_readSaid 4 (some .boolean) :: gT) B.pre w (List.mem_cons_of_mem _ h)
  have hown : s.vm.findClass RX10 = some m.cls := findClass_of_methodNamed B.named
  subst hsz
  have hD := hD0.self (sz := s.heap.size)
  generalize hAe : va_A w0 s.heap.size = A at hD hSD ⊢
  have hA : ∀ q : Nat, s.heap.size ≤ q → A q := fun q h => by rw [← hAe]; exact Or.inr h
  have hl := lv_entry ([.ref p0]) (n := 4) (Nat.le_of_ble_eq_true rfl)
  rw [lg_entry_eq]
  generalize (lg_sl ([.ref p0]) ++ List.replicate (4 - (lg_sl ([.ref p0])).length) Slot.unset).toArray = ls at hl ⊢
  have hl : lv_has ls 4 [(0, .ref p0)] := hl
  refine nameQ (fun Q hQ => ?_)
  have hw : WD D cy GG A s wr_X10_readSaid__9 wa_X10_readSaid__9 Ps w0 Ps w0 s.heap [] := ⟨hT, hP, hD, va_S.rf, FR.rf, hT.1, [], (List.append_nil _).symm⟩
  obtain ⟨R9, hR⟩ : ∃ q9 : OS × Int32, f_X10_readSaid__9 s0 = q9 := ⟨_, rfl⟩
  have hE := hR
  have B30 : ∀ (x1 : Int32) (x2 : Int32) (z0_47 : Int32) (s0 : OS) (ws : va_W) (H : Heap) (locs : List Loc) (ls : Array Slot), RI x1 0 1 → RI x2 18 28 → RI z0_47 0 0 → FLD ws p0 10 47 (.int z0_47) → SNp ws p0 (gd) (gh) (gg) → OV vw_M2 Ps ws p0 s0 → f_X10_readSaid__9_30 x1 x2 s0 = R9 → WD D cy GG A s wr_X10_readSaid__9 wa_X10_readSaid__9 Ps w0 Ps ws H locs → lv_has ls 4 [(0, .ref p0), (1, .int x1), (2, .int x2)] → W p l e (headSpec (Cond.code yX10_readSaid cX10_readSaid 4 (some .boolean) :: gT) ({ frames := 36, cells := 0, slots := 0, locals := 7200 } : Room)).room s m ([.ref p0] : List Value).toArray below meth c H locs 0 0 Q (F0 m 30 ls []) := by
    intro x1 x2 z0_47 s0 ws H locs ls r_x1 r_x2 r_z0_47 m_z0_47 x_SN_p0_gd_gh_gg o_p0 hE hw hl
    have q_z0_47 : s0.1 47 = z0_47 := OV.eqI (V := vw_M2) hw.2.2.1 o_p0 m_z0_47 (by decide)
    refine lv_iload_n hx hb dX10_readSaid_30 rfl (lv_at hl 1 rfl) ?_
    refine lv_if_ne (tgt := 46) hx hb dX10_readSaid_31 (by decide) (fun c_31 => ?_) (fun c_31 => ?_)
    · have r_x1 : RI x1 1 1 := rc_neL r_x1 rl_0 (ti_ne c_31) (by decide)
      refine lv_aload_n hx hb dX10_readSaid_46 rfl (lv_at hl 0 rfl) ?_
      refine tg_get (ci := 10) (ts := ty_MODEL) (C := RX10) (T := TX10) (N := 49) hx hb hts inX10 hown hK hw h_p0 rfl rfl 46 (by decide) (hts _ tw_1183) (fun _ h9 => h9) (ft := vI (-2147483648) 2147483647) rfl dX10_readSaid_47 (fun u_1 hv_u_1 m_u_1 => ?_)
      obtain ⟨vu_1, rfl, r_vu_1⟩ := hv_u_1
      have q_vu_1 : s0.1 46 = vu_1 := OV.eqI (V := vw_M2) hw.2.2.1 o_p0 m_u_1 (by decide)
      obtain ⟨n9, hn9, rn9, r_vu_1, b9⟩ := SNp.getO hw x_SN_p0_gd_gh_gg m_u_1
      refine lv_bipush (v := 20) hx hb dX10_readSaid_50 (by decide) ?_
      refine lv_icmp_eq (tgt := 64) hx hb dX10_readSaid_52 (by decide) (fun c_52 => ?_) (fun c_52 => ?_)
      · have r_vu_1 : RI vu_1 20 20 := rc_eq1 r_vu_1 rl_20 (ti_eq c_52) (by decide)
        refine lv_aload_n hx hb dX10_readSaid_64 rfl (lv_at hl 0 rfl) ?_
        refine lv_iconst (v := 4) hx hb dX10_readSaid_65 (by decide) ?_
        refine tk_i (va_runV (As := [.int 4]) (rest := []) ⟨hx, hb, hml, hown, hts⟩ (c_X10_bad__2 l D cy z H.size Ps ws hw.1 p0 4 s0 h_p0 (rl_4.to (by decide)) o_p0) (cwV 1 hts (gV tw_1336 tw_1338 ts_46 tw_15 tw_1339) rfl rfl rfl (by decide +kernel) ⟨Nat.le_of_ble_eq_true rfl, Nat.le_of_ble_eq_true rfl⟩) (tg_preV hw hK hSD hA (ci := 10) (q := (RX10, TX10, 49)) rfl h_p0 rfl) rfl rfl hl.1 rfl (lv_room (Nat.le_of_ble_eq_true rfl)) dX10_readSaid_66 ⟨Nat.le_of_ble_eq_true rfl, Nat.le_of_ble_eq_true rfl⟩) hw hA ⟨by decide, by decide⟩ (fun v_2 ws H locs hp_v_2 hw hF9 => ?_)
        have m_z0_47 := FLD.over hF9 m_z0_47 (by decide)
        have m_u_1 := FLD.over hF9 m_u_1 (by decide)
        have hn9 := FLD.over hF9 hn9 (by decide)
        have x_SN_p0_gd_gh_gg := SNp.over hF9 x_SN_p0_gd_gh_gg (by decide)
        obtain ⟨hfn, hp_v_2⟩ := hp_v_2
        obtain ⟨sg_3, q_sg_3⟩ : ∃ q9 : OS, (f_X10_bad__1 (4 : Int32) s0).1 = q9 := ⟨_, rfl⟩
        have o_p0 : OV vw_M2 Ps ws p0 sg_3 := by rw [← q_sg_3]; exact hfn.1
        have q_v_2 : (f_X10_bad__1 (4 : Int32) s0).2 = v_2 := hfn.2.1
        have r_v_2 : RI v_2 0 0 := hp_v_2.1
        simp only [f_X10_readSaid__9_30, ↓reduceIte, q_z0_47, eq_false c_31, q_vu_1, eq_true c_52, q_sg_3, q_v_2] at hE
        subst hQ
        exact W.zret (v := v_2) hx hb hr (tq_nz (r_v_2.to (by decide))) (fun t ht hW => ⟨⟨v_2, ws, rfl, ⟨⟨⟨(by rw [hR, ← hE]; exact o_p0), (by rw [hR, ← hE]), trivial⟩, r_v_2.to (by decide), (fun h0 => ⟨⟨_, m_z0_47, r_z0_47⟩, trivial⟩), (fun h0 => absurd (Int32.toInt_inj.mp (by have h8 := r_v_2; unfold RI at h8; rw [Int32.toInt_zero]; omega)) h0)⟩, hw.1, hw.2.2.2.2.1⟩, by rw [ht]; exact hw.2.1, va_K.moved hW.alike hK, hw.2.2.1⟩, hw.2.2.2.1.F ht⟩) hw.2.2.2.1.2.2 dX10_readSaid_69
      · have r_vu_1 : RI vu_1 0 19 := rc_neU r_vu_1 rl_20 (ti_ne c_52) (by decide)
        refine lv_aload_n hx hb dX10_readSaid_55 rfl (lv_at hl 0 rfl) ?_
        refine tg_mem (ci := 10) (C := RX10) (T := TX10) (N := 49) hx hb hts inX10 hown hK hw 47 m_z0_47 rfl (by decide) (hts _ tw_1184) (fun _ h9 => h9) dX10_readSaid_56 ?_
        refine lv_bipush (v := 8) hx hb dX10_readSaid_59 (by decide) ?_
        refine lv_icmp_ne (tgt := 70) hx hb dX10_readSaid_61 (by decide) (fun c_61 => ?_) (fun c_61 => ?_)
        · refine lv_aload_n hx hb dX10_readSaid_70 rfl (lv_at hl 0 rfl) ?_
          refine lv_dup hx hb dX10_readSaid_71 rfl ?_
          refine tg_mem (ci := 10) (C := RX10) (T := TX10) (N := 49) hx hb hts inX10 hown hK hw 46 m_u_1 rfl (by decide) (hts _ tw_1183) (fun _ h9 => h9) dX10_readSaid_72 ?_
          refine lv_iconst (v := 1) hx hb dX10_readSaid_75 (by decide) ?_
          refine lv_iadd hx hb dX10_readSaid_76 (lv_topi (fun v_4 e_v_4 => ?_))
          obtain ⟨t_v_4, r_v_4⟩ := tq_add (lo := 1) (hi := 20) r_vu_1 rl_1 (by decide +kernel) e_v_4
          have t_v_4 : v_4.toInt = vu_1.toInt + 1 := t_v_4
          have q_v_4 : vu_1 + (1 : Int32) = v_4 := e_v_4.symm
          refine tg_put (ci := 10) (ts := ty_MODEL) (v := .int v_4) (ty := .int) (C := RX10) (T := TX10) (N := 49) hx hb hts inX10 tyX10 tyX10_ok nmX10 hown hK hw h_p0 rfl rfl 46 (by decide) (hts _ tw_1183) (fun _ h9 => h9) rfl (by decide +kernel) rfl rfl (ft := vI (-2147483648) 2147483647) rfl ⟨_, rfl, (r_v_4.to (by decide))⟩ (by decide) dX10_readSaid_77 (fun ws H locs hw n_k_5 hF9 => ?_)
          have m_z0_47 := FLD.over hF9 m_z0_47 (by decide)
          have hn9 := FLD.over hF9 hn9 (by decide)
          obtain ⟨sg_6, q_sg_6⟩ : ∃ q9 : OS, sI s0 46 v_4 = q9 := ⟨_, rfl⟩
          have o_p0 : OV vw_M2 Ps ws p0 sg_6 := by rw [← q_sg_6]; exact OV.putI (V := vw_M2) hF9 n_k_5 o_p0 (by decide)
          have x_SNI_p0_gd_1_gh_1_gg : SNI ws p0 (gd+1) (gh+1) (gg) := ⟨by omega, _, _, hn9, n_k_5, by have k1 := rn9.1; have k2 := r_v_4.2; omega⟩
          refine lv_aload_n hx hb dX10_readSaid_80 rfl (lv_at hl 0 rfl) ?_
          refine lv_dup hx hb dX10_readSaid_81 rfl ?_
          refine tg_mem (ci := 10) (C := RX10) (T := TX10) (N := 49) hx hb hts inX10 hown hK hw 47 m_z0_47 rfl (by decide) (hts _ tw_1184) (fun _ h9 => h9) dX10_readSaid_82 ?_
          refine lv_iconst (v := 1) hx hb dX10_readSaid_85 (by decide) ?_
          refine lv_iadd hx hb dX10_readSaid_86 (lv_topi (fun v_7 e_v_7 => ?_))
          obtain ⟨t_v_7, r_v_7⟩ := tq_add (lo := 1) (hi := 1) r_z0_47 rl_1 (by decide +kernel) e_v_7
          have t_v_7 : v_7.toInt = z0_47.toInt + 1 := t_v_7
          have q_v_7 : z0_47 + (1 : Int32) = v_7 := e_v_7.symm
          refine tg_put (ci := 10) (ts := ty_MODEL) (v := .int v_7) (ty := .int) (C := RX10) (T := TX10) (N := 49) hx hb hts inX10 tyX10 tyX10_ok nmX10 hown hK hw h_p0 rfl rfl 47 (by decide) (hts _ tw_1184) (fun _ h9 => h9) rfl (by decide +kernel) rfl rfl (ft := vI (-2147483648) 2147483647) rfl ⟨_, rfl, (r_v_7.to (by decide))⟩ (by decide) dX10_readSaid_87 (fun ws H locs hw n_k_8 hF9 => ?_)
          have hn9 := FLD.over hF9 hn9 (by decide)
          have n_k_5 := FLD.over hF9 n_k_5 (by decide)
          have x_SNI_p0_gd_1_gh_1_gg := SNI.over hF9 x_SNI_p0_gd_1_gh_1_gg (by decide)
          obtain ⟨sg_9, q_sg_9⟩ : ∃ q9 : OS, sI sg_6 47 v_7 = q9 := ⟨_, rfl⟩
          have o_p0 : OV vw_M2 Ps ws p0 sg_9 := by rw [← q_sg_9]; exact OV.putI (V := vw_M2) hF9 n_k_8 o_p0 (by decide)
          refine lv_aload_n hx hb dX10_readSaid_90 rfl (lv_at hl 0 rfl) ?_
          refine tk_v (va_runV (As := []) (rest := []) ⟨hx, hb, hml, hown, hts⟩ (c_X10_go__4 l D cy z H.size Ps ws hw.1 p0 sg_9 h_p0 o_p0) (cwV 0 hts (gV tw_1298 tw_1300 ts_40 tw_15 tw_1301) rfl rfl rfl (by decide +kernel) ⟨Nat.le_of_ble_eq_true rfl, Nat.le_of_ble_eq_true rfl⟩) (tg_preV hw hK hSD hA (ci := 10) (q := (RX10, TX10, 49)) rfl h_p0 rfl) rfl rfl hl.1 rfl (lv_room (Nat.le_of_ble_eq_true rfl)) dX10_readSaid_91 ⟨Nat.le_of_ble_eq_true rfl, Nat.le_of_ble_eq_true rfl⟩) hw hA ⟨by decide, by decide⟩ (fun ws H locs hp_v_10 hw hF9 => ?_)
          have hn9 := FLD.over hF9 hn9 (by decide)
          have n_k_5 := FLD.over hF9 n_k_5 (by decide)
          have n_k_8 := FLD.over hF9 n_k_8 (by decide)
          have x_SNI_p0_gd_1_gh_1_gg := SNI.over hF9 x_SNI_p0_gd_1_gh_1_gg (by decide)
          obtain ⟨hfn, hp_v_10⟩ := hp_v_10
          obtain ⟨sg_11, q_sg_11⟩ : ∃ q9 : OS, (f_X10_go__2 sg_9) = q9 := ⟨_, rfl⟩
          have o_p0 : OV vw_M2 Ps ws p0 sg_11 := by rw [← q_sg_11]; exact hfn.1
          refine lv_iconst (v := 1) hx hb dX10_readSaid_94 (by decide) ?_
          refine lv_istore_n (lv' := [(3, .int 1), (0, .ref p0), (1, .int x1), (2, .int x2)]) hx hb dX10_readSaid_95 rfl hl (by decide) rfl (fun ls hl => ?_)
          refine lv_iload_n hx hb dX10_readSaid_96 rfl (lv_at hl 2 rfl) ?_
          refine lv_if_eq (tgt := 108) hx hb dX10_readSaid_97 (by decide) (fun c_97 => ?_) (fun c_97 => ?_)
          · have r_x1 : RI x1 1 0 := rc_eq1 r_x1 rl_0 (ti_eq c_97) (by decide)
            exact (r_x1.no (by decide)).elim
          · refine lv_aload_n hx hb dX10_readSaid_100 rfl (lv_at hl 1 rfl) ?_
            refine tk_i (va_runV (As := []) (rest := []) ⟨hx, hb, hml, hown, hts⟩ (c_X10_readBracket__8 l D cy z H.size Ps ws hw.1 p0 v_7 (gd+1) (gh+1) (gg) sg_11 h_p0 r_v_7 n_k_8 x_SNI_p0_gd_1_gh_1_gg o_p0) (cwV 0 hts (gV tw_1763 tw_1765 ts_114 tw_15 tw_1766) rfl rfl rfl (by decide +kernel) ⟨Nat.le_of_ble_eq_true rfl, Nat.le_of_ble_eq_true rfl⟩) (tg_preV hw hK hSD hA (ci := 10) (q := (RX10, TX10, 49)) rfl h_p0 rfl) rfl rfl hl.1 rfl (lv_room (Nat.le_of_ble_eq_true rfl)) dX10_readSaid_101 ⟨Nat.le_of_ble_eq_true rfl, Nat.le_of_ble_eq_true rfl⟩) hw hA ⟨by decide, by decide⟩ (fun v_12 ws H locs hp_v_12 hw hF9 => ?_)
            obtain ⟨hfn, hp_v_12⟩ := hp_v_12
            obtain ⟨sg_13, q_sg_13⟩ : ∃ q9 : OS, (f_X10_readBracket__8 sg_11).1 = q9 := ⟨_, rfl⟩
            have o_p0 : OV vw_M2 Ps ws p0 sg_13 := by rw [← q_sg_13]; exact hfn.1
            have q_v_12 : (f_X10_readBracket__8 sg_11).2 = v_12 := hfn.2.1
            have r_v_12 : RI v_12 0 1 := hp_v_12.1
            by_cases c9_v_12 : v_12 = 0
            · have r_v_12 : RI v_12 0 0 := by rw [c9_v_12]; exact rl_0
              obtain ⟨v_14, m_v_14, r_v_14⟩ := ((hp_v_12.2.1 c9_v_12).1)
              refine lv_istore_n (lv' := [(3, .int v_12), (0, .ref p0), (1, .int x1), (2, .int x2)]) hx hb dX10_readSaid_104 rfl hl (by decide) rfl (fun ls hl => ?_)
              refine lv_goto (tgt := 166) hx hb dX10_readSaid_105 (by decide) ?_
              refine lv_aload_n hx hb dX10_readSaid_166 rfl (lv_at hl 1 rfl) ?_
              refine lv_dup hx hb dX10_readSaid_167 rfl ?_
              refine tg_mem (ci := 10) (C := RX10) (T := TX10) (N := 49) hx hb hts inX10 hown hK hw 47 m_v_14 rfl (by decide) (hts _ tw_1184) (fun _ h9 => h9) dX10_readSaid_168 ?_
              have q_v_14 : sg_13.1 47 = v_14 := OV.eqI (V := vw_M2) hw.2.2.1 o_p0 m_v_14 (by decide)
              refine lv_iconst (v := 1) hx hb dX10_readSaid_171 (by decide) ?_
              refine lv_isub hx hb dX10_readSaid_172 (lv_topi (fun v_15 e_v_15 => ?_))
              obtain ⟨t_v_15, r_v_15⟩ := tq_sub (lo := 0) (hi := 0) r_v_14 rl_1 (by decide +kernel) e_v_15
              have t_v_15 : v_15.toInt = v_14.toInt - 1 := t_v_15
              have q_v_15 : v_14 - (1 : Int32) = v_15 := e_v_15.symm
              refine tg_put (ci := 10) (ts := ty_MODEL) (v := .int v_15) (ty := .int) (C := RX10) (T := TX10) (N := 49) hx hb hts inX10 tyX10 tyX10_ok nmX10 hown hK hw h_p0 rfl rfl 47 (by decide) (hts _ tw_1184) (fun _ h9 => h9) rfl (by decide +kernel) rfl rfl (ft := vI (-2147483648) 2147483647) rfl ⟨_, rfl, (r_v_15.to (by decide))⟩ (by decide) dX10_readSaid_173 (fun ws H locs hw n_k_16 hF9 => ?_)
              obtain ⟨sg_17, q_sg_17⟩ : ∃ q9 : OS, sI sg_13 47 v_15 = q9 := ⟨_, rfl⟩
              have o_p0 : OV vw_M2 Ps ws p0 sg_17 := by rw [← q_sg_17]; exact OV.putI (V := vw_M2) hF9 n_k_16 o_p0 (by decide)
              refine lv_iload_n hx hb dX10_readSaid_176 rfl (lv_at hl 0 rfl) ?_
              simp only [f_X10_readSaid__9_30, ↓reduceIte, q_z0_47, eq_false c_31, q_vu_1, eq_false c_52, eq_false c_61, q_v_4, q_sg_6, q_v_7, q_sg_9, q_sg_11, eq_false c_97, q_sg_13, q_v_12, eq_true c9_v_12, q_v_14, q_v_15, q_sg_17] at hE
              subst hQ
              exact W.zret (v := v_12) hx hb hr (tq_nz (r_v_12.to (by decide))) (fun t ht hW => ⟨⟨v_12, ws, rfl, ⟨⟨⟨(by rw [hR, ← hE]; exact o_p0), (by rw [hR, ← hE]), trivial⟩, r_v_12.to (by decide), (fun h0 => ⟨⟨_, n_k_16, r_v_15⟩, trivial⟩), (fun h0 => absurd (Int32.toInt_inj.mp (by have h8 := r_v_12; unfold RI at h8; rw [Int32.toInt_zero]; omega)) h0)⟩, hw.1, hw.2.2.2.2.1⟩, by rw [ht]; exact hw.2.1, va_K.moved hW.alike hK, hw.2.2.1⟩, hw.2.2.2.1.F ht⟩) hw.2.2.2.1.2.2 dX10_readSaid_177
            · have r_v_12 : RI v_12 1 1 := rc_neL r_v_12 rl_0 (ti_ne c9_v_12) (by decide)
              obtain ⟨v_18, m_v_18, r_v_18⟩ := ((hp_v_12.2.2 c9_v_12).1)
              obtain ⟨v_19, m_v_19, r_v_19⟩ := ((hp_v_12.2.2 c9_v_12).2.1)
              obtain ⟨v_20, m_v_20, r_v_20⟩ := ((hp_v_12.2.2 c9_v_12).2.2.1)
              have x_SNT_p0_gd_1_gh_1_gg := ((hp_v_12.2.2 c9_v_12).2.2.2.1)
              refine lv_istore_n (lv' := [(3, .int v_12), (0, .ref p0), (1, .int x1), (2, .int x2)]) hx hb dX10_readSaid_104 rfl hl (by decide) rfl (fun ls hl => ?_)
              refine lv_goto (tgt := 166) hx hb dX10_readSaid_105 (by decide) ?_
              refine lv_aload_n hx hb dX10_readSaid_166 rfl (lv_at hl 1 rfl) ?_
              refine lv_dup hx hb dX10_readSaid_167 rfl ?_
              refine tg_mem (ci := 10) (C := RX10) (T := TX10) (N := 49) hx hb hts inX10 hown hK hw 47 m_v_19 rfl (by decide) (hts _ tw_1184) (fun _ h9 => h9) dX10_readSaid_168 ?_
              have q_v_19 : sg_13.1 47 = v_19 := OV.eqI (V := vw_M2) hw.2.2.1 o_p0 m_v_19 (by decide)
              refine lv_iconst (v := 1) hx hb dX10_readSaid_171 (by decide) ?_
              refine lv_isub hx hb dX10_readSaid_172 (lv_topi (fun v_21 e_v_21 => ?_))
              obtain ⟨t_v_21, r_v_21⟩ := tq_sub (lo := 0) (hi := 0) r_v_19 rl_1 (by decide +kernel) e_v_21
              have t_v_21 : v_21.toInt = v_19.toInt - 1 := t_v_21
              have q_v_21 : v_19 - (1 : Int32) = v_21 := e_v_21.symm
              refine tg_put (ci := 10) (ts := ty_MODEL) (v := .int v_21) (ty := .int) (C := RX10) (T := TX10) (N := 49) hx hb hts inX10 tyX10 tyX10_ok nmX10 hown hK hw h_p0 rfl rfl 47 (by decide) (hts _ tw_1184) (fun _ h9 => h9) rfl (by decide +kernel) rfl rfl (ft := vI (-2147483648) 2147483647) rfl ⟨_, rfl, (r_v_21.to (by decide))⟩ (by decide) dX10_readSaid_173 (fun ws H locs hw n_k_22 hF9 => ?_)
              have m_v_18 := FLD.over hF9 m_v_18 (by decide)
              have m_v_20 := FLD.over hF9 m_v_20 (by decide)
              have x_SNT_p0_gd_1_gh_1_gg := SNT.over hF9 x_SNT_p0_gd_1_gh_1_gg (by decide)
              obtain ⟨sg_23, q_sg_23⟩ : ∃ q9 : OS, sI sg_13 47 v_21 = q9 := ⟨_, rfl⟩
              have o_p0 : OV vw_M2 Ps ws p0 sg_23 := by rw [← q_sg_23]; exact OV.putI (V := vw_M2) hF9 n_k_22 o_p0 (by decide)
              refine lv_iload_n hx hb dX10_readSaid_176 rfl (lv_at hl 0 rfl) ?_
              simp only [f_X10_readSaid__9_30, ↓reduceIte, q_z0_47, eq_false c_31, q_vu_1, eq_false c_52, eq_false c_61, q_v_4, q_sg_6, q_v_7, q_sg_9, q_sg_11, eq_false c_97, q_sg_13, q_v_12, eq_false c9_v_12, q_v_19, q_v_21, q_sg_23] at hE
              subst hQ
              exact W.zret (v := v_12) hx hb hr (tq_nz (r_v_12.to (by decide))) (fun t ht hW => ⟨⟨v_12, ws, rfl, ⟨⟨⟨(by rw [hR, ← hE]; exact o_p0), (by rw [hR, ← hE]), trivial⟩, r_v_12.to (by decide), (fun h0 => absurd (ti_eq h0) (by have h8 := r_v_12; unfold RI at h8; rw [Int32.toInt_zero]; omega)), (fun h0 => ⟨⟨_, m_v_18, r_v_18⟩, ⟨_, m_v_20, r_v_20⟩, ⟨_, n_k_22, r_v_21⟩, x_SNT_p0_gd_1_gh_1_gg, trivial⟩)⟩, hw.1, hw.2.2.2.2.1⟩, by rw [ht]; exact hw.2.1, va_K.moved hW.alike hK, hw.2.2.1⟩, hw.2.2.2.1.F ht⟩) hw.2.2.2.1.2.2 dX10_readSaid_177
        · have r_z0_47 : RI z0_47 8 0 := rc_eq1 r_z0_47 rl_8 (ti_eq c_61) (by decide)
          exact (r_z0_47.no (by decide)).elim
    · have r_x1 : RI x1 0 0 := rc_eq1 r_x1 rl_0 (ti_eq c_31) (by decide)
      refine lv_iload_n hx hb dX10_readSaid_34 rfl (lv_at hl 2 rfl) ?_
      refine lv_bipush (v := 27) hx hb dX10_readSaid_35 (by decide) ?_
      refine lv_icmp_le (tgt := 46) hx hb dX10_readSaid_37 (by decide) (fun c_37 => ?_) (fun c_37 => ?_)
      · have r_x2 : RI x2 18 27 := rc_le1 r_x2 rl_27 (ti_le c_37) (by decide)
        refine lv_aload_n hx hb dX10_readSaid_46 rfl (lv_at hl 0 rfl) ?_
        refine tg_get (ci := 10) (ts := ty_MODEL) (C := RX10) (T := TX10) (N := 49) hx hb hts inX10 hown hK hw h_p0 rfl rfl 46 (by decide) (hts _ tw_1183) (fun _ h9 => h9) (ft := vI (-2147483648) 2147483647) rfl dX10_readSaid_47 (fun u_24 hv_u_24 m_u_24 => ?_)
        obtain ⟨vu_24, rfl, r_vu_24⟩ := hv_u_24
        have q_vu_24 : s0.1 46 = vu_24 := OV.eqI (V := vw_M2) hw.2.2.1 o_p0 m_u_24 (by decide)
        obtain ⟨n9, hn9, rn9, r_vu_24, b9⟩ := SNp.getO hw x_SN_p0_gd_gh_gg m_u_24
        refine lv_bipush (v := 20) hx hb dX10_readSaid_50 (by decide) ?_
        refine lv_icmp_eq (tgt := 64) hx hb dX10_readSaid_52 (by decide) (fun c_52 => ?_) (fun c_52 => ?_)
        · have r_vu_24 : RI vu_24 20 20 := rc_eq1 r_vu_24 rl_20 (ti_eq c_52) (by decide)
          refine lv_aload_n hx hb dX10_readSaid_64 rfl (lv_at hl 0 rfl) ?_
          refine lv_iconst (v := 4) hx hb dX10_readSaid_65 (by decide) ?_
          refine tk_i (va_runV (As := [.int 4]) (rest := []) ⟨hx, hb, hml, hown, hts⟩ (c_X10_bad__2 l D cy z H.size Ps ws hw.1 p0 4 s0 h_p0 (rl_4.to (by decide)) o_p0) (cwV 1 hts (gV tw_1336 tw_1338 ts_46 tw_15 tw_1339) rfl rfl rfl (by decide +kernel) ⟨Nat.le_of_ble_eq_true rfl, Nat.le_of_ble_eq_true rfl⟩) (tg_preV hw hK hSD hA (ci := 10) (q := (RX10, TX10, 49)) rfl h_p0 rfl) rfl rfl hl.1 rfl (lv_room (Nat.le_of_ble_eq_true rfl)) dX10_readSaid_66 ⟨Nat.le_of_ble_eq_true rfl, Nat.le_of_ble_eq_true rfl⟩) hw hA ⟨by decide, by decide⟩ (fun v_25 ws H locs hp_v_25 hw hF9 => ?_)
          have m_z0_47 := FLD.over hF9 m_z0_47 (by decide)
          have m_u_24 := FLD.over hF9 m_u_24 (by decide)
          have hn9 := FLD.over hF9 hn9 (by decide)
          have x_SN_p0_gd_gh_gg := SNp.over hF9 x_SN_p0_gd_gh_gg (by decide)
          obtain ⟨hfn, hp_v_25⟩ := hp_v_25
          obtain ⟨sg_26, q_sg_26⟩ : ∃ q9 : OS, (f_X10_bad__1 (4 : Int32) s0).1 = q9 := ⟨_, rfl⟩
          have o_p0 : OV vw_M2 Ps ws p0 sg_26 := by rw [← q_sg_26]; exact hfn.1
          have q_v_25 : (f_X10_bad__1 (4 : Int32) s0).2 = v_25 := hfn.2.1
          have r_v_25 : RI v_25 0 0 := hp_v_25.1
          simp only [f_X10_readSaid__9_30, ↓reduceIte, q_z0_47, eq_true c_31, eq_true c_37, q_vu_24, eq_true c_52, q_sg_26, q_v_25] at hE
          subst hQ
          exact W.zret (v := v_25) hx hb hr (tq_nz (r_v_25.to (by decide))) (fun t ht hW => ⟨⟨v_25, ws, rfl, ⟨⟨⟨(by rw [hR, ← hE]; exact o_p0), (by rw [hR, ← hE]), trivial⟩, r_v_25.to (by decide), (fun h0 => ⟨⟨_, m_z0_47, r_z0_47⟩, trivial⟩), (fun h0 => absurd (Int32.toInt_inj.mp (by have h8 := r_v_25; unfold RI at h8; rw [Int32.toInt_zero]; omega)) h0)⟩, hw.1, hw.2.2.2.2.1⟩, by rw [ht]; exact hw.2.1, va_K.moved hW.alike hK, hw.2.2.1⟩, hw.2.2.2.1.F ht⟩) hw.2.2.2.1.2.2 dX10_readSaid_69
        · have r_vu_24 : RI vu_24 0 19 := rc_neU r_vu_24 rl_20 (ti_ne c_52) (by decide)
          refine lv_aload_n hx hb dX10_readSaid_55 rfl (lv_at hl 0 rfl) ?_
          refine tg_mem (ci := 10) (C := RX10) (T := TX10) (N := 49) hx hb hts inX10 hown hK hw 47 m_z0_47 rfl (by decide) (hts _ tw_1184) (fun _ h9 => h9) dX10_readSaid_56 ?_
          refine lv_bipush (v := 8) hx hb dX10_readSaid_59 (by decide) ?_
          refine lv_icmp_ne (tgt := 70) hx hb dX10_readSaid_61 (by decide) (fun c_61 => ?_) (fun c_61 => ?_)
          · refine lv_aload_n hx hb dX10_readSaid_70 rfl (lv_at hl 0 rfl) ?_
            refine lv_dup hx hb dX10_readSaid_71 rfl ?_
            refine tg_mem (ci := 10) (C := RX10) (T := TX10) (N := 49) hx hb hts inX10 hown hK hw 46 m_u_24 rfl (by decide) (hts _ tw_1183) (fun _ h9 => h9) dX10_readSaid_72 ?_
            refine lv_iconst (v := 1) hx hb dX10_readSaid_75 (by decide) ?_
            refine lv_iadd hx hb dX10_readSaid_76 (lv_topi (fun v_27 e_v_27 => ?_))
            obtain ⟨t_v_27, r_v_27⟩ := tq_add (lo := 1) (hi := 20) r_vu_24 rl_1 (by decide +kernel) e_v_27
            have t_v_27 : v_27.toInt = vu_24.toInt + 1 := t_v_27
            have q_v_27 : vu_24 + (1 : Int32) = v_27 := e_v_27.symm
            refine tg_put (ci := 10) (ts := ty_MODEL) (v := .int v_27) (ty := .int) (C := RX10) (T := TX10) (N := 49) hx hb hts inX10 tyX10 tyX10_ok nmX10 hown hK hw h_p0 rfl rfl 46 (by decide) (hts _ tw_1183) (fun _ h9 => h9) rfl (by decide +kernel) rfl rfl (ft := vI (-2147483648) 2147483647) rfl ⟨_, rfl, (r_v_27.to (by decide))⟩ (by decide) dX10_readSaid_77 (fun ws H locs hw n_k_28 hF9 => ?_)
            have m_z0_47 := FLD.over hF9 m_z0_47 (by decide)
            have hn9 := FLD.over hF9 hn9 (by decide)
            obtain ⟨sg_29, q_sg_29⟩ : ∃ q9 : OS, sI s0 46 v_27 = q9 := ⟨_, rfl⟩
            have o_p0 : OV vw_M2 Ps ws p0 sg_29 := by rw [← q_sg_29]; exact OV.putI (V := vw_M2) hF9 n_k_28 o_p0 (by decide)
            have x_SNI_p0_gd_1_gh_1_gg : SNI ws p0 (gd+1) (gh+1) (gg) := ⟨by omega, _, _, hn9, n_k_28, by have k1 := rn9.1; have k2 := r_v_27.2; omega⟩
            refine lv_aload_n hx hb dX10_readSaid_80 rfl (lv_at hl 0 rfl) ?_
            refine lv_dup hx hb dX10_readSaid_81 rfl ?_
            refine tg_mem (ci := 10) (C := RX10) (T := TX10) (N := 49) hx hb hts inX10 hown hK hw 47 m_z0_47 rfl (by decide) (hts _ tw_1184) (fun _ h9 => h9) dX10_readSaid_82 ?_
            refine lv_iconst (v := 1) hx hb dX10_readSaid_85 (by decide) ?_
            refine lv_iadd hx hb dX10_readSaid_86 (lv_topi (fun v_30 e_v_30 => ?_))
            obtain ⟨t_v_30, r_v_30⟩ := tq_add (lo := 1) (hi := 1) r_z0_47 rl_1 (by decide +kernel) e_v_30
            have t_v_30 : v_30.toInt = z0_47.toInt + 1 := t_v_30
            have q_v_30 : z0_47 + (1 : Int32) = v_30 := e_v_30.symm
            refine tg_put (ci := 10) (ts := ty_MODEL) (v := .int v_30) (ty := .int) (C := RX10) (T := TX10) (N := 49) hx hb hts inX10 tyX10 tyX10_ok nmX10 hown hK hw h_p0 rfl rfl 47 (by decide) (hts _ tw_1184) (fun _ h9 => h9) rfl (by decide +kernel) rfl rfl (ft := vI (-2147483648) 2147483647) rfl ⟨_, rfl, (r_v_30.to (by decide))⟩ (by decide) dX10_readSaid_87 (fun ws H locs hw n_k_31 hF9 => ?_)
            have hn9 := FLD.over hF9 hn9 (by decide)
            have n_k_28 := FLD.over hF9 n_k_28 (by decide)
            have x_SNI_p0_gd_1_gh_1_gg := SNI.over hF9 x_SNI_p0_gd_1_gh_1_gg (by decide)
            obtain ⟨sg_32, q_sg_32⟩ : ∃ q9 : OS, sI sg_29 47 v_30 = q9 := ⟨_, rfl⟩
            have o_p0 : OV vw_M2 Ps ws p0 sg_32 := by rw [← q_sg_32]; exact OV.putI (V := vw_M2) hF9 n_k_31 o_p0 (by decide)
            refine lv_aload_n hx hb dX10_readSaid_90 rfl (lv_at hl 0 rfl) ?_
            refine tk_v (va_runV (As := []) (rest := []) ⟨hx, hb, hml, hown, hts⟩ (c_X10_go__4 l D cy z H.size Ps ws hw.1 p0 sg_32 h_p0 o_p0) (cwV 0 hts (gV tw_1298 tw_1300 ts_40 tw_15 tw_1301) rfl rfl rfl (by decide +kernel) ⟨Nat.le_of_ble_eq_true rfl, Nat.le_of_ble_eq_true rfl⟩) (tg_preV hw hK hSD hA (ci := 10) (q := (RX10, TX10, 49)) rfl h_p0 rfl) rfl rfl hl.1 rfl (lv_room (Nat.le_of_ble_eq_true rfl)) dX10_readSaid_91 ⟨Nat.le_of_ble_eq_true rfl, Nat.le_of_ble_eq_true rfl⟩) hw hA ⟨by decide, by decide⟩ (fun ws H locs hp_v_33 hw hF9 => ?_)
            have hn9 := FLD.over hF9 hn9 (by decide)
            have n_k_28 := FLD.over hF9 n_k_28 (by decide)
            have n_k_31 := FLD.over hF9 n_k_31 (by decide)
            have x_SNI_p0_gd_1_gh_1_gg := SNI.over hF9 x_SNI_p0_gd_1_gh_1_gg (by decide)
            obtain ⟨hfn, hp_v_33⟩ := hp_v_33
            obtain ⟨sg_34, q_sg_34⟩ : ∃ q9 : OS, (f_X10_go__2 sg_32) = q9 := ⟨_, rfl⟩
            have o_p0 : OV vw_M2 Ps ws p0 sg_34 := by rw [← q_sg_34]; exact hfn.1
            refine lv_iconst (v := 1) hx hb dX10_readSaid_94 (by decide) ?_
            refine lv_istore_n (lv' := [(3, .int 1), (0, .ref p0), (1, .int x1), (2, .int x2)]) hx hb dX10_readSaid_95 rfl hl (by decide) rfl (fun ls hl => ?_)
            refine lv_iload_n hx hb dX10_readSaid_96 rfl (lv_at hl 2 rfl) ?_
            refine lv_if_eq (tgt := 108) hx hb dX10_readSaid_97 (by decide) (fun c_97 => ?_) (fun c_97 => ?_)
            · refine lv_iload_n hx hb dX10_readSaid_108 rfl (lv_at hl 3 rfl) ?_
              refine lv_bipush (v := 18) hx hb dX10_readSaid_109 (by decide) ?_
              refine lv_icmp_ne (tgt := 122) hx hb dX10_readSaid_111 (by decide) (fun c_111 => ?_) (fun c_111 => ?_)
              · have r_x2 : RI x2 19 27 := rc_neL r_x2 rl_18 (ti_ne c_111) (by decide)
                refine lv_iload_n hx hb dX10_readSaid_122 rfl (lv_at hl 3 rfl) ?_
                refine lv_bipush (v := 22) hx hb dX10_readSaid_123 (by decide) ?_
                refine lv_icmp_ge (tgt := 146) hx hb dX10_readSaid_125 (by decide) (fun c_125 => ?_) (fun c_125 => ?_)
                · have r_x2 : RI x2 22 27 := rc_le2 rl_22 r_x2 (ti_le c_125) (by decide)
                  refine lv_iload_n hx hb dX10_readSaid_146 rfl (lv_at hl 3 rfl) ?_
                  refine lv_bipush (v := 24) hx hb dX10_readSaid_147 (by decide) ?_
                  refine lv_icmp_ge (tgt := 160) hx hb dX10_readSaid_149 (by decide) (fun c_149 => ?_) (fun c_149 => ?_)
                  · have r_x2 : RI x2 24 27 := rc_le2 rl_24 r_x2 (ti_le c_149) (by decide)
                    refine lv_aload_n hx hb dX10_readSaid_160 rfl (lv_at hl 1 rfl) ?_
                    refine lv_iload_n hx hb dX10_readSaid_161 rfl (lv_at hl 3 rfl) ?_
                    refine tk_i (va_runV (As := [.int x2]) (rest := []) ⟨hx, hb, hml, hown, hts⟩ (c_X10_readCompare__1 l D cy z H.size Ps ws hw.1 p0 x2 (gd+1) (gh+1) (gg) sg_34 h_p0 r_x2 x_SNI_p0_gd_1_gh_1_gg o_p0) (cwV 1 hts (gV tw_1779 tw_1781 ts_118 tw_15 tw_1782) rfl rfl rfl (by decide +kernel) ⟨Nat.le_of_ble_eq_true rfl, Nat.le_of_ble_eq_true rfl⟩) (tg_preV hw hK hSD hA (ci := 10) (q := (RX10, TX10, 49)) rfl h_p0 rfl) rfl rfl hl.1 rfl (lv_room (Nat.le_of_ble_eq_true rfl)) dX10_readSaid_162 ⟨Nat.le_of_ble_eq_true rfl, Nat.le_of_ble_eq_true rfl⟩) hw hA ⟨by decide, by decide⟩ (fun v_35 ws H locs hp_v_35 hw hF9 => ?_)
                    have n_k_28 := FLD.over hF9 n_k_28 (by decide)
                    have n_k_31 := FLD.over hF9 n_k_31 (by decide)
                    obtain ⟨hfn, hp_v_35⟩ := hp_v_35
                    obtain ⟨sg_36, q_sg_36⟩ : ∃ q9 : OS, (f_X10_readCompare__1 x2 sg_34).1 = q9 := ⟨_, rfl⟩
                    have o_p0 : OV vw_M2 Ps ws p0 sg_36 := by rw [← q_sg_36]; exact hfn.1
                    have q_v_35 : (f_X10_readCompare__1 x2 sg_34).2 = v_35 := hfn.2.1
                    have r_v_35 : RI v_35 0 1 := hp_v_35.1
                    by_cases c9_v_35 : v_35 = 0
                    · have r_v_35 : RI v_35 0 0 := by rw [c9_v_35]; exact rl_0
                      refine lv_istore_n (lv' := [(3, .int v_35), (0, .ref p0), (1, .int x1), (2, .int x2)]) hx hb dX10_readSaid_165 rfl hl (by decide) rfl (fun ls hl => ?_)
                      refine lv_aload_n hx hb dX10_readSaid_166 rfl (lv_at hl 1 rfl) ?_
                      refine lv_dup hx hb dX10_readSaid_167 rfl ?_
                      refine tg_mem (ci := 10) (C := RX10) (T := TX10) (N := 49) hx hb hts inX10 hown hK hw 47 n_k_31 rfl (by decide) (hts _ tw_1184) (fun _ h9 => h9) dX10_readSaid_168 ?_
                      refine lv_iconst (v := 1) hx hb dX10_readSaid_171 (by decide) ?_
                      refine lv_isub hx hb dX10_readSaid_172 (lv_topi (fun v_37 e_v_37 => ?_))
                      obtain ⟨t_v_37, r_v_37⟩ := tq_sub (lo := 0) (hi := 0) r_v_30 rl_1 (by decide +kernel) e_v_37
                      have t_v_37 : v_37.toInt = v_30.toInt - 1 := t_v_37
                      have q_v_37 : v_30 - (1 : Int32) = v_37 := e_v_37.symm
                      refine tg_put (ci := 10) (ts := ty_MODEL) (v := .int v_37) (ty := .int) (C := RX10) (T := TX10) (N := 49) hx hb hts inX10 tyX10 tyX10_ok nmX10 hown hK hw h_p0 rfl rfl 47 (by decide) (hts _ tw_1184) (fun _ h9 => h9) rfl (by decide +kernel) rfl rfl (ft := vI (-2147483648) 2147483647) rfl ⟨_, rfl, (r_v_37.to (by decide))⟩ (by decide) dX10_readSaid_173 (fun ws H locs hw n_k_38 hF9 => ?_)
                      have n_k_28 := FLD.over hF9 n_k_28 (by decide)
                      obtain ⟨sg_39, q_sg_39⟩ : ∃ q9 : OS, sI sg_36 47 v_37 = q9 := ⟨_, rfl⟩
                      have o_p0 : OV vw_M2 Ps ws p0 sg_39 := by rw [← q_sg_39]; exact OV.putI (V := vw_M2) hF9 n_k_38 o_p0 (by decide)
                      refine lv_iload_n hx hb dX10_readSaid_176 rfl (lv_at hl 0 rfl) ?_
                      simp only [f_X10_readSaid__9_30, ↓reduceIte, q_z0_47, eq_true c_31, eq_true c_37, q_vu_24, eq_false c_52, eq_false c_61, q_v_27, q_sg_29, q_v_30, q_sg_32, q_sg_34, eq_true c_97, eq_false c_111, eq_true c_125, eq_true c_149, q_sg_36, q_v_35, eq_true c9_v_35, q_v_37, q_sg_39] at hE
                      subst hQ
                      exact W.zret (v := v_35) hx hb hr (tq_nz (r_v_35.to (by decide))) (fun t ht hW => ⟨⟨v_35, ws, rfl, ⟨⟨⟨(by rw [hR, ← hE]; exact o_p0), (by rw [hR, ← hE]), trivial⟩, r_v_35.to (by decide), (fun h0 => ⟨⟨_, n_k_38, r_v_37⟩, trivial⟩), (fun h0 => absurd (Int32.toInt_inj.mp (by have h8 := r_v_35; unfold RI at h8; rw [Int32.toInt_zero]; omega)) h0)⟩, hw.1, hw.2.2.2.2.1⟩, by rw [ht]; exact hw.2.1, va_K.moved hW.alike hK, hw.2.2.1⟩, hw.2.2.2.1.F ht⟩) hw.2.2.2.1.2.2 dX10_readSaid_177
                    · have r_v_35 : RI v_35 1 1 := rc_neL r_v_35 rl_0 (ti_ne c9_v_35) (by decide)
                      obtain ⟨v_40, m_v_40, r_v_40⟩ := ((hp_v_35.2.2 c9_v_35).1)
                      obtain ⟨v_41, m_v_41, r_v_41⟩ := ((hp_v_35.2.2 c9_v_35).2.1)
                      have x_SNT_p0_gd_1_gh_1_gg := ((hp_v_35.2.2 c9_v_35).2.2.1)
                      refine lv_istore_n (lv' := [(3, .int v_35), (0, .ref p0), (1, .int x1), (2, .int x2)]) hx hb dX10_readSaid_165 rfl hl (by decide) rfl (fun ls hl => ?_)
                      refine lv_aload_n hx hb dX10_readSaid_166 rfl (lv_at hl 1 rfl) ?_
                      refine lv_dup hx hb dX10_readSaid_167 rfl ?_
                      refine tg_mem (ci := 10) (C := RX10) (T := TX10) (N := 49) hx hb hts inX10 hown hK hw 47 n_k_31 rfl (by decide) (hts _ tw_1184) (fun _ h9 => h9) dX10_readSaid_168 ?_
                      refine lv_iconst (v := 1) hx hb dX10_readSaid_171 (by decide) ?_
                      refine lv_isub hx hb dX10_readSaid_172 (lv_topi (fun v_42 e_v_42 => ?_))
                      obtain ⟨t_v_42, r_v_42⟩ := tq_sub (lo := 0) (hi := 0) r_v_30 rl_1 (by decide +kernel) e_v_42
                      have t_v_42 : v_42.toInt = v_30.toInt - 1 := t_v_42
                      have q_v_42 : v_30 - (1 : Int32) = v_42 := e_v_42.symm
                      refine tg_put (ci := 10) (ts := ty_MODEL) (v := .int v_42) (ty := .int) (C := RX10) (T := TX10) (N := 49) hx hb hts inX10 tyX10 tyX10_ok nmX10 hown hK hw h_p0 rfl rfl 47 (by decide) (hts _ tw_1184) (fun _ h9 => h9) rfl (by decide +kernel) rfl rfl (ft := vI (-2147483648) 2147483647) rfl ⟨_, rfl, (r_v_42.to (by decide))⟩ (by decide) dX10_readSaid_173 (fun ws H locs hw n_k_43 hF9 => ?_)
                      have n_k_28 := FLD.over hF9 n_k_28 (by decide)
                      have m_v_40 := FLD.over hF9 m_v_40 (by decide)
                      have m_v_41 := FLD.over hF9 m_v_41 (by decide)
                      have x_SNT_p0_gd_1_gh_1_gg := SNT.over hF9 x_SNT_p0_gd_1_gh_1_gg (by decide)
                      obtain ⟨sg_44, q_sg_44⟩ : ∃ q9 : OS, sI sg_36 47 v_42 = q9 := ⟨_, rfl⟩
                      have o_p0 : OV vw_M2 Ps ws p0 sg_44 := by rw [← q_sg_44]; exact OV.putI (V := vw_M2) hF9 n_k_43 o_p0 (by decide)
                      refine lv_iload_n hx hb dX10_readSaid_176 rfl (lv_at hl 0 rfl) ?_
                      simp only [f_X10_readSaid__9_30, ↓reduceIte, q_z0_47, eq_true c_31, eq_true c_37, q_vu_24, eq_false c_52, eq_false c_61, q_v_27, q_sg_29, q_v_30, q_sg_32, q_sg_34, eq_true c_97, eq_false c_111, eq_true c_125, eq_true c_149, q_sg_36, q_v_35, eq_false c9_v_35, q_v_42, q_sg_44] at hE
                      subst hQ
                      exact W.zret (v := v_35) hx hb hr (tq_nz (r_v_35.to (by decide))) (fun t ht hW => ⟨⟨v_35, ws, rfl, ⟨⟨⟨(by rw [hR, ← hE]; exact o_p0), (by rw [hR, ← hE]), trivial⟩, r_v_35.to (by decide), (fun h0 => absurd (ti_eq h0) (by have h8 := r_v_35; unfold RI at h8; rw [Int32.toInt_zero]; omega)), (fun h0 => ⟨⟨_, n_k_28, r_v_27⟩, ⟨_, m_v_41, r_v_41⟩, ⟨_, n_k_43, r_v_42⟩, x_SNT_p0_gd_1_gh_1_gg, trivial⟩)⟩, hw.1, hw.2.2.2.2.1⟩, by rw [ht]; exact hw.2.1, va_K.moved hW.alike hK, hw.2.2.1⟩, hw.2.2.2.1.F ht⟩) hw.2.2.2.1.2.2 dX10_readSaid_177
                  · have r_x2 : RI x2 22 23 := rc_lt1 r_x2 rl_24 (ti_nle c_149) (by decide)
                    refine lv_aload_n hx hb dX10_readSaid_152 rfl (lv_at hl 1 rfl) ?_
                    refine lv_iload_n hx hb dX10_readSaid_153 rfl (lv_at hl 3 rfl) ?_
                    refine tk_i (va_runV (As := [.int x2]) (rest := []) ⟨hx, hb, hml, hown, hts⟩ (c_X10_readOf__1 l D cy z H.size Ps ws hw.1 p0 x2 (gd+1) (gh+1) (gg) sg_34 h_p0 r_x2 x_SNI_p0_gd_1_gh_1_gg o_p0) (cwV 1 hts (gV tw_1775 tw_1777 ts_117 tw_15 tw_1778) rfl rfl rfl (by decide +kernel) ⟨Nat.le_of_ble_eq_true rfl, Nat.le_of_ble_eq_true rfl⟩) (tg_preV hw hK hSD hA (ci := 10) (q := (RX10, TX10, 49)) rfl h_p0 rfl) rfl rfl hl.1 rfl (lv_room (Nat.le_of_ble_eq_true rfl)) dX10_readSaid_154 ⟨Nat.le_of_ble_eq_true rfl, Nat.le_of_ble_eq_true rfl⟩) hw hA ⟨by decide, by decide⟩ (fun v_45 ws H locs hp_v_45 hw hF9 => ?_)
                    have n_k_28 := FLD.over hF9 n_k_28 (by decide)
                    have n_k_31 := FLD.over hF9 n_k_31 (by decide)
                    obtain ⟨hfn, hp_v_45⟩ := hp_v_45
                    obtain ⟨sg_46, q_sg_46⟩ : ∃ q9 : OS, (f_X10_readOf__1 x2 sg_34).1 = q9 := ⟨_, rfl⟩
                    have o_p0 : OV vw_M2 Ps ws p0 sg_46 := by rw [← q_sg_46]; exact hfn.1
                    have q_v_45 : (f_X10_readOf__1 x2 sg_34).2 = v_45 := hfn.2.1
                    have r_v_45 : RI v_45 0 1 := hp_v_45.1
                    by_cases c9_v_45 : v_45 = 0
                    · have r_v_45 : RI v_45 0 0 := by rw [c9_v_45]; exact rl_0
                      refine lv_goto (tgt := 165) hx hb dX10_readSaid_157 (by decide) ?_
                      refine lv_istore_n (lv' := [(3, .int v_45), (0, .ref p0), (1, .int x1), (2, .int x2)]) hx hb dX10_readSaid_165 rfl hl (by decide) rfl (fun ls hl => ?_)
                      refine lv_aload_n hx hb dX10_readSaid_166 rfl (lv_at hl 1 rfl) ?_
                      refine lv_dup hx hb dX10_readSaid_167 rfl ?_
                      refine tg_mem (ci := 10) (C := RX10) (T := TX10) (N := 49) hx hb hts inX10 hown hK hw 47 n_k_31 rfl (by decide) (hts _ tw_1184) (fun _ h9 => h9) dX10_readSaid_168 ?_
                      refine lv_iconst (v := 1) hx hb dX10_readSaid_171 (by decide) ?_
                      refine lv_isub hx hb dX10_readSaid_172 (lv_topi (fun v_47 e_v_47 => ?_))
                      obtain ⟨t_v_47, r_v_47⟩ := tq_sub (lo := 0) (hi := 0) r_v_30 rl_1 (by decide +kernel) e_v_47
                      have t_v_47 : v_47.toInt = v_30.toInt - 1 := t_v_47
                      have q_v_47 : v_30 - (1 : Int32) = v_47 := e_v_47.symm
                      refine tg_put (ci := 10) (ts := ty_MODEL) (v := .int v_47) (ty := .int) (C := RX10) (T := TX10) (N := 49) hx hb hts inX10 tyX10 tyX10_ok nmX10 hown hK hw h_p0 rfl rfl 47 (by decide) (hts _ tw_1184) (fun _ h9 => h9) rfl (by decide +kernel) rfl rfl (ft := vI (-2147483648) 2147483647) rfl ⟨_, rfl, (r_v_47.to (by decide))⟩ (by decide) dX10_readSaid_173 (fun ws H locs hw n_k_48 hF9 => ?_)
                      have n_k_28 := FLD.over hF9 n_k_28 (by decide)
                      obtain ⟨sg_49, q_sg_49⟩ : ∃ q9 : OS, sI sg_46 47 v_47 = q9 := ⟨_, rfl⟩
                      have o_p0 : OV vw_M2 Ps ws p0 sg_49 := by rw [← q_sg_49]; exact OV.putI (V := vw_M2) hF9 n_k_48 o_p0 (by decide)
                      refine lv_iload_n hx hb dX10_readSaid_176 rfl (lv_at hl 0 rfl) ?_
                      simp only [f_X10_readSaid__9_30, ↓reduceIte, q_z0_47, eq_true c_31, eq_true c_37, q_vu_24, eq_false c_52, eq_false c_61, q_v_27, q_sg_29, q_v_30, q_sg_32, q_sg_34, eq_true c_97, eq_false c_111, eq_true c_125, eq_false c_149, q_sg_46, q_v_45, eq_true c9_v_45, q_v_47, q_sg_49] at hE
                      subst hQ
                      exact W.zret (v := v_45) hx hb hr (tq_nz (r_v_45.to (by decide))) (fun t ht hW => ⟨⟨v_45, ws, rfl, ⟨⟨⟨(by rw [hR, ← hE]; exact o_p0), (by rw [hR, ← hE]), trivial⟩, r_v_45.to (by decide), (fun h0 => ⟨⟨_, n_k_48, r_v_47⟩, trivial⟩), (fun h0 => absurd (Int32.toInt_inj.mp (by have h8 := r_v_45; unfold RI at h8; rw [Int32.toInt_zero]; omega)) h0)⟩, hw.1, hw.2.2.2.2.1⟩, by rw [ht]; exact hw.2.1, va_K.moved hW.alike hK, hw.2.2.1⟩, hw.2.2.2.1.F ht⟩) hw.2.2.2.1.2.2 dX10_readSaid_177
                    · have r_v_45 : RI v_45 1 1 := rc_neL r_v_45 rl_0 (ti_ne c9_v_45) (by decide)
                      obtain ⟨v_50, m_v_50, r_v_50⟩ := ((hp_v_45.2.2 c9_v_45).1)
                      obtain ⟨v_51, m_v_51, r_v_51⟩ := ((hp_v_45.2.2 c9_v_45).2.1)
                      have x_SNT_p0_gd_1_gh_1_gg := ((hp_v_45.2.2 c9_v_45).2.2.1)
                      refine lv_goto (tgt := 165) hx hb dX10_readSaid_157 (by decide) ?_
                      refine lv_istore_n (lv' := [(3, .int v_45), (0, .ref p0), (1, .int x1), (2, .int x2)]) hx hb dX10_readSaid_165 rfl hl (by decide) rfl (fun ls hl => ?_)
                      refine lv_aload_n hx hb dX10_readSaid_166 rfl (lv_at hl 1 rfl) ?_
                      refine lv_dup hx hb dX10_readSaid_167 rfl ?_
                      refine tg_mem (ci := 10) (C := RX10) (T := TX10) (N := 49) hx hb hts inX10 hown hK hw 47 n_k_31 rfl (by decide) (hts _ tw_1184) (fun _ h9 => h9) dX10_readSaid_168 ?_
                      refine lv_iconst (v := 1) hx hb dX10_readSaid_171 (by decide) ?_
                      refine lv_isub hx hb dX10_readSaid_172 (lv_topi (fun v_52 e_v_52 => ?_))
                      obtain ⟨t_v_52, r_v_52⟩ := tq_sub (lo := 0) (hi := 0) r_v_30 rl_1 (by decide +kernel) e_v_52
                      have t_v_52 : v_52.toInt = v_30.toInt - 1 := t_v_52
                      have q_v_52 : v_30 - (1 : Int32) = v_52 := e_v_52.symm
                      refine tg_put (ci := 10) (ts := ty_MODEL) (v := .int v_52) (ty := .int) (C := RX10) (T := TX10) (N := 49) hx hb hts inX10 tyX10 tyX10_ok nmX10 hown hK hw h_p0 rfl rfl 47 (by decide) (hts _ tw_1184) (fun _ h9 => h9) rfl (by decide +kernel) rfl rfl (ft := vI (-2147483648) 2147483647) rfl ⟨_, rfl, (r_v_52.to (by decide))⟩ (by decide) dX10_readSaid_173 (fun ws H locs hw n_k_53 hF9 => ?_)
                      have n_k_28 := FLD.over hF9 n_k_28 (by decide)
                      have m_v_50 := FLD.over hF9 m_v_50 (by decide)
                      have m_v_51 := FLD.over hF9 m_v_51 (by decide)
                      have x_SNT_p0_gd_1_gh_1_gg := SNT.over hF9 x_SNT_p0_gd_1_gh_1_gg (by decide)
                      obtain ⟨sg_54, q_sg_54⟩ : ∃ q9 : OS, sI sg_46 47 v_52 = q9 := ⟨_, rfl⟩
                      have o_p0 : OV vw_M2 Ps ws p0 sg_54 := by rw [← q_sg_54]; exact OV.putI (V := vw_M2) hF9 n_k_53 o_p0 (by decide)
                      refine lv_iload_n hx hb dX10_readSaid_176 rfl (lv_at hl 0 rfl) ?_
                      simp only [f_X10_readSaid__9_30, ↓reduceIte, q_z0_47, eq_true c_31, eq_true c_37, q_vu_24, eq_false c_52, eq_false c_61, q_v_27, q_sg_29, q_v_30, q_sg_32, q_sg_34, eq_true c_97, eq_false c_111, eq_true c_125, eq_false c_149, q_sg_46, q_v_45, eq_false c9_v_45, q_v_52, q_sg_54] at hE
                      subst hQ
                      exact W.zret (v := v_45) hx hb hr (tq_nz (r_v_45.to (by decide))) (fun t ht hW => ⟨⟨v_45, ws, rfl, ⟨⟨⟨(by rw [hR, ← hE]; exact o_p0), (by rw [hR, ← hE]), trivial⟩, r_v_45.to (by decide), (fun h0 => absurd (ti_eq h0) (by have h8 := r_v_45; unfold RI at h8; rw [Int32.toInt_zero]; omega)), (fun h0 => ⟨⟨_, n_k_28, r_v_27⟩, ⟨_, m_v_51, r_v_51⟩, ⟨_, n_k_53, r_v_52⟩, x_SNT_p0_gd_1_gh_1_gg, trivial⟩)⟩, hw.1, hw.2.2.2.2.1⟩, by rw [ht]; exact hw.2.1, va_K.moved hW.alike hK, hw.2.2.1⟩, hw.2.2.2.1.F ht⟩) hw.2.2.2.1.2.2 dX10_readSaid_177
                · have r_x2 : RI x2 19 21 := rc_lt1 r_x2 rl_22 (ti_nle c_125) (by decide)
                  refine lv_aload_n hx hb dX10_readSaid_128 rfl (lv_at hl 1 rfl) ?_
                  refine lv_aload_n hx hb dX10_readSaid_129 rfl (lv_at hl 1 rfl) ?_
                  refine lv_bipush (v := 50) hx hb dX10_readSaid_130 (by decide) ?_
                  refine lv_iload_n hx hb dX10_readSaid_132 rfl (lv_at hl 3 rfl) ?_
                  refine lv_iadd hx hb dX10_readSaid_133 (lv_topi (fun v_55 e_v_55 => ?_))
                  obtain ⟨t_v_55, r_v_55⟩ := tq_add (lo := 69) (hi := 71) rl_50 r_x2 (by decide +kernel) e_v_55
                  have t_v_55 : v_55.toInt = 50 + x2.toInt := t_v_55
                  have q_v_55 : (50 : Int32) + x2 = v_55 := e_v_55.symm
                  refine lv_iconst (v := 0) hx hb dX10_readSaid_134 (by decide) ?_
                  refine lv_iconst (v := 0) hx hb dX10_readSaid_135 (by decide) ?_
                  refine lv_iconst (v := 0) hx hb dX10_readSaid_136 (by decide) ?_
                  refine tk_i (va_runV (As := [.int v_55, .int 0, .int 0, .int 0]) (rest := [.ref p0]) ⟨hx, hb, hml, hown, hts⟩ (c_X10_saysOne__3 l D cy z H.size Ps ws hw.1 p0 v_55 0 0 0 (gd+1) (gh+1) (gg) sg_34 h_p0 (r_v_55.to (by decide)) (rl_0.to (by decide)) (rl_0.to (by decide)) (rl_0.to (by decide)) x_SNI_p0_gd_1_gh_1_gg o_p0) (cwV 4 hts (gV tw_1771 tw_1773 ts_116 tw_15 tw_1774) rfl rfl rfl (by decide +kernel) ⟨Nat.le_of_ble_eq_true rfl, Nat.le_of_ble_eq_true rfl⟩) (tg_preV hw hK hSD hA (ci := 10) (q := (RX10, TX10, 49)) rfl h_p0 rfl) rfl rfl hl.1 rfl (lv_room (Nat.le_of_ble_eq_true rfl)) dX10_readSaid_137 ⟨Nat.le_of_ble_eq_true rfl, Nat.le_of_ble_eq_true rfl⟩) hw hA ⟨by decide, by decide⟩ (fun v_56 ws H locs hp_v_56 hw hF9 => ?_)
                  have n_k_28 := FLD.over hF9 n_k_28 (by decide)
                  have n_k_31 := FLD.over hF9 n_k_31 (by decide)
                  obtain ⟨hfn, hp_v_56⟩ := hp_v_56
                  obtain ⟨sg_57, q_sg_57⟩ : ∃ q9 : OS, (f_X10_saysOne__3 v_55 (0 : Int32) (0 : Int32) (0 : Int32) sg_34).1 = q9 := ⟨_, rfl⟩
                  have o_p0 : OV vw_M2 Ps ws p0 sg_57 := by rw [← q_sg_57]; exact hfn.1
                  have q_v_56 : (f_X10_saysOne__3 v_55 (0 : Int32) (0 : Int32) (0 : Int32) sg_34).2 = v_56 := hfn.2.1
                  have r_v_56 : RI v_56 0 39 := hp_v_56.1
                  have x_SNL_p0_gd_1_gh_1_gg_v_56 := hp_v_56.2.2.2.1.1
                  refine tg_put (ci := 10) (ts := ty_MODEL) (v := .int v_56) (ty := .int) (C := RX10) (T := TX10) (N := 49) hx hb hts inX10 tyX10 tyX10_ok nmX10 hown hK hw h_p0 rfl rfl 48 (by decide) (hts _ tw_1185) (fun _ h9 => h9) rfl (by decide +kernel) rfl rfl (ft := vI (-2147483648) 2147483647) rfl ⟨_, rfl, (r_v_56.to (by decide))⟩ (by decide) dX10_readSaid_140 (fun ws H locs hw n_k_58 hF9 => ?_)
                  have n_k_28 := FLD.over hF9 n_k_28 (by decide)
                  have n_k_31 := FLD.over hF9 n_k_31 (by decide)
                  have x_SNL_p0_gd_1_gh_1_gg_v_56 := SNL.over hF9 x_SNL_p0_gd_1_gh_1_gg_v_56 (by decide)
                  obtain ⟨sg_59, q_sg_59⟩ : ∃ q9 : OS, sI sg_57 48 v_56 = q9 := ⟨_, rfl⟩
                  have o_p0 : OV vw_M2 Ps ws p0 sg_59 := by rw [← q_sg_59]; exact OV.putI (V := vw_M2) hF9 n_k_58 o_p0 (by decide)
                  have x_SNT_p0_gd_1_gh_1_gg : SNT ws p0 (gd+1) (gh+1) (gg) := (x_SNL_p0_gd_1_gh_1_gg_v_56.weak (d' := gd+1) (h' := gh+1) (g' := gg) (by have k1 := x_SNL_p0_gd_1_gh_1_gg_v_56.le; have d_8 := SNp.le x_SN_p0_gd_gh_gg; omega)).snt n_k_58
                  refine lv_goto (tgt := 166) hx hb dX10_readSaid_143 (by decide) ?_
                  refine lv_aload_n hx hb dX10_readSaid_166 rfl (lv_at hl 1 rfl) ?_
                  refine lv_dup hx hb dX10_readSaid_167 rfl ?_
                  refine tg_mem (ci := 10) (C := RX10) (T := TX10) (N := 49) hx hb hts inX10 hown hK hw 47 n_k_31 rfl (by decide) (hts _ tw_1184) (fun _ h9 => h9) dX10_readSaid_168 ?_
                  refine lv_iconst (v := 1) hx hb dX10_readSaid_171 (by decide) ?_
                  refine lv_isub hx hb dX10_readSaid_172 (lv_topi (fun v_60 e_v_60 => ?_))
                  obtain ⟨t_v_60, r_v_60⟩ := tq_sub (lo := 0) (hi := 0) r_v_30 rl_1 (by decide +kernel) e_v_60
                  have t_v_60 : v_60.toInt = v_30.toInt - 1 := t_v_60
                  have q_v_60 : v_30 - (1 : Int32) = v_60 := e_v_60.symm
                  refine tg_put (ci := 10) (ts := ty_MODEL) (v := .int v_60) (ty := .int) (C := RX10) (T := TX10) (N := 49) hx hb hts inX10 tyX10 tyX10_ok nmX10 hown hK hw h_p0 rfl rfl 47 (by decide) (hts _ tw_1184) (fun _ h9 => h9) rfl (by decide +kernel) rfl rfl (ft := vI (-2147483648) 2147483647) rfl ⟨_, rfl, (r_v_60.to (by decide))⟩ (by decide) dX10_readSaid_173 (fun ws H locs hw n_k_61 hF9 => ?_)
                  have n_k_28 := FLD.over hF9 n_k_28 (by decide)
                  have n_k_58 := FLD.over hF9 n_k_58 (by decide)
                  have x_SNL_p0_gd_1_gh_1_gg_v_56 := SNL.over hF9 x_SNL_p0_gd_1_gh_1_gg_v_56 (by decide)
                  have x_SNT_p0_gd_1_gh_1_gg := SNT.over hF9 x_SNT_p0_gd_1_gh_1_gg (by decide)
                  obtain ⟨sg_62, q_sg_62⟩ : ∃ q9 : OS, sI sg_59 47 v_60 = q9 := ⟨_, rfl⟩
                  have o_p0 : OV vw_M2 Ps ws p0 sg_62 := by rw [← q_sg_62]; exact OV.putI (V := vw_M2) hF9 n_k_61 o_p0 (by decide)
                  refine lv_iload_n hx hb dX10_readSaid_176 rfl (lv_at hl 0 rfl) ?_
                  simp only [f_X10_readSaid__9_30, ↓reduceIte, q_z0_47, eq_true c_31, eq_true c_37, q_vu_24, eq_false c_52, eq_false c_61, q_v_27, q_sg_29, q_v_30, q_sg_32, q_sg_34, eq_true c_97, eq_false c_111, eq_false c_125, q_v_55, q_sg_57, q_v_56, q_sg_59, q_v_60, q_sg_62] at hE
                  subst hQ
                  exact W.zret (v := 1) hx hb hr (rfl) (fun t ht hW => ⟨⟨1, ws, rfl, ⟨⟨⟨(by rw [hR, ← hE]; exact o_p0), (by rw [hR, ← hE]), trivial⟩, rl_1.to (by decide), (fun h0 => absurd h0 (by decide)), (fun h0 => ⟨⟨_, n_k_28, r_v_27⟩, ⟨_, n_k_58, r_v_56⟩, ⟨_, n_k_61, r_v_60⟩, x_SNT_p0_gd_1_gh_1_gg, trivial⟩)⟩, hw.1, hw.2.2.2.2.1⟩, by rw [ht]; exact hw.2.1, va_K.moved hW.alike hK, hw.2.2.1⟩, hw.2.2.2.1.F ht⟩) hw.2.2.2.1.2.2 dX10_readSaid_177
              · have r_x2 : RI x2 18 18 := rc_eq1 r_x2 rl_18 (ti_eq c_111) (by decide)
                refine lv_aload_n hx hb dX10_readSaid_114 rfl (lv_at hl 1 rfl) ?_
                refine tk_i (va_runV (As := []) (rest := []) ⟨hx, hb, hml, hown, hts⟩ (c_X10_readNot__15 l D cy z H.size Ps ws hw.1 p0 v_30 (gd+1) (gh+1) (gg) sg_34 h_p0 r_v_30 n_k_31 x_SNI_p0_gd_1_gh_1_gg o_p0) (cwV 0 hts (gV tw_1767 tw_1769 ts_115 tw_15 tw_1770) rfl rfl rfl (by decide +kernel) ⟨Nat.le_of_ble_eq_true rfl, Nat.le_of_ble_eq_true rfl⟩) (tg_preV hw hK hSD hA (ci := 10) (q := (RX10, TX10, 49)) rfl h_p0 rfl) rfl rfl hl.1 rfl (lv_room (Nat.le_of_ble_eq_true rfl)) dX10_readSaid_115 ⟨Nat.le_of_ble_eq_true rfl, Nat.le_of_ble_eq_true rfl⟩) hw hA ⟨by decide, by decide⟩ (fun v_63 ws H locs hp_v_63 hw hF9 => ?_)
                obtain ⟨hfn, hp_v_63⟩ := hp_v_63
                obtain ⟨sg_64, q_sg_64⟩ : ∃ q9 : OS, (f_X10_readNot__15 sg_34).1 = q9 := ⟨_, rfl⟩
                have o_p0 : OV vw_M2 Ps ws p0 sg_64 := by rw [← q_sg_64]; exact hfn.1
                have q_v_63 : (f_X10_readNot__15 sg_34).2 = v_63 := hfn.2.1
                have r_v_63 : RI v_63 0 1 := hp_v_63.1
                by_cases c9_v_63 : v_63 = 0
                · have r_v_63 : RI v_63 0 0 := by rw [c9_v_63]; exact rl_0
                  obtain ⟨v_65, m_v_65, r_v_65⟩ := ((hp_v_63.2.1 c9_v_63).1)
                  refine lv_istore_n (lv' := [(3, .int v_63), (0, .ref p0), (1, .int x1), (2, .int x2)]) hx hb dX10_readSaid_118 rfl hl (by decide) rfl (fun ls hl => ?_)
                  refine lv_goto (tgt := 166) hx hb dX10_readSaid_119 (by decide) ?_
                  refine lv_aload_n hx hb dX10_readSaid_166 rfl (lv_at hl 1 rfl) ?_
                  refine lv_dup hx hb dX10_readSaid_167 rfl ?_
                  refine tg_mem (ci := 10) (C := RX10) (T := TX10) (N := 49) hx hb hts inX10 hown hK hw 47 m_v_65 rfl (by decide) (hts _ tw_1184) (fun _ h9 => h9) dX10_readSaid_168 ?_
                  have q_v_65 : sg_64.1 47 = v_65 := OV.eqI (V := vw_M2) hw.2.2.1 o_p0 m_v_65 (by decide)
                  refine lv_iconst (v := 1) hx hb dX10_readSaid_171 (by decide) ?_
                  refine lv_isub hx hb dX10_readSaid_172 (lv_topi (fun v_66 e_v_66 => ?_))
                  obtain ⟨t_v_66, r_v_66⟩ := tq_sub (lo := 0) (hi := 0) r_v_65 rl_1 (by decide +kernel) e_v_66
                  have t_v_66 : v_66.toInt = v_65.toInt - 1 := t_v_66
                  have q_v_66 : v_65 - (1 : Int32) = v_66 := e_v_66.symm
                  refine tg_put (ci := 10) (ts := ty_MODEL) (v := .int v_66) (ty := .int) (C := RX10) (T := TX10) (N := 49) hx hb hts inX10 tyX10 tyX10_ok nmX10 hown hK hw h_p0 rfl rfl 47 (by decide) (hts _ tw_1184) (fun _ h9 => h9) rfl (by decide +kernel) rfl rfl (ft := vI (-2147483648) 2147483647) rfl ⟨_, rfl, (r_v_66.to (by decide))⟩ (by decide) dX10_readSaid_173 (fun ws H locs hw n_k_67 hF9 => ?_)
                  obtain ⟨sg_68, q_sg_68⟩ : ∃ q9 : OS, sI sg_64 47 v_66 = q9 := ⟨_, rfl⟩
                  have o_p0 : OV vw_M2 Ps ws p0 sg_68 := by rw [← q_sg_68]; exact OV.putI (V := vw_M2) hF9 n_k_67 o_p0 (by decide)
                  refine lv_iload_n hx hb dX10_readSaid_176 rfl (lv_at hl 0 rfl) ?_
                  simp only [f_X10_readSaid__9_30, ↓reduceIte, q_z0_47, eq_true c_31, eq_true c_37, q_vu_24, eq_false c_52, eq_false c_61, q_v_27, q_sg_29, q_v_30, q_sg_32, q_sg_34, eq_true c_97, eq_true c_111, q_sg_64, q_v_63, eq_true c9_v_63, q_v_65, q_v_66, q_sg_68] at hE
                  subst hQ
                  exact W.zret (v := v_63) hx hb hr (tq_nz (r_v_63.to (by decide))) (fun t ht hW => ⟨⟨v_63, ws, rfl, ⟨⟨⟨(by rw [hR, ← hE]; exact o_p0), (by rw [hR, ← hE]), trivial⟩, r_v_63.to (by decide), (fun h0 => ⟨⟨_, n_k_67, r_v_66⟩, trivial⟩), (fun h0 => absurd (Int32.toInt_inj.mp (by have h8 := r_v_63; unfold RI at h8; rw [Int32.toInt_zero]; omega)) h0)⟩, hw.1, hw.2.2.2.2.1⟩, by rw [ht]; exact hw.2.1, va_K.moved hW.alike hK, hw.2.2.1⟩, hw.2.2.2.1.F ht⟩) hw.2.2.2.1.2.2 dX10_readSaid_177
                · have r_v_63 : RI v_63 1 1 := rc_neL r_v_63 rl_0 (ti_ne c9_v_63) (by decide)
                  obtain ⟨v_69, m_v_69, r_v_69⟩ := ((hp_v_63.2.2 c9_v_63).1)
                  obtain ⟨v_70, m_v_70, r_v_70⟩ := ((hp_v_63.2.2 c9_v_63).2.1)
                  obtain ⟨v_71, m_v_71, r_v_71⟩ := ((hp_v_63.2.2 c9_v_63).2.2.1)
                  have x_SNT_p0_gd_1_gh_1_gg := ((hp_v_63.2.2 c9_v_63).2.2.2.1)
                  refine lv_istore_n (lv' := [(3, .int v_63), (0, .ref p0), (1, .int x1), (2, .int x2)]) hx hb dX10_readSaid_118 rfl hl (by decide) rfl (fun ls hl => ?_)
                  refine lv_goto (tgt := 166) hx hb dX10_readSaid_119 (by decide) ?_
                  refine lv_aload_n hx hb dX10_readSaid_166 rfl (lv_at hl 1 rfl) ?_
                  refine lv_dup hx hb dX10_readSaid_167 rfl ?_
                  refine tg_mem (ci := 10) (C := RX10) (T := TX10) (N := 49) hx hb hts inX10 hown hK hw 47 m_v_70 rfl (by decide) (hts _ tw_1184) (fun _ h9 => h9) dX10_readSaid_168 ?_
                  have q_v_70 : sg_64.1 47 = v_70 := OV.eqI (V := vw_M2) hw.2.2.1 o_p0 m_v_70 (by decide)
                  refine lv_iconst (v := 1) hx hb dX10_readSaid_171 (by decide) ?_
                  refine lv_isub hx hb dX10_readSaid_172 (lv_topi (fun v_72 e_v_72 => ?_))
                  obtain ⟨t_v_72, r_v_72⟩ := tq_sub (lo := 0) (hi := 0) r_v_70 rl_1 (by decide +kernel) e_v_72
                  have t_v_72 : v_72.toInt = v_70.toInt - 1 := t_v_72
                  have q_v_72 : v_70 - (1 : Int32) = v_72 := e_v_72.symm
                  refine tg_put (ci := 10) (ts := ty_MODEL) (v := .int v_72) (ty := .int) (C := RX10) (T := TX10) (N := 49) hx hb hts inX10 tyX10 tyX10_ok nmX10 hown hK hw h_p0 rfl rfl 47 (by decide) (hts _ tw_1184) (fun _ h9 => h9) rfl (by decide +kernel) rfl rfl (ft := vI (-2147483648) 2147483647) rfl ⟨_, rfl, (r_v_72.to (by decide))⟩ (by decide) dX10_readSaid_173 (fun ws H locs hw n_k_73 hF9 => ?_)
                  have m_v_69 := FLD.over hF9 m_v_69 (by decide)
                  have m_v_71 := FLD.over hF9 m_v_71 (by decide)
                  have x_SNT_p0_gd_1_gh_1_gg := SNT.over hF9 x_SNT_p0_gd_1_gh_1_gg (by decide)
                  obtain ⟨sg_74, q_sg_74⟩ : ∃ q9 : OS, sI sg_64 47 v_72 = q9 := ⟨_, rfl⟩
                  have o_p0 : OV vw_M2 Ps ws p0 sg_74 := by rw [← q_sg_74]; exact OV.putI (V := vw_M2) hF9 n_k_73 o_p0 (by decide)
                  refine lv_iload_n hx hb dX10_readSaid_176 rfl (lv_at hl 0 rfl) ?_
                  simp only [f_X10_readSaid__9_30, ↓reduceIte, q_z0_47, eq_true c_31, eq_true c_37, q_vu_24, eq_false c_52, eq_false c_61, q_v_27, q_sg_29, q_v_30, q_sg_32, q_sg_34, eq_true c_97, eq_true c_111, q_sg_64, q_v_63, eq_false c9_v_63, q_v_70, q_v_72, q_sg_74] at hE
                  subst hQ
                  exact W.zret (v := v_63) hx hb hr (tq_nz (r_v_63.to (by decide))) (fun t ht hW => ⟨⟨v_63, ws, rfl, ⟨⟨⟨(by rw [hR, ← hE]; exact o_p0), (by rw [hR, ← hE]), trivial⟩, r_v_63.to (by decide), (fun h0 => absurd (ti_eq h0) (by have h8 := r_v_63; unfold RI at h8; rw [Int32.toInt_zero]; omega)), (fun h0 => ⟨⟨_, m_v_69, r_v_69⟩, ⟨_, m_v_71, r_v_71⟩, ⟨_, n_k_73, r_v_72⟩, x_SNT_p0_gd_1_gh_1_gg, trivial⟩)⟩, hw.1, hw.2.2.2.2.1⟩, by rw [ht]; exact hw.2.1, va_K.moved hW.alike hK, hw.2.2.1⟩, hw.2.2.2.1.F ht⟩) hw.2.2.2.1.2.2 dX10_readSaid_177
            · exact absurd (r_x1.eq.trans rl_0.eq.symm) ((ti_ne c_97))
          · have r_z0_47 : RI z0_47 8 0 := rc_eq1 r_z0_47 rl_8 (ti_eq c_61) (by decide)
            exact (r_z0_47.no (by decide)).elim
      · have r_x2 : RI x2 28 28 := rc_lt2 rl_27 r_x2 (ti_nle c_37) (by decide)
        refine lv_aload_n hx hb dX10_readSaid_40 rfl (lv_at hl 0 rfl) ?_
        refine lv_iconst (v := 1) hx hb dX10_readSaid_41 (by decide) ?_
        refine tk_i (va_runV (As := [.int 1]) (rest := []) ⟨hx, hb, hml, hown, hts⟩ (c_X10_bad__2 l D cy z H.size Ps ws hw.1 p0 1 s0 h_p0 (rl_1.to (by decide)) o_p0) (cwV 1 hts (gV tw_1336 tw_1338 ts_46 tw_15 tw_1339) rfl rfl rfl (by decide +kernel) ⟨Nat.le_of_ble_eq_true rfl, Nat.le_of_ble_eq_true rfl⟩) (tg_preV hw hK hSD hA (ci := 10) (q := (RX10, TX10, 49)) rfl h_p0 rfl) rfl rfl hl.1 rfl (lv_room (Nat.le_of_ble_eq_true rfl)) dX10_readSaid_42 ⟨Nat.le_of_ble_eq_true rfl, Nat.le_of_ble_eq_true rfl⟩) hw hA ⟨by decide, by decide⟩ (fun v_75 ws H locs hp_v_75 hw hF9 => ?_)
        have m_z0_47 := FLD.over hF9 m_z0_47 (by decide)
        have x_SN_p0_gd_gh_gg := SNp.over hF9 x_SN_p0_gd_gh_gg (by decide)
        obtain ⟨hfn, hp_v_75⟩ := hp_v_75
        obtain ⟨sg_76, q_sg_76⟩ : ∃ q9 : OS, (f_X10_bad__1 (1 : Int32) s0).1 = q9 := ⟨_, rfl⟩
        have o_p0 : OV vw_M2 Ps ws p0 sg_76 := by rw [← q_sg_76]; exact hfn.1
        have q_v_75 : (f_X10_bad__1 (1 : Int32) s0).2 = v_75 := hfn.2.1
        have r_v_75 : RI v_75 0 0 := hp_v_75.1
        simp only [f_X10_readSaid__9_30, ↓reduceIte, q_z0_47, eq_true c_31, eq_false c_37, q_sg_76, q_v_75] at hE
        subst hQ
        exact W.zret (v := v_75) hx hb hr (tq_nz (r_v_75.to (by decide))) (fun t ht hW => ⟨⟨v_75, ws, rfl, ⟨⟨⟨(by rw [hR, ← hE]; exact o_p0), (by rw [hR, ← hE]), trivial⟩, r_v_75.to (by decide), (fun h0 => ⟨⟨_, m_z0_47, r_z0_47⟩, trivial⟩), (fun h0 => absurd (Int32.toInt_inj.mp (by have h8 := r_v_75; unfold RI at h8; rw [Int32.toInt_zero]; omega)) h0)⟩, hw.1, hw.2.2.2.2.1⟩, by rw [ht]; exact hw.2.1, va_K.moved hW.alike hK, hw.2.2.1⟩, hw.2.2.2.1.F ht⟩) hw.2.2.2.1.2.2 dX10_readSaid_45
  have B10 : ∀ (nf : Nat) (x1 : Int32) (x2 : Int32) (z0_47 : Int32) (s0 : OS) (ws : va_W) (H : Heap) (locs : List Loc) (ls : Array Slot), 28 - x2.toInt < (nf : Int) → RI x1 0 1 → RI x2 18 28 → RI z0_47 0 0 → FLD ws p0 10 47 (.int z0_47) → SNp ws p0 (gd) (gh) (gg) → OV vw_M2 Ps ws p0 s0 → f_X10_readSaid__9_10 nf x1 x2 s0 = R9 → WD D cy GG A s wr_X10_readSaid__9 wa_X10_readSaid__9 Ps w0 Ps ws H locs → lv_has ls 4 [(0, .ref p0), (1, .int x1), (2, .int x2)] → W p l e (headSpec (Cond.code yX10_readSaid cX10_readSaid 4 (some .boolean) :: gT) ({ frames := 36, cells := 0, slots := 0, locals := 7200 } : Room)).room s m ([.ref p0] : List Value).toArray below meth c H locs 0 0 Q (F0 m 10 ls []) := by
    intro nf10
    induction nf10 with
    | zero =>
      intro x1 x2 z0_47 s0 ws H locs ls hn10 r_x1 r_x2 r_z0_47 m_z0_47 x_SN_p0_gd_gh_gg o_p0 hE hw hl
      exact absurd hn10 (by have q0 := r_x2.1; have u0 := r_x2.2; omega)
    | succ nf10 ih10 =>
      intro x1 x2 z0_47 s0 ws H locs ls hn10 r_x1 r_x2 r_z0_47 m_z0_47 x_SN_p0_gd_gh_gg o_p0 hE hw hl
      have q_z0_47 : s0.1 47 = z0_47 := OV.eqI (V := vw_M2) hw.2.2.1 o_p0 m_z0_47 (by decide)
      refine lv_iload_n hx hb dX10_readSaid_10 rfl (lv_at hl 2 rfl) ?_
      refine lv_bipush (v := 27) hx hb dX10_readSaid_11 (by decide) ?_
      refine lv_icmp_gt (tgt := 30) hx hb dX10_readSaid_13 (by decide) (fun c_13 => ?_) (fun c_13 => ?_)
      · have r_x2 : RI x2 28 28 := rc_lt2 rl_27 r_x2 (ti_lt c_13) (by decide)
        simp only [f_X10_readSaid__9_10, ↓reduceIte, q_z0_47, eq_true c_13] at hE
        exact B30 x1 x2 z0_47 s0 ws _ _ ls r_x1 (r_x2.to (by decide)) r_z0_47 m_z0_47 x_SN_p0_gd_gh_gg o_p0 hE hw hl
      · have r_x2 : RI x2 18 27 := rc_le1 r_x2 rl_27 (ti_nlt c_13) (by decide)
        refine lv_aload_n hx hb dX10_readSaid_16 rfl (lv_at hl 0 rfl) ?_
        refine lv_iload_n hx hb dX10_readSaid_17 rfl (lv_at hl 2 rfl) ?_
        refine tk_ir (va_runV (As := [.int x2]) (rest := []) ⟨hx, hb, hml, hown, hts⟩ (c_X10_isWord__5 l D cy z H.size Ps ws hw.1 p0 x2 s0 h_p0 (r_x2.to (by decide)) o_p0) (cwV 1 hts (gV tw_1318 tw_1320 ts_43 tw_15 tw_1321) rfl rfl rfl (by decide +kernel) ⟨Nat.le_of_ble_eq_true rfl, Nat.le_of_ble_eq_true rfl⟩) (tg_preV hw hK hSD hA (ci := 10) (q := (RX10, TX10, 49)) rfl h_p0 rfl) rfl rfl hl.1 rfl (lv_room (Nat.le_of_ble_eq_true rfl)) dX10_readSaid_18 ⟨Nat.le_of_ble_eq_true rfl, Nat.le_of_ble_eq_true rfl⟩) hw hA (fun v_77  H locs hp_v_77 hw => ?_)
        obtain ⟨hfn, hp_v_77⟩ := hp_v_77
        have q_v_77 : (f_X10_isWord__4 x2 s0) = v_77 := hfn.1
        have r_v_77 : RI v_77 0 1 := hp_v_77.1
        refine lv_if_ne (tgt := 30) hx hb dX10_readSaid_21 (by decide) (fun c_21 => ?_) (fun c_21 => ?_)
        · have r_v_77 : RI v_77 1 1 := rc_neL r_v_77 rl_0 (ti_ne c_21) (by decide)
          simp only [f_X10_readSaid__9_10, ↓reduceIte, q_z0_47, eq_false c_13, q_v_77, eq_false c_21] at hE
          exact B30 x1 x2 z0_47 s0 ws _ _ ls r_x1 (r_x2.to (by decide)) r_z0_47 m_z0_47 x_SN_p0_gd_gh_gg o_p0 hE hw hl
        · have r_v_77 : RI v_77 0 0 := rc_eq1 r_v_77 rl_0 (ti_eq c_21) (by decide)
          obtain ⟨v_78, e_v_78⟩ : ∃ q9 : Int32, q9 = x2 + Int32.ofInt 1 := ⟨_, rfl⟩
          obtain ⟨t_v_78, r_v_78⟩ := tq_add (lo := 19) (hi := 28) r_x2 (show RI (Int32.ofInt 1) 1 1 by unfold RI; decide +kernel) (by decide +kernel) e_v_78
          have t_v_78 : v_78.toInt = x2.toInt + 1 := t_v_78
          refine lv_iinc (v := v_78) (lv' := [(2, .int v_78), (0, .ref p0), (1, .int x1)]) hx hb dX10_readSaid_24 hl (k := 2) rfl e_v_78.symm (by decide) rfl (fun ls hl => ?_)
          have q_v_78 : x2 + (1 : Int32) = v_78 := by rw [e_v_78, show Int32.ofInt 1 = (1 : Int32) by decide]
          refine lv_goto (tgt := 10) hx hb dX10_readSaid_27 (by decide) ?_
          simp only [f_X10_readSaid__9_10, ↓reduceIte, q_z0_47, eq_false c_13, q_v_77, eq_true c_21, q_v_78] at hE
          exact ih10 x1 v_78 z0_47 s0 ws _ _ ls (by have q0 := r_v_78.1; have u0 := r_v_78.2; have o0 := r_x2.1; have p0 := r_x2.2; omega) r_x1 (r_v_78.to (by decide)) r_z0_47 m_z0_47 x_SN_p0_gd_gh_gg o_p0 hE hw (lv_sub hl [1, 2, 0] rfl)
  refine lv_aload_n hx hb dX10_readSaid_0 rfl (lv_at hl 0 rfl) ?_
  refine lv_bipush (v := 40) hx hb dX10_readSaid_1 (by decide) ?_
  refine tk_ir (va_runV (As := [.int 40]) (rest := []) ⟨hx, hb, hml, hown, hts⟩ (c_X10_isSign__2 l D cy z s.heap.size Ps w0 hw.1 p0 40 s0 h_p0 (rl_40.to (by decide)) o_p0) (cwV 1 hts (gV tw_1413 tw_1415 ts_63 tw_15 tw_1416) rfl rfl rfl (by decide +kernel) ⟨Nat.le_of_ble_eq_true rfl, Nat.le_of_ble_eq_true rfl⟩) (tg_preV hw hK hSD hA (ci := 10) (q := (RX10, TX10, 49)) rfl h_p0 rfl) rfl rfl hl.1 rfl (lv_room (Nat.le_of_ble_eq_true rfl)) dX10_readSaid_3 ⟨Nat.le_of_ble_eq_true rfl, Nat.le_of_ble_eq_true rfl⟩) hw hA (fun v_79  H locs hp_v_79 hw => ?_)
  obtain ⟨hfn, hp_v_79⟩ := hp_v_79
  have q_v_79 : (f_X10_isSign__1 (40 : Int32) s0) = v_79 := hfn.1
  have r_v_79 : RI v_79 0 1 := hp_v_79.1
  by_cases c9_v_79 : v_79 = 0
  · have r_v_79 : RI v_79 0 0 := by rw [c9_v_79]; exact rl_0
    refine lv_istore_n (lv' := [(1, .int v_79), (0, .ref p0)]) hx hb dX10_readSaid_6 rfl hl (by decide) rfl (fun ls hl => ?_)
    refine lv_bipush (v := 18) hx hb dX10_readSaid_7 (by decide) ?_
    refine lv_istore_n (lv' := [(2, .int 18), (1, .int v_79), (0, .ref p0)]) hx hb dX10_readSaid_9 rfl hl (by decide) rfl (fun ls hl => ?_)
    simp only [f_X10_readSaid__9, ↓reduceIte, q_v_79, eq_true c9_v_79] at hE
    exact B10 4294967298 v_79 18 f0_47 s0 w0 _ _ ls (by have q0 := rl_18.1; have u0 := rl_18.2; omega) (r_v_79.to (by decide)) (rl_18.to (by decide)) r_f0_47 m_f0_47 x_SN_p0_gd_gh_gg o_p0 hE hw (lv_sub hl [2, 1, 0] rfl)
  · have r_v_79 : RI v_79 1 1 := rc_neL r_v_79 rl_0 (ti_ne c9_v_79) (by decide)
    obtain ⟨v_80, m_v_80, r_v_80⟩ := ((hp_v_79.2.2 c9_v_79).1)
    refine lv_istore_n (lv' := [(1, .int v_79), (0, .ref p0)]) hx hb dX10_readSaid_6 rfl hl (by decide) rfl (fun ls hl => ?_)
    refine lv_bipush (v := 18) hx hb dX10_readSaid_7 (by decide) ?_
    refine lv_istore_n (lv' := [(2, .int 18), (1, .int v_79), (0, .ref p0)]) hx hb dX10_readSaid_9 rfl hl (by decide) rfl (fun ls hl => ?_)
    simp only [f_X10_readSaid__9, ↓reduceIte, q_v_79, eq_false c9_v_79] at hE
    exact B10 4294967298 v_79 18 f0_47 s0 w0 _ _ ls (by have q0 := rl_18.1; have u0 := rl_18.2; omega) (r_v_79.to (by decide)) (rl_18.to (by decide)) r_f0_47 m_f0_47 x_SN_p0_gd_gh_gg o_p0 hE hw (lv_sub hl [2, 1, 0] rfl)
abbrev wr_X10_readAnd__9 : List (Nat × Nat) := [(10, 5), (10, 6), (10, 7), (10, 8), (10, 9), (10, 10), (10, 11), (10, 12), (10, 13), (10, 45), (10, 46), (10, 47), (10, 48)]
abbrev wa_X10_readAnd__9 : List Nat := [54]
set_option maxHeartbeats 4000000 in
set_option maxRecDepth 100000 in
theorem c_X10_readAnd__9 (l : Launch) (D : va_G) (cy : Nat → ClassId) (z : Nat → Nat) (sz : Nat) (Ps : PSI) (w0 : va_W) (hT : HT cy GG Ps w0) (p0 : Nat) (f0_47 : Int32) (gd : Int) (gh : Int) (gg : Int) (s0 : OS) (h_p0 : (p0, 55) ∈ Ps) (r_f0_47 : RI f0_47 0 0) (m_f0_47 : FLD w0 p0 10 47 (.int f0_47)) (x_SN_p0_gd_gh_gg : SNp w0 p0 (gd) (gh) (gg)) (o_p0 : OV vw_M2 Ps w0 p0 s0) : Met l yX10_readAnd (Cond.code yX10_readAnd cX10_readAnd 2 (some .boolean) :: gT) ({ frames := 37, cells := 0, slots := 0, locals := 7400 } : Room) (va_Pc [.ref p0] (PRE D cy z w0 sz)) (va_Qi (fun (r : Int32) (u : va_W) => ((OV vw_M2 Ps u p0 ((f_X10_readAnd__9 s0).1) ∧ (f_X10_readAnd__9 s0).2 = r ∧ True) ∧ (RI r 0 1 ∧ (r = 0 → (∃ v9 : Int32, FLD u p0 10 47 (.int v9) ∧ RI v9 0 0) ∧ True) ∧ (¬ r = 0 → (∃ v9 : Int32, FLD u p0 10 46 (.int v9) ∧ RI v9 1 20) ∧ (∃ v9 : Int32, FLD u p0 10 47 (.int v9) ∧ RI v9 0 0) ∧ (∃ v9 : Int32, FLD u p0 10 48 (.int v9) ∧ RI v9 0 39) ∧ SNT u p0 (gd+1) (gh+1) (gg) ∧ True))) ∧ HT cy GG Ps u ∧ FR wr_X10_readAnd__9 wa_X10_readAnd__9 Ps w0 u) (BB D cy (va_A w0 sz) (fun (u : va_W) => u)) (va_A w0 sz)) 0 0 (va_A w0 sz) := by
  refine Met.ofW (cc := cX10_readAnd) (maxL := 2) (ret := (some .boolean)) (by decide) rfl ?_
  intro p e s m args below meth c s₁ B hml hv
  obtain ⟨rfl, hsz, hP, hK, hD0, hSD⟩ := hv
  have hx := B.exec
  have hb := B.bytes
  have hr := B.returns
  have hlocks := B.notSynchronized
  have hts : ∀ w ∈ gT, w.before _ s = true := fun w h => atoms_spec (ws := Cond.code yX10_readAnd cX10_readAnd 2 (some .boolean) :: gT) B.pre w (List.mem_cons_of_mem _ h)
  have hown : s.vm.findClass RX10 = some m.cls := findClass_of_methodNamed B.named
  subst hsz
  have hD := hD0.self (sz := s.heap.size)
  generalize hAe : va_A w0 s.heap.size = A at hD hSD ⊢
  have hA : ∀ q : Nat, s.heap.size ≤ q → A q := fun q h => by rw [← hAe]; exact Or.inr h
  have hl := lv_entry ([.ref p0]) (n := 2) (Nat.le_of_ble_eq_true rfl)
  rw [lg_entry_eq]
  generalize (lg_sl ([.ref p0]) ++ List.replicate (2 - (lg_sl ([.ref p0])).length) Slot.unset).toArray = ls at hl ⊢
  have hl : lv_has ls 2 [(0, .ref p0)] := hl
  refine nameQ (fun Q hQ => ?_)
  have hw : WD D cy GG A s wr_X10_readAnd__9 wa_X10_readAnd__9 Ps w0 Ps w0 s.heap [] := ⟨hT, hP, hD, va_S.rf, FR.rf, hT.1, [], (List.append_nil _).symm⟩
  obtain ⟨R9, hR⟩ : ∃ q9 : OS × Int32, f_X10_readAnd__9 s0 = q9 := ⟨_, rfl⟩
  have hE := hR
  have B14 : ∀ (nf : Nat) (x1 : Int32) (z0_46 : Int32) (z0_47 : Int32) (z0_48 : Int32) (gz : Int) (s0 : OS) (ws : va_W) (H : Heap) (locs : List Loc) (ls : Array Slot), 21 - gz < (nf : Int) → RI x1 0 39 → RI z0_46 1 20 → FLD ws p0 10 46 (.int z0_46) → RI z0_47 0 0 → FLD ws p0 10 47 (.int z0_47) → RI z0_48 0 39 → FLD ws p0 10 48 (.int z0_48) → (SNL ws p0 (gd+1) (gz) (gg) x1 ∧ gh + 1 ≤ gz) → OV vw_M2 Ps ws p0 s0 → f_X10_readAnd__9_14 nf x1 s0 = R9 → WD D cy GG A s wr_X10_readAnd__9 wa_X10_readAnd__9 Ps w0 Ps ws H locs → lv_has ls 2 [(0, .ref p0), (1, .int x1)] → W p l e (headSpec (Cond.code yX10_readAnd cX10_readAnd 2 (some .boolean) :: gT) ({ frames := 37, cells := 0, slots := 0, locals := 7400 } : Room)).room s m ([.ref p0] : List Value).toArray below meth c H locs 0 0 Q (F0 m 14 ls []) := by
    intro nf14
    induction nf14 with
    | zero =>
      intro x1 z0_46 z0_47 z0_48 gz s0 ws H locs ls hn14 r_x1 r_z0_46 m_z0_46 r_z0_47 m_z0_47 r_z0_48 m_z0_48 x_SNW_p0_gd_1_gz_gg__1 o_p0 hE hw hl
      exact absurd hn14 (by have q9 := SNL.le x_SNW_p0_gd_1_gz_gg__1.1; omega)
    | succ nf14 ih14 =>
      intro x1 z0_46 z0_47 z0_48 gz s0 ws H locs ls hn14 r_x1 r_z0_46 m_z0_46 r_z0_47 m_z0_47 r_z0_48 m_z0_48 x_SNW_p0_gd_1_gz_gg__1 o_p0 hE hw hl
      have q_z0_46 : s0.1 46 = z0_46 := OV.eqI (V := vw_M2) hw.2.2.1 o_p0 m_z0_46 (by decide)
      have q_z0_47 : s0.1 47 = z0_47 := OV.eqI (V := vw_M2) hw.2.2.1 o_p0 m_z0_47 (by decide)
      have q_z0_48 : s0.1 48 = z0_48 := OV.eqI (V := vw_M2) hw.2.2.1 o_p0 m_z0_48 (by decide)
      refine lv_aload_n hx hb dX10_readAnd_14 rfl (lv_at hl 0 rfl) ?_
      refine lv_bipush (v := 17) hx hb dX10_readAnd_15 (by decide) ?_
      refine tk_ir (va_runV (As := [.int 17]) (rest := []) ⟨hx, hb, hml, hown, hts⟩ (c_X10_isWord__5 l D cy z H.size Ps ws hw.1 p0 17 s0 h_p0 (rl_17.to (by decide)) o_p0) (cwV 1 hts (gV tw_1318 tw_1320 ts_43 tw_15 tw_1321) rfl rfl rfl (by decide +kernel) ⟨Nat.le_of_ble_eq_true rfl, Nat.le_of_ble_eq_true rfl⟩) (tg_preV hw hK hSD hA (ci := 10) (q := (RX10, TX10, 49)) rfl h_p0 rfl) rfl rfl hl.1 rfl (lv_room (Nat.le_of_ble_eq_true rfl)) dX10_readAnd_17 ⟨Nat.le_of_ble_eq_true rfl, Nat.le_of_ble_eq_true rfl⟩) hw hA (fun v_1  H locs hp_v_1 hw => ?_)
      obtain ⟨hfn, hp_v_1⟩ := hp_v_1
      have q_v_1 : (f_X10_isWord__4 (17 : Int32) s0) = v_1 := hfn.1
      have r_v_1 : RI v_1 0 1 := hp_v_1.1
      refine lv_if_eq (tgt := 51) hx hb dX10_readAnd_20 (by decide) (fun c_20 => ?_) (fun c_20 => ?_)
      · have r_v_1 : RI v_1 0 0 := rc_eq1 r_v_1 rl_0 (ti_eq c_20) (by decide)
        refine lv_aload_n hx hb dX10_readAnd_51 rfl (lv_at hl 0 rfl) ?_
        refine lv_iload_n hx hb dX10_readAnd_52 rfl (lv_at hl 1 rfl) ?_
        refine tg_put (ci := 10) (ts := ty_MODEL) (v := .int x1) (ty := .int) (C := RX10) (T := TX10) (N := 49) hx hb hts inX10 tyX10 tyX10_ok nmX10 hown hK hw h_p0 rfl rfl 48 (by decide) (hts _ tw_1185) (fun _ h9 => h9) rfl (by decide +kernel) rfl rfl (ft := vI (-2147483648) 2147483647) rfl ⟨_, rfl, (r_x1.to (by decide))⟩ (by decide) dX10_readAnd_53 (fun ws H locs hw n_k_2 hF9 => ?_)
        have m_z0_46 := FLD.over hF9 m_z0_46 (by decide)
        have m_z0_47 := FLD.over hF9 m_z0_47 (by decide)
        have x_SNW_p0_gd_1_gz_gg__1 := SNW.over hF9 x_SNW_p0_gd_1_gz_gg__1 (by decide)
        obtain ⟨sg_3, q_sg_3⟩ : ∃ q9 : OS, sI s0 48 x1 = q9 := ⟨_, rfl⟩
        have o_p0 : OV vw_M2 Ps ws p0 sg_3 := by rw [← q_sg_3]; exact OV.putI (V := vw_M2) hF9 n_k_2 o_p0 (by decide)
        have f6 := SNL.le x_SNW_p0_gd_1_gz_gg__1.1
        have f7 := x_SNW_p0_gd_1_gz_gg__1.2
        have x_SNT_p0_gd_1_gh_1_gg : SNT ws p0 (gd+1) (gh+1) (gg) := (SNL.snt x_SNW_p0_gd_1_gz_gg__1.1 n_k_2).weak (by have d_8 := SNp.le x_SN_p0_gd_gh_gg; omega)
        refine lv_iconst (v := 1) hx hb dX10_readAnd_56 (by decide) ?_
        simp only [f_X10_readAnd__9_14, ↓reduceIte, q_z0_46, q_z0_47, q_z0_48, q_v_1, eq_true c_20, q_sg_3] at hE
        subst hQ
        exact W.zret (v := 1) hx hb hr (rfl) (fun t ht hW => ⟨⟨1, ws, rfl, ⟨⟨⟨(by rw [hR, ← hE]; exact o_p0), (by rw [hR, ← hE]), trivial⟩, rl_1.to (by decide), (fun h0 => absurd h0 (by decide)), (fun h0 => ⟨⟨_, m_z0_46, r_z0_46⟩, ⟨_, m_z0_47, r_z0_47⟩, ⟨_, n_k_2, r_x1⟩, x_SNT_p0_gd_1_gh_1_gg, trivial⟩)⟩, hw.1, hw.2.2.2.2.1⟩, by rw [ht]; exact hw.2.1, va_K.moved hW.alike hK, hw.2.2.1⟩, hw.2.2.2.1.F ht⟩) hw.2.2.2.1.2.2 dX10_readAnd_57
      · have r_v_1 : RI v_1 1 1 := rc_neL r_v_1 rl_0 (ti_ne c_20) (by decide)
        refine lv_aload_n hx hb dX10_readAnd_23 rfl (lv_at hl 0 rfl) ?_
        refine tk_v (va_runV (As := []) (rest := []) ⟨hx, hb, hml, hown, hts⟩ (c_X10_go__4 l D cy z H.size Ps ws hw.1 p0 s0 h_p0 o_p0) (cwV 0 hts (gV tw_1298 tw_1300 ts_40 tw_15 tw_1301) rfl rfl rfl (by decide +kernel) ⟨Nat.le_of_ble_eq_true rfl, Nat.le_of_ble_eq_true rfl⟩) (tg_preV hw hK hSD hA (ci := 10) (q := (RX10, TX10, 49)) rfl h_p0 rfl) rfl rfl hl.1 rfl (lv_room (Nat.le_of_ble_eq_true rfl)) dX10_readAnd_24 ⟨Nat.le_of_ble_eq_true rfl, Nat.le_of_ble_eq_true rfl⟩) hw hA ⟨by decide, by decide⟩ (fun ws H locs hp_v_4 hw hF9 => ?_)
        have m_z0_46 := FLD.over hF9 m_z0_46 (by decide)
        have m_z0_47 := FLD.over hF9 m_z0_47 (by decide)
        have m_z0_48 := FLD.over hF9 m_z0_48 (by decide)
        have x_SNW_p0_gd_1_gz_gg__1 := SNW.over hF9 x_SNW_p0_gd_1_gz_gg__1 (by decide)
        obtain ⟨hfn, hp_v_4⟩ := hp_v_4
        obtain ⟨sg_5, q_sg_5⟩ : ∃ q9 : OS, (f_X10_go__2 s0) = q9 := ⟨_, rfl⟩
        have o_p0 : OV vw_M2 Ps ws p0 sg_5 := by rw [← q_sg_5]; exact hfn.1
        refine lv_aload_n hx hb dX10_readAnd_27 rfl (lv_at hl 0 rfl) ?_
        have f9 := SNL.sn x_SNW_p0_gd_1_gz_gg__1.1
        have f8 := f9.2
        have f7 := x_SNW_p0_gd_1_gz_gg__1.2
        have f6 := SNL.le x_SNW_p0_gd_1_gz_gg__1.1
        have x_SN_p0_gd_1_gz_max_gg__Int32_toInt_x1___1_ : SNp ws p0 (gd+1) (gz) (max gg (Int32.toInt x1 + 1)) := f9.1
        refine tk_i (va_runV (As := []) (rest := []) ⟨hx, hb, hml, hown, hts⟩ (c_X10_readSaid__9 l D cy z H.size Ps ws hw.1 p0 z0_47 (gd+1) (gz) (max gg (Int32.toInt x1 + 1)) sg_5 h_p0 r_z0_47 m_z0_47 x_SN_p0_gd_1_gz_max_gg__Int32_toInt_x1___1_ o_p0) (cwV 0 hts (gV tw_1759 tw_1761 ts_113 tw_15 tw_1762) rfl rfl rfl (by decide +kernel) ⟨Nat.le_of_ble_eq_true rfl, Nat.le_of_ble_eq_true rfl⟩) (tg_preV hw hK hSD hA (ci := 10) (q := (RX10, TX10, 49)) rfl h_p0 rfl) rfl rfl hl.1 rfl (lv_room (Nat.le_of_ble_eq_true rfl)) dX10_readAnd_28 ⟨Nat.le_of_ble_eq_true rfl, Nat.le_of_ble_eq_true rfl⟩) hw hA ⟨by decide, by decide⟩ (fun v_6 ws H locs hp_v_6 hw hF9 => ?_)
        obtain ⟨hfn, hp_v_6⟩ := hp_v_6
        obtain ⟨sg_7, q_sg_7⟩ : ∃ q9 : OS, (f_X10_readSaid__9 sg_5).1 = q9 := ⟨_, rfl⟩
        have o_p0 : OV vw_M2 Ps ws p0 sg_7 := by rw [← q_sg_7]; exact hfn.1
        have q_v_6 : (f_X10_readSaid__9 sg_5).2 = v_6 := hfn.2.1
        have r_v_6 : RI v_6 0 1 := hp_v_6.1
        by_cases c9_v_6 : v_6 = 0
        · have r_v_6 : RI v_6 0 0 := by rw [c9_v_6]; exact rl_0
          obtain ⟨v_8, m_v_8, r_v_8⟩ := ((hp_v_6.2.1 c9_v_6).1)
          refine lv_if_ne (tgt := 36) hx hb dX10_readAnd_31 (by decide) (fun c_31 => ?_) (fun c_31 => ?_)
          · exact absurd (r_v_6.eq.trans rl_0.eq.symm) ((ti_ne c_31))
          · refine lv_iconst (v := 0) hx hb dX10_readAnd_34 (by decide) ?_
            simp only [f_X10_readAnd__9_14, ↓reduceIte, q_z0_46, q_z0_47, q_z0_48, q_v_1, eq_false c_20, q_sg_5, q_sg_7, q_v_6, eq_true c9_v_6, eq_true c_31] at hE
            subst hQ
            exact W.zret (v := 0) hx hb hr (rfl) (fun t ht hW => ⟨⟨0, ws, rfl, ⟨⟨⟨(by rw [hR, ← hE]; exact o_p0), (by rw [hR, ← hE]), trivial⟩, rl_0.to (by decide), (fun h0 => ⟨⟨_, m_v_8, r_v_8⟩, trivial⟩), (fun h0 => absurd rfl h0)⟩, hw.1, hw.2.2.2.2.1⟩, by rw [ht]; exact hw.2.1, va_K.moved hW.alike hK, hw.2.2.1⟩, hw.2.2.2.1.F ht⟩) hw.2.2.2.1.2.2 dX10_readAnd_35
        · have r_v_6 : RI v_6 1 1 := rc_neL r_v_6 rl_0 (ti_ne c9_v_6) (by decide)
          obtain ⟨v_9, m_v_9, r_v_9⟩ := ((hp_v_6.2.2 c9_v_6).1)
          obtain ⟨v_10, m_v_10, r_v_10⟩ := ((hp_v_6.2.2 c9_v_6).2.1)
          obtain ⟨v_11, m_v_11, r_v_11⟩ := ((hp_v_6.2.2 c9_v_6).2.2.1)
          have x_SNT_p0_gd_2_gz_1_max_gg__Int32_toInt_x1___1_ := ((hp_v_6.2.2 c9_v_6).2.2.2.1)
          refine lv_if_ne (tgt := 36) hx hb dX10_readAnd_31 (by decide) (fun c_31 => ?_) (fun c_31 => ?_)
          · refine lv_aload_n hx hb dX10_readAnd_36 rfl (lv_at hl 0 rfl) ?_
            refine lv_iconst (v := 2) hx hb dX10_readAnd_37 (by decide) ?_
            refine lv_iload_n hx hb dX10_readAnd_38 rfl (lv_at hl 1 rfl) ?_
            refine lv_aload_n hx hb dX10_readAnd_39 rfl (lv_at hl 0 rfl) ?_
            refine tg_mem (ci := 10) (C := RX10) (T := TX10) (N := 49) hx hb hts inX10 hown hK hw 48 m_v_10 rfl (by decide) (hts _ tw_1185) (fun _ h9 => h9) dX10_readAnd_40 ?_
            have q_v_10 : sg_7.1 48 = v_10 := OV.eqI (V := vw_M2) hw.2.2.1 o_p0 m_v_10 (by decide)
            refine lv_iconst (v := 0) hx hb dX10_readAnd_43 (by decide) ?_
            have l9 := SNT.top hw x_SNT_p0_gd_2_gz_1_max_gg__Int32_toInt_x1___1_ m_v_10
            have l8 := SNT.sn x_SNT_p0_gd_2_gz_1_max_gg__Int32_toInt_x1___1_
            have x_SNI_p0_gd_1_gz_1_gg : SNI ws p0 (gd+1) (gz+1) (gg) := SNp.sni l8 (by have d_8 := SNp.le x_SN_p0_gd_gh_gg; omega)
            have x_LTN_p0_x1 : LTN ws p0 (x1) := SNp.ltn l8 f8
            have x_LTN_p0_v_10 : LTN ws p0 (v_10) := l9.ltn
            refine tk_i (va_runV (As := [.int 2, .int x1, .int v_10, .int 0]) (rest := []) ⟨hx, hb, hml, hown, hts⟩ (c_X10_saysOne__4 l D cy z H.size Ps ws hw.1 p0 2 x1 v_10 0 (gd+1) (gz+1) (gg) sg_7 h_p0 (rl_2.to (by decide)) (r_x1.to (by decide)) (r_v_10.to (by decide)) (rl_0.to (by decide)) x_SNI_p0_gd_1_gz_1_gg x_LTN_p0_x1 x_LTN_p0_v_10 o_p0) (cwV 4 hts (gV tw_1771 tw_1773 ts_116 tw_15 tw_1774) rfl rfl rfl (by decide +kernel) ⟨Nat.le_of_ble_eq_true rfl, Nat.le_of_ble_eq_true rfl⟩) (tg_preV hw hK hSD hA (ci := 10) (q := (RX10, TX10, 49)) rfl h_p0 rfl) rfl rfl hl.1 rfl (lv_room (Nat.le_of_ble_eq_true rfl)) dX10_readAnd_44 ⟨Nat.le_of_ble_eq_true rfl, Nat.le_of_ble_eq_true rfl⟩) hw hA ⟨by decide, by decide⟩ (fun v_12 ws H locs hp_v_12 hw hF9 => ?_)
            have m_v_9 := FLD.over hF9 m_v_9 (by decide)
            have m_v_10 := FLD.over hF9 m_v_10 (by decide)
            have m_v_11 := FLD.over hF9 m_v_11 (by decide)
            obtain ⟨hfn, hp_v_12⟩ := hp_v_12
            obtain ⟨sg_13, q_sg_13⟩ : ∃ q9 : OS, (f_X10_saysOne__3 (2 : Int32) x1 v_10 (0 : Int32) sg_7).1 = q9 := ⟨_, rfl⟩
            have o_p0 : OV vw_M2 Ps ws p0 sg_13 := by rw [← q_sg_13]; exact hfn.1
            have q_v_12 : (f_X10_saysOne__3 (2 : Int32) x1 v_10 (0 : Int32) sg_7).2 = v_12 := hfn.2.1
            have r_v_12 : RI v_12 0 39 := hp_v_12.1
            have x_SNL_p0_gd_1_gz_1_gg_v_12 := hp_v_12.2.2.2.1.1
            refine lv_istore_n (lv' := [(1, .int v_12), (0, .ref p0)]) hx hb dX10_readAnd_47 rfl hl (by decide) rfl (fun ls hl => ?_)
            refine lv_goto (tgt := 14) hx hb dX10_readAnd_48 (by decide) ?_
            simp only [f_X10_readAnd__9_14, ↓reduceIte, q_z0_46, q_z0_47, q_z0_48, q_v_1, eq_false c_20, q_sg_5, q_sg_7, q_v_6, eq_false c9_v_6, eq_false c_31, q_v_10, q_sg_13, q_v_12] at hE
            have x_SNW_p0_gd_1_gz_1_gg_v_12 : (SNL ws p0 (gd+1) (gz+1) (gg) v_12 ∧ gh + 1 ≤ gz+1) := ⟨x_SNL_p0_gd_1_gz_1_gg_v_12, by omega⟩
            exact ih14 v_12 v_9 v_11 v_10 (gz+1) sg_13 ws _ _ ls (by have d_8 := SNp.le x_SN_p0_gd_gh_gg; omega) r_v_12 r_v_9 m_v_9 r_v_11 m_v_11 r_v_10 m_v_10 x_SNW_p0_gd_1_gz_1_gg_v_12 o_p0 hE hw (lv_sub hl [1, 0] rfl)
          · have r_v_6 : RI v_6 1 0 := rc_eq1 r_v_6 rl_0 (ti_eq c_31) (by decide)
            exact (r_v_6.no (by decide)).elim
  refine lv_aload_n hx hb dX10_readAnd_0 rfl (lv_at hl 0 rfl) ?_
  refine tk_i (va_runV (As := []) (rest := []) ⟨hx, hb, hml, hown, hts⟩ (c_X10_readSaid__9 l D cy z s.heap.size Ps w0 hw.1 p0 f0_47 (gd) (gh) (gg) s0 h_p0 r_f0_47 m_f0_47 x_SN_p0_gd_gh_gg o_p0) (cwV 0 hts (gV tw_1759 tw_1761 ts_113 tw_15 tw_1762) rfl rfl rfl (by decide +kernel) ⟨Nat.le_of_ble_eq_true rfl, Nat.le_of_ble_eq_true rfl⟩) (tg_preV hw hK hSD hA (ci := 10) (q := (RX10, TX10, 49)) rfl h_p0 rfl) rfl rfl hl.1 rfl (lv_room (Nat.le_of_ble_eq_true rfl)) dX10_readAnd_1 ⟨Nat.le_of_ble_eq_true rfl, Nat.le_of_ble_eq_true rfl⟩) hw hA ⟨by decide, by decide⟩ (fun v_14 ws H locs hp_v_14 hw hF9 => ?_)
  obtain ⟨hfn, hp_v_14⟩ := hp_v_14
  obtain ⟨sg_15, q_sg_15⟩ : ∃ q9 : OS, (f_X10_readSaid__9 s0).1 = q9 := ⟨_, rfl⟩
  have o_p0 : OV vw_M2 Ps ws p0 sg_15 := by rw [← q_sg_15]; exact hfn.1
  have q_v_14 : (f_X10_readSaid__9 s0).2 = v_14 := hfn.2.1
  have r_v_14 : RI v_14 0 1 := hp_v_14.1
  by_cases c9_v_14 : v_14 = 0
  · have r_v_14 : RI v_14 0 0 := by rw [c9_v_14]; exact rl_0
    obtain ⟨v_16, m_v_16, r_v_16⟩ := ((hp_v_14.2.1 c9_v_14).1)
    refine lv_if_ne (tgt := 9) hx hb dX10_readAnd_4 (by decide) (fun c_4 => ?_) (fun c_4 => ?_)
    · exact absurd (r_v_14.eq.trans rl_0.eq.symm) ((ti_ne c_4))
    · refine lv_iconst (v := 0) hx hb dX10_readAnd_7 (by decide) ?_
      simp only [f_X10_readAnd__9, ↓reduceIte, q_sg_15, q_v_14, eq_true c9_v_14, eq_true c_4] at hE
      subst hQ
      exact W.zret (v := 0) hx hb hr (rfl) (fun t ht hW => ⟨⟨0, ws, rfl, ⟨⟨⟨(by rw [hR, ← hE]; exact o_p0), (by rw [hR, ← hE]), trivial⟩, rl_0.to (by decide), (fun h0 => ⟨⟨_, m_v_16, r_v_16⟩, trivial⟩), (fun h0 => absurd rfl h0)⟩, hw.1, hw.2.2.2.2.1⟩, by rw [ht]; exact hw.2.1, va_K.moved hW.alike hK, hw.2.2.1⟩, hw.2.2.2.1.F ht⟩) hw.2.2.2.1.2.2 dX10_readAnd_8
  · have r_v_14 : RI v_14 1 1 := rc_neL r_v_14 rl_0 (ti_ne c9_v_14) (by decide)
    obtain ⟨v_17, m_v_17, r_v_17⟩ := ((hp_v_14.2.2 c9_v_14).1)
    obtain ⟨v_18, m_v_18, r_v_18⟩ := ((hp_v_14.2.2 c9_v_14).2.1)
    obtain ⟨v_19, m_v_19, r_v_19⟩ := ((hp_v_14.2.2 c9_v_14).2.2.1)
    have x_SNT_p0_gd_1_gh_1_gg := ((hp_v_14.2.2 c9_v_14).2.2.2.1)
    refine lv_if_ne (tgt := 9) hx hb dX10_readAnd_4 (by decide) (fun c_4 => ?_) (fun c_4 => ?_)
    · refine lv_aload_n hx hb dX10_readAnd_9 rfl (lv_at hl 0 rfl) ?_
      refine tg_mem (ci := 10) (C := RX10) (T := TX10) (N := 49) hx hb hts inX10 hown hK hw 48 m_v_18 rfl (by decide) (hts _ tw_1185) (fun _ h9 => h9) dX10_readAnd_10 ?_
      have q_v_18 : sg_15.1 48 = v_18 := OV.eqI (V := vw_M2) hw.2.2.1 o_p0 m_v_18 (by decide)
      refine lv_istore_n (lv' := [(1, .int v_18), (0, .ref p0)]) hx hb dX10_readAnd_13 rfl hl (by decide) rfl (fun ls hl => ?_)
      simp only [f_X10_readAnd__9, ↓reduceIte, q_sg_15, q_v_14, eq_false c9_v_14, eq_false c_4, q_v_18] at hE
      have x_SNW_p0_gd_1_gh_1_gg_v_18 : (SNL ws p0 (gd+1) (gh+1) (gg) v_18 ∧ gh + 1 ≤ gh+1) := ⟨SNT.top hw x_SNT_p0_gd_1_gh_1_gg m_v_18, by omega⟩
      exact B14 4294967298 v_18 v_17 v_19 v_18 (gh+1) sg_15 ws _ _ ls (by have d_8 := SNp.le x_SN_p0_gd_gh_gg; omega) r_v_18 r_v_17 m_v_17 r_v_19 m_v_19 r_v_18 m_v_18 x_SNW_p0_gd_1_gh_1_gg_v_18 o_p0 hE hw (lv_sub hl [1, 0] rfl)
    · have r_v_14 : RI v_14 1 0 := rc_eq1 r_v_14 rl_0 (ti_eq c_4) (by decide)
      exact (r_v_14.no (by decide)).elim
abbrev wr_X10_readOr__9 : List (Nat × Nat) := [(10, 5), (10, 6), (10, 7), (10, 8), (10, 9), (10, 10), (10, 11), (10, 12), (10, 13), (10, 45), (10, 46), (10, 47), (10, 48)]
abbrev wa_X10_readOr__9 : List Nat := [54]
set_option maxHeartbeats 4000000 in
set_option maxRecDepth 100000 in
theorem c_X10_readOr__9 (l : Launch) (D : va_G) (cy : Nat → ClassId) (z : Nat → Nat) (sz : Nat) (Ps : PSI) (w0 : va_W) (hT : HT cy GG Ps w0) (p0 : Nat) (f0_47 : Int32) (gd : Int) (gh : Int) (gg : Int) (s0 : OS) (h_p0 : (p0, 55) ∈ Ps) (r_f0_47 : RI f0_47 0 0) (m_f0_47 : FLD w0 p0 10 47 (.int f0_47)) (x_SN_p0_gd_gh_gg : SNp w0 p0 (gd) (gh) (gg)) (o_p0 : OV vw_M2 Ps w0 p0 s0) : Met l yX10_readOr (Cond.code yX10_readOr cX10_readOr 2 (some .boolean) :: gT) ({ frames := 38, cells := 0, slots := 0, locals := 7600 } : Room) (va_Pc [.ref p0] (PRE D cy z w0 sz)) (va_Qi (fun (r : Int32) (u : va_W) => ((OV vw_M2 Ps u p0 ((f_X10_readOr__9 s0).1) ∧ (f_X10_readOr__9 s0).2 = r ∧ True) ∧ (RI r 0 1 ∧ (r = 0 → (∃ v9 : Int32, FLD u p0 10 47 (.int v9) ∧ RI v9 0 0) ∧ True) ∧ (¬ r = 0 → (∃ v9 : Int32, FLD u p0 10 46 (.int v9) ∧ RI v9 1 20) ∧ (∃ v9 : Int32, FLD u p0 10 47 (.int v9) ∧ RI v9 0 0) ∧ (∃ v9 : Int32, FLD u p0 10 48 (.int v9) ∧ RI v9 0 39) ∧ SNT u p0 (gd+1) (gh+1) (gg) ∧ True))) ∧ HT cy GG Ps u ∧ FR wr_X10_readOr__9 wa_X10_readOr__9 Ps w0 u) (BB D cy (va_A w0 sz) (fun (u : va_W) => u)) (va_A w0 sz)) 0 0 (va_A w0 sz) := by
  refine Met.ofW (cc := cX10_readOr) (maxL := 2) (ret := (some .boolean)) (by decide) rfl ?_
  intro p e s m args below meth c s₁ B hml hv
  obtain ⟨rfl, hsz, hP, hK, hD0, hSD⟩ := hv
  have hx := B.exec
  have hb := B.bytes
  have hr := B.returns
  have hlocks := B.notSynchronized
  have hts : ∀ w ∈ gT, w.before _ s = true := fun w h => atoms_spec (ws := Cond.code yX10_readOr cX10_readOr 2 (some .boolean) :: gT) B.pre w (List.mem_cons_of_mem _ h)
  have hown : s.vm.findClass RX10 = some m.cls := findClass_of_methodNamed B.named
  subst hsz
  have hD := hD0.self (sz := s.heap.size)
  generalize hAe : va_A w0 s.heap.size = A at hD hSD ⊢
  have hA : ∀ q : Nat, s.heap.size ≤ q → A q := fun q h => by rw [← hAe]; exact Or.inr h
  have hl := lv_entry ([.ref p0]) (n := 2) (Nat.le_of_ble_eq_true rfl)
  rw [lg_entry_eq]
  generalize (lg_sl ([.ref p0]) ++ List.replicate (2 - (lg_sl ([.ref p0])).length) Slot.unset).toArray = ls at hl ⊢
  have hl : lv_has ls 2 [(0, .ref p0)] := hl
  refine nameQ (fun Q hQ => ?_)
  have hw : WD D cy GG A s wr_X10_readOr__9 wa_X10_readOr__9 Ps w0 Ps w0 s.heap [] := ⟨hT, hP, hD, va_S.rf, FR.rf, hT.1, [], (List.append_nil _).symm⟩
  obtain ⟨R9, hR⟩ : ∃ q9 : OS × Int32, f_X10_readOr__9 s0 = q9 := ⟨_, rfl⟩
  have hE := hR
  have B14 : ∀ (nf : Nat) (x1 : Int32) (z0_46 : Int32) (z0_47 : Int32) (z0_48 : Int32) (gz : Int) (s0 : OS) (ws : va_W) (H : Heap) (locs : List Loc) (ls : Array Slot), 21 - gz < (nf : Int) → RI x1 0 39 → RI z0_46 1 20 → FLD ws p0 10 46 (.int z0_46) → RI z0_47 0 0 → FLD ws p0 10 47 (.int z0_47) → RI z0_48 0 39 → FLD ws p0 10 48 (.int z0_48) → (SNL ws p0 (gd+1) (gz) (gg) x1 ∧ gh + 1 ≤ gz) → OV vw_M2 Ps ws p0 s0 → f_X10_readOr__9_14 nf x1 s0 = R9 → WD D cy GG A s wr_X10_readOr__9 wa_X10_readOr__9 Ps w0 Ps ws H locs → lv_has ls 2 [(0, .ref p0), (1, .int x1)] → W p l e (headSpec (Cond.code yX10_readOr cX10_readOr 2 (some .boolean) :: gT) ({ frames := 38, cells := 0, slots := 0, locals := 7600 } : Room)).room s m ([.ref p0] : List Value).toArray below meth c H locs 0 0 Q (F0 m 14 ls []) := by
    intro nf14
    induction nf14 with
    | zero =>
      intro x1 z0_46 z0_47 z0_48 gz s0 ws H locs ls hn14 r_x1 r_z0_46 m_z0_46 r_z0_47 m_z0_47 r_z0_48 m_z0_48 x_SNW_p0_gd_1_gz_gg__1 o_p0 hE hw hl
      exact absurd hn14 (by have q9 := SNL.le x_SNW_p0_gd_1_gz_gg__1.1; omega)
    | succ nf14 ih14 =>
      intro x1 z0_46 z0_47 z0_48 gz s0 ws H locs ls hn14 r_x1 r_z0_46 m_z0_46 r_z0_47 m_z0_47 r_z0_48 m_z0_48 x_SNW_p0_gd_1_gz_gg__1 o_p0 hE hw hl
      have q_z0_46 : s0.1 46 = z0_46 := OV.eqI (V := vw_M2) hw.2.2.1 o_p0 m_z0_46 (by decide)
      have q_z0_47 : s0.1 47 = z0_47 := OV.eqI (V := vw_M2) hw.2.2.1 o_p0 m_z0_47 (by decide)
      have q_z0_48 : s0.1 48 = z0_48 := OV.eqI (V := vw_M2) hw.2.2.1 o_p0 m_z0_48 (by decide)
      refine lv_aload_n hx hb dX10_readOr_14 rfl (lv_at hl 0 rfl) ?_
      refine lv_bipush (v := 16) hx hb dX10_readOr_15 (by decide) ?_
      refine tk_ir (va_runV (As := [.int 16]) (rest := []) ⟨hx, hb, hml, hown, hts⟩ (c_X10_isWord__5 l D cy z H.size Ps ws hw.1 p0 16 s0 h_p0 (rl_16.to (by decide)) o_p0) (cwV 1 hts (gV tw_1318 tw_1320 ts_43 tw_15 tw_1321) rfl rfl rfl (by decide +kernel) ⟨Nat.le_of_ble_eq_true rfl, Nat.le_of_ble_eq_true rfl⟩) (tg_preV hw hK hSD hA (ci := 10) (q := (RX10, TX10, 49)) rfl h_p0 rfl) rfl rfl hl.1 rfl (lv_room (Nat.le_of_ble_eq_true rfl)) dX10_readOr_17 ⟨Nat.le_of_ble_eq_true rfl, Nat.le_of_ble_eq_true rfl⟩) hw hA (fun v_1  H locs hp_v_1 hw => ?_)
      obtain ⟨hfn, hp_v_1⟩ := hp_v_1
      have q_v_1 : (f_X10_isWord__4 (16 : Int32) s0) = v_1 := hfn.1
      have r_v_1 : RI v_1 0 1 := hp_v_1.1
      refine lv_if_eq (tgt := 51) hx hb dX10_readOr_20 (by decide) (fun c_20 => ?_) (fun c_20 => ?_)
      · have r_v_1 : RI v_1 0 0 := rc_eq1 r_v_1 rl_0 (ti_eq c_20) (by decide)
        refine lv_aload_n hx hb dX10_readOr_51 rfl (lv_at hl 0 rfl) ?_
        refine lv_iload_n hx hb dX10_readOr_52 rfl (lv_at hl 1 rfl) ?_
        refine tg_put (ci := 10) (ts := ty_MODEL) (v := .int x1) (ty := .int) (C := RX10) (T := TX10) (N := 49) hx hb hts inX10 tyX10 tyX10_ok nmX10 hown hK hw h_p0 rfl rfl 48 (by decide) (hts _ tw_1185) (fun _ h9 => h9) rfl (by decide +kernel) rfl rfl (ft := vI (-2147483648) 2147483647) rfl ⟨_, rfl, (r_x1.to (by decide))⟩ (by decide) dX10_readOr_53 (fun ws H locs hw n_k_2 hF9 => ?_)
        have m_z0_46 := FLD.over hF9 m_z0_46 (by decide)
        have m_z0_47 := FLD.over hF9 m_z0_47 (by decide)
        have x_SNW_p0_gd_1_gz_gg__1 := SNW.over hF9 x_SNW_p0_gd_1_gz_gg__1 (by decide)
        obtain ⟨sg_3, q_sg_3⟩ : ∃ q9 : OS, sI s0 48 x1 = q9 := ⟨_, rfl⟩
        have o_p0 : OV vw_M2 Ps ws p0 sg_3 := by rw [← q_sg_3]; exact OV.putI (V := vw_M2) hF9 n_k_2 o_p0 (by decide)
        have f6 := SNL.le x_SNW_p0_gd_1_gz_gg__1.1
        have f7 := x_SNW_p0_gd_1_gz_gg__1.2
        have x_SNT_p0_gd_1_gh_1_gg : SNT ws p0 (gd+1) (gh+1) (gg) := (SNL.snt x_SNW_p0_gd_1_gz_gg__1.1 n_k_2).weak (by have d_8 := SNp.le x_SN_p0_gd_gh_gg; omega)
        refine lv_iconst (v := 1) hx hb dX10_readOr_56 (by decide) ?_
        simp only [f_X10_readOr__9_14, ↓reduceIte, q_z0_46, q_z0_47, q_z0_48, q_v_1, eq_true c_20, q_sg_3] at hE
        subst hQ
        exact W.zret (v := 1) hx hb hr (rfl) (fun t ht hW => ⟨⟨1, ws, rfl, ⟨⟨⟨(by rw [hR, ← hE]; exact o_p0), (by rw [hR, ← hE]), trivial⟩, rl_1.to (by decide), (fun h0 => absurd h0 (by decide)), (fun h0 => ⟨⟨_, m_z0_46, r_z0_46⟩, ⟨_, m_z0_47, r_z0_47⟩, ⟨_, n_k_2, r_x1⟩, x_SNT_p0_gd_1_gh_1_gg, trivial⟩)⟩, hw.1, hw.2.2.2.2.1⟩, by rw [ht]; exact hw.2.1, va_K.moved hW.alike hK, hw.2.2.1⟩, hw.2.2.2.1.F ht⟩) hw.2.2.2.1.2.2 dX10_readOr_57
      · have r_v_1 : RI v_1 1 1 := rc_neL r_v_1 rl_0 (ti_ne c_20) (by decide)
        refine lv_aload_n hx hb dX10_readOr_23 rfl (lv_at hl 0 rfl) ?_
        refine tk_v (va_runV (As := []) (rest := []) ⟨hx, hb, hml, hown, hts⟩ (c_X10_go__4 l D cy z H.size Ps ws hw.1 p0 s0 h_p0 o_p0) (cwV 0 hts (gV tw_1298 tw_1300 ts_40 tw_15 tw_1301) rfl rfl rfl (by decide +kernel) ⟨Nat.le_of_ble_eq_true rfl, Nat.le_of_ble_eq_true rfl⟩) (tg_preV hw hK hSD hA (ci := 10) (q := (RX10, TX10, 49)) rfl h_p0 rfl) rfl rfl hl.1 rfl (lv_room (Nat.le_of_ble_eq_true rfl)) dX10_readOr_24 ⟨Nat.le_of_ble_eq_true rfl, Nat.le_of_ble_eq_true rfl⟩) hw hA ⟨by decide, by decide⟩ (fun ws H locs hp_v_4 hw hF9 => ?_)
        have m_z0_46 := FLD.over hF9 m_z0_46 (by decide)
        have m_z0_47 := FLD.over hF9 m_z0_47 (by decide)
        have m_z0_48 := FLD.over hF9 m_z0_48 (by decide)
        have x_SNW_p0_gd_1_gz_gg__1 := SNW.over hF9 x_SNW_p0_gd_1_gz_gg__1 (by decide)
        obtain ⟨hfn, hp_v_4⟩ := hp_v_4
        obtain ⟨sg_5, q_sg_5⟩ : ∃ q9 : OS, (f_X10_go__2 s0) = q9 := ⟨_, rfl⟩
        have o_p0 : OV vw_M2 Ps ws p0 sg_5 := by rw [← q_sg_5]; exact hfn.1
        refine lv_aload_n hx hb dX10_readOr_27 rfl (lv_at hl 0 rfl) ?_
        have f9 := SNL.sn x_SNW_p0_gd_1_gz_gg__1.1
        have f8 := f9.2
        have f7 := x_SNW_p0_gd_1_gz_gg__1.2
        have f6 := SNL.le x_SNW_p0_gd_1_gz_gg__1.1
        have x_SN_p0_gd_1_gz_max_gg__Int32_toInt_x1___1_ : SNp ws p0 (gd+1) (gz) (max gg (Int32.toInt x1 + 1)) := f9.1
        refine tk_i (va_runV (As := []) (rest := []) ⟨hx, hb, hml, hown, hts⟩ (c_X10_readAnd__9 l D cy z H.size Ps ws hw.1 p0 z0_47 (gd+1) (gz) (max gg (Int32.toInt x1 + 1)) sg_5 h_p0 r_z0_47 m_z0_47 x_SN_p0_gd_1_gz_max_gg__Int32_toInt_x1___1_ o_p0) (cwV 0 hts (gV tw_1755 tw_1757 ts_112 tw_15 tw_1758) rfl rfl rfl (by decide +kernel) ⟨Nat.le_of_ble_eq_true rfl, Nat.le_of_ble_eq_true rfl⟩) (tg_preV hw hK hSD hA (ci := 10) (q := (RX10, TX10, 49)) rfl h_p0 rfl) rfl rfl hl.1 rfl (lv_room (Nat.le_of_ble_eq_true rfl)) dX10_readOr_28 ⟨Nat.le_of_ble_eq_true rfl, Nat.le_of_ble_eq_true rfl⟩) hw hA ⟨by decide, by decide⟩ (fun v_6 ws H locs hp_v_6 hw hF9 => ?_)
        obtain ⟨hfn, hp_v_6⟩ := hp_v_6
        obtain ⟨sg_7, q_sg_7⟩ : ∃ q9 : OS, (f_X10_readAnd__9 sg_5).1 = q9 := ⟨_, rfl⟩
        have o_p0 : OV vw_M2 Ps ws p0 sg_7 := by rw [← q_sg_7]; exact hfn.1
        have q_v_6 : (f_X10_readAnd__9 sg_5).2 = v_6 := hfn.2.1
        have r_v_6 : RI v_6 0 1 := hp_v_6.1
        by_cases c9_v_6 : v_6 = 0
        · have r_v_6 : RI v_6 0 0 := by rw [c9_v_6]; exact rl_0
          obtain ⟨v_8, m_v_8, r_v_8⟩ := ((hp_v_6.2.1 c9_v_6).1)
          refine lv_if_ne (tgt := 36) hx hb dX10_readOr_31 (by decide) (fun c_31 => ?_) (fun c_31 => ?_)
          · exact absurd (r_v_6.eq.trans rl_0.eq.symm) ((ti_ne c_31))
          · refine lv_iconst (v := 0) hx hb dX10_readOr_34 (by decide) ?_
            simp only [f_X10_readOr__9_14, ↓reduceIte, q_z0_46, q_z0_47, q_z0_48, q_v_1, eq_false c_20, q_sg_5, q_sg_7, q_v_6, eq_true c9_v_6, eq_true c_31] at hE
            subst hQ
            exact W.zret (v := 0) hx hb hr (rfl) (fun t ht hW => ⟨⟨0, ws, rfl, ⟨⟨⟨(by rw [hR, ← hE]; exact o_p0), (by rw [hR, ← hE]), trivial⟩, rl_0.to (by decide), (fun h0 => ⟨⟨_, m_v_8, r_v_8⟩, trivial⟩), (fun h0 => absurd rfl h0)⟩, hw.1, hw.2.2.2.2.1⟩, by rw [ht]; exact hw.2.1, va_K.moved hW.alike hK, hw.2.2.1⟩, hw.2.2.2.1.F ht⟩) hw.2.2.2.1.2.2 dX10_readOr_35
        · have r_v_6 : RI v_6 1 1 := rc_neL r_v_6 rl_0 (ti_ne c9_v_6) (by decide)
          obtain ⟨v_9, m_v_9, r_v_9⟩ := ((hp_v_6.2.2 c9_v_6).1)
          obtain ⟨v_10, m_v_10, r_v_10⟩ := ((hp_v_6.2.2 c9_v_6).2.1)
          obtain ⟨v_11, m_v_11, r_v_11⟩ := ((hp_v_6.2.2 c9_v_6).2.2.1)
          have x_SNT_p0_gd_2_gz_1_max_gg__Int32_toInt_x1___1_ := ((hp_v_6.2.2 c9_v_6).2.2.2.1)
          refine lv_if_ne (tgt := 36) hx hb dX10_readOr_31 (by decide) (fun c_31 => ?_) (fun c_31 => ?_)
          · refine lv_aload_n hx hb dX10_readOr_36 rfl (lv_at hl 0 rfl) ?_
            refine lv_iconst (v := 3) hx hb dX10_readOr_37 (by decide) ?_
            refine lv_iload_n hx hb dX10_readOr_38 rfl (lv_at hl 1 rfl) ?_
            refine lv_aload_n hx hb dX10_readOr_39 rfl (lv_at hl 0 rfl) ?_
            refine tg_mem (ci := 10) (C := RX10) (T := TX10) (N := 49) hx hb hts inX10 hown hK hw 48 m_v_11 rfl (by decide) (hts _ tw_1185) (fun _ h9 => h9) dX10_readOr_40 ?_
            have q_v_11 : sg_7.1 48 = v_11 := OV.eqI (V := vw_M2) hw.2.2.1 o_p0 m_v_11 (by decide)
            refine lv_iconst (v := 0) hx hb dX10_readOr_43 (by decide) ?_
            have l9 := SNT.top hw x_SNT_p0_gd_2_gz_1_max_gg__Int32_toInt_x1___1_ m_v_11
            have l8 := SNT.sn x_SNT_p0_gd_2_gz_1_max_gg__Int32_toInt_x1___1_
            have x_SNI_p0_gd_1_gz_1_gg : SNI ws p0 (gd+1) (gz+1) (gg) := SNp.sni l8 (by have d_8 := SNp.le x_SN_p0_gd_gh_gg; omega)
            have x_LTN_p0_x1 : LTN ws p0 (x1) := SNp.ltn l8 f8
            have x_LTN_p0_v_11 : LTN ws p0 (v_11) := l9.ltn
            refine tk_i (va_runV (As := [.int 3, .int x1, .int v_11, .int 0]) (rest := []) ⟨hx, hb, hml, hown, hts⟩ (c_X10_saysOne__4 l D cy z H.size Ps ws hw.1 p0 3 x1 v_11 0 (gd+1) (gz+1) (gg) sg_7 h_p0 (rl_3.to (by decide)) (r_x1.to (by decide)) (r_v_11.to (by decide)) (rl_0.to (by decide)) x_SNI_p0_gd_1_gz_1_gg x_LTN_p0_x1 x_LTN_p0_v_11 o_p0) (cwV 4 hts (gV tw_1771 tw_1773 ts_116 tw_15 tw_1774) rfl rfl rfl (by decide +kernel) ⟨Nat.le_of_ble_eq_true rfl, Nat.le_of_ble_eq_true rfl⟩) (tg_preV hw hK hSD hA (ci := 10) (q := (RX10, TX10, 49)) rfl h_p0 rfl) rfl rfl hl.1 rfl (lv_room (Nat.le_of_ble_eq_true rfl)) dX10_readOr_44 ⟨Nat.le_of_ble_eq_true rfl, Nat.le_of_ble_eq_true rfl⟩) hw hA ⟨by decide, by decide⟩ (fun v_12 ws H locs hp_v_12 hw hF9 => ?_)
            have m_v_9 := FLD.over hF9 m_v_9 (by decide)
            have m_v_10 := FLD.over hF9 m_v_10 (by decide)
            have m_v_11 := FLD.over hF9 m_v_11 (by decide)
            obtain ⟨hfn, hp_v_12⟩ := hp_v_12
            obtain ⟨sg_13, q_sg_13⟩ : ∃ q9 : OS, (f_X10_saysOne__3 (3 : Int32) x1 v_11 (0 : Int32) sg_7).1 = q9 := ⟨_, rfl⟩
            have o_p0 : OV vw_M2 Ps ws p0 sg_13 := by rw [← q_sg_13]; exact hfn.1
            have q_v_12 : (f_X10_saysOne__3 (3 : Int32) x1 v_11 (0 : Int32) sg_7).2 = v_12 := hfn.2.1
            have r_v_12 : RI v_12 0 39 := hp_v_12.1
            have x_SNL_p0_gd_1_gz_1_gg_v_12 := hp_v_12.2.2.2.1.1
            refine lv_istore_n (lv' := [(1, .int v_12), (0, .ref p0)]) hx hb dX10_readOr_47 rfl hl (by decide) rfl (fun ls hl => ?_)
            refine lv_goto (tgt := 14) hx hb dX10_readOr_48 (by decide) ?_
            simp only [f_X10_readOr__9_14, ↓reduceIte, q_z0_46, q_z0_47, q_z0_48, q_v_1, eq_false c_20, q_sg_5, q_sg_7, q_v_6, eq_false c9_v_6, eq_false c_31, q_v_11, q_sg_13, q_v_12] at hE
            have x_SNW_p0_gd_1_gz_1_gg_v_12 : (SNL ws p0 (gd+1) (gz+1) (gg) v_12 ∧ gh + 1 ≤ gz+1) := ⟨x_SNL_p0_gd_1_gz_1_gg_v_12, by omega⟩
            exact ih14 v_12 v_9 v_10 v_11 (gz+1) sg_13 ws _ _ ls (by have d_8 := SNp.le x_SN_p0_gd_gh_gg; omega) r_v_12 r_v_9 m_v_9 r_v_10 m_v_10 r_v_11 m_v_11 x_SNW_p0_gd_1_gz_1_gg_v_12 o_p0 hE hw (lv_sub hl [1, 0] rfl)
          · have r_v_6 : RI v_6 1 0 := rc_eq1 r_v_6 rl_0 (ti_eq c_31) (by decide)
            exact (r_v_6.no (by decide)).elim
  refine lv_aload_n hx hb dX10_readOr_0 rfl (lv_at hl 0 rfl) ?_
  refine tk_i (va_runV (As := []) (rest := []) ⟨hx, hb, hml, hown, hts⟩ (c_X10_readAnd__9 l D cy z s.heap.size Ps w0 hw.1 p0 f0_47 (gd) (gh) (gg) s0 h_p0 r_f0_47 m_f0_47 x_SN_p0_gd_gh_gg o_p0) (cwV 0 hts (gV tw_1755 tw_1757 ts_112 tw_15 tw_1758) rfl rfl rfl (by decide +kernel) ⟨Nat.le_of_ble_eq_true rfl, Nat.le_of_ble_eq_true rfl⟩) (tg_preV hw hK hSD hA (ci := 10) (q := (RX10, TX10, 49)) rfl h_p0 rfl) rfl rfl hl.1 rfl (lv_room (Nat.le_of_ble_eq_true rfl)) dX10_readOr_1 ⟨Nat.le_of_ble_eq_true rfl, Nat.le_of_ble_eq_true rfl⟩) hw hA ⟨by decide, by decide⟩ (fun v_14 ws H locs hp_v_14 hw hF9 => ?_)
  obtain ⟨hfn, hp_v_14⟩ := hp_v_14
  obtain ⟨sg_15, q_sg_15⟩ : ∃ q9 : OS, (f_X10_readAnd__9 s0).1 = q9 := ⟨_, rfl⟩
  have o_p0 : OV vw_M2 Ps ws p0 sg_15 := by rw [← q_sg_15]; exact hfn.1
  have q_v_14 : (f_X10_readAnd__9 s0).2 = v_14 := hfn.2.1
  have r_v_14 : RI v_14 0 1 := hp_v_14.1
  by_cases c9_v_14 : v_14 = 0
  · have r_v_14 : RI v_14 0 0 := by rw [c9_v_14]; exact rl_0
    obtain ⟨v_16, m_v_16, r_v_16⟩ := ((hp_v_14.2.1 c9_v_14).1)
    refine lv_if_ne (tgt := 9) hx hb dX10_readOr_4 (by decide) (fun c_4 => ?_) (fun c_4 => ?_)
    · exact absurd (r_v_14.eq.trans rl_0.eq.symm) ((ti_ne c_4))
    · refine lv_iconst (v := 0) hx hb dX10_readOr_7 (by decide) ?_
      simp only [f_X10_readOr__9, ↓reduceIte, q_sg_15, q_v_14, eq_true c9_v_14, eq_true c_4] at hE
      subst hQ
      exact W.zret (v := 0) hx hb hr (rfl) (fun t ht hW => ⟨⟨0, ws, rfl, ⟨⟨⟨(by rw [hR, ← hE]; exact o_p0), (by rw [hR, ← hE]), trivial⟩, rl_0.to (by decide), (fun h0 => ⟨⟨_, m_v_16, r_v_16⟩, trivial⟩), (fun h0 => absurd rfl h0)⟩, hw.1, hw.2.2.2.2.1⟩, by rw [ht]; exact hw.2.1, va_K.moved hW.alike hK, hw.2.2.1⟩, hw.2.2.2.1.F ht⟩) hw.2.2.2.1.2.2 dX10_readOr_8
  · have r_v_14 : RI v_14 1 1 := rc_neL r_v_14 rl_0 (ti_ne c9_v_14) (by decide)
    obtain ⟨v_17, m_v_17, r_v_17⟩ := ((hp_v_14.2.2 c9_v_14).1)
    obtain ⟨v_18, m_v_18, r_v_18⟩ := ((hp_v_14.2.2 c9_v_14).2.1)
    obtain ⟨v_19, m_v_19, r_v_19⟩ := ((hp_v_14.2.2 c9_v_14).2.2.1)
    have x_SNT_p0_gd_1_gh_1_gg := ((hp_v_14.2.2 c9_v_14).2.2.2.1)
    refine lv_if_ne (tgt := 9) hx hb dX10_readOr_4 (by decide) (fun c_4 => ?_) (fun c_4 => ?_)
    · refine lv_aload_n hx hb dX10_readOr_9 rfl (lv_at hl 0 rfl) ?_
      refine tg_mem (ci := 10) (C := RX10) (T := TX10) (N := 49) hx hb hts inX10 hown hK hw 48 m_v_19 rfl (by decide) (hts _ tw_1185) (fun _ h9 => h9) dX10_readOr_10 ?_
      have q_v_19 : sg_15.1 48 = v_19 := OV.eqI (V := vw_M2) hw.2.2.1 o_p0 m_v_19 (by decide)
      refine lv_istore_n (lv' := [(1, .int v_19), (0, .ref p0)]) hx hb dX10_readOr_13 rfl hl (by decide) rfl (fun ls hl => ?_)
      simp only [f_X10_readOr__9, ↓reduceIte, q_sg_15, q_v_14, eq_false c9_v_14, eq_false c_4, q_v_19] at hE
      have x_SNW_p0_gd_1_gh_1_gg_v_19 : (SNL ws p0 (gd+1) (gh+1) (gg) v_19 ∧ gh + 1 ≤ gh+1) := ⟨SNT.top hw x_SNT_p0_gd_1_gh_1_gg m_v_19, by omega⟩
      exact B14 4294967298 v_19 v_17 v_18 v_19 (gh+1) sg_15 ws _ _ ls (by have d_8 := SNp.le x_SN_p0_gd_gh_gg; omega) r_v_19 r_v_17 m_v_17 r_v_18 m_v_18 r_v_19 m_v_19 x_SNW_p0_gd_1_gh_1_gg_v_19 o_p0 hE hw (lv_sub hl [1, 0] rfl)
    · have r_v_14 : RI v_14 1 0 := rc_eq1 r_v_14 rl_0 (ti_eq c_4) (by decide)
      exact (r_v_14.no (by decide)).elim
abbrev wr_X10_sentence__3 : List (Nat × Nat) := [(10, 0), (10, 2), (10, 3), (10, 4), (10, 5), (10, 6), (10, 7), (10, 8), (10, 9), (10, 10), (10, 11), (10, 12), (10, 13), (10, 45), (10, 46), (10, 47), (10, 48)]
abbrev wa_X10_sentence__3 : List Nat := [34, 54]
set_option maxHeartbeats 4000000 in
set_option maxRecDepth 100000 in
theorem c_X10_sentence__3 (l : Launch) (D : va_G) (cy : Nat → ClassId) (z : Nat → Nat) (sz : Nat) (Ps : PSI) (w0 : va_W) (hT : HT cy GG Ps w0) (p0 : Nat) (s0 : OS) (h_p0 : (p0, 55) ∈ Ps) (o_p0 : OV vw_M2 Ps w0 p0 s0) : Met l yX10_sentence (Cond.code yX10_sentence cX10_sentence 2 (some .int) :: gT) ({ frames := 39, cells := 0, slots := 0, locals := 7800 } : Room) (va_Pc [.ref p0] (PRE D cy z w0 sz)) (va_Qi (fun (r : Int32) (u : va_W) => ((OV vw_M2 Ps u p0 ((f_X10_sentence__3 s0).1) ∧ (f_X10_sentence__3 s0).2 = r ∧ True) ∧ (RI r (-2147483648) 2147483647 ∧ (r = 0 → True) ∧ (¬ r = 0 → True) ∧ (TLM u p0 (0) ∧ True) ∧ (r.toInt < 0 → True) ∧ (0 ≤ r.toInt → True))) ∧ HT cy GG Ps u ∧ FR wr_X10_sentence__3 wa_X10_sentence__3 Ps w0 u) (BB D cy (va_A w0 sz) (fun (u : va_W) => u)) (va_A w0 sz)) 0 0 (va_A w0 sz) := by
  refine Met.ofW (cc := cX10_sentence) (maxL := 2) (ret := (some .int)) (by decide) rfl ?_
  intro p e s m args below meth c s₁ B hml hv
  obtain ⟨rfl, hsz, hP, hK, hD0, hSD⟩ := hv
  have hx := B.exec
  have hb := B.bytes
  have hr := B.returns
  have hlocks := B.notSynchronized
  have hts : ∀ w ∈ gT, w.before _ s = true := fun w h => atoms_spec (ws := Cond.code yX10_sentence cX10_sentence 2 (some .int) :: gT) B.pre w (List.mem_cons_of_mem _ h)
  have hown : s.vm.findClass RX10 = some m.cls := findClass_of_methodNamed B.named
  subst hsz
  have hD := hD0.self (sz := s.heap.size)
  generalize hAe : va_A w0 s.heap.size = A at hD hSD ⊢
  have hA : ∀ q : Nat, s.heap.size ≤ q → A q := fun q h => by rw [← hAe]; exact Or.inr h
  have hl := lv_entry ([.ref p0]) (n := 2) (Nat.le_of_ble_eq_true rfl)
  rw [lg_entry_eq]
  generalize (lg_sl ([.ref p0]) ++ List.replicate (2 - (lg_sl ([.ref p0])).length) Slot.unset).toArray = ls at hl ⊢
  have hl : lv_has ls 2 [(0, .ref p0)] := hl
  refine nameQ (fun Q hQ => ?_)
  have hw : WD D cy GG A s wr_X10_sentence__3 wa_X10_sentence__3 Ps w0 Ps w0 s.heap [] := ⟨hT, hP, hD, va_S.rf, FR.rf, hT.1, [], (List.append_nil _).symm⟩
  obtain ⟨R9, hR⟩ : ∃ q9 : OS × Int32, f_X10_sentence__3 s0 = q9 := ⟨_, rfl⟩
  have hE := hR
  have B79 : ∀ (nf : Nat) (x1 : Int32) (z0_2 : Int32) (z0_7 : Int32) (z0_46 : Int32) (z0_47 : Int32) (z0_48 : Int32) (za14 : Nat) (za44 : Nat) (s0 : OS) (ws : va_W) (H : Heap) (locs : List Loc) (ls : Array Slot), 240 - x1.toInt < (nf : Int) → RI x1 0 240 → RI z0_2 0 0 → FLD ws p0 10 2 (.int z0_2) → RI z0_7 0 0 → FLD ws p0 10 7 (.int z0_7) → RI z0_46 1 20 → FLD ws p0 10 46 (.int z0_46) → RI z0_47 0 0 → FLD ws p0 10 47 (.int z0_47) → RI z0_48 0 39 → FLD ws p0 10 48 (.int z0_48) → SNT ws p0 (1) (1) (0) → TLM ws p0 (0) → (za14, 34) ∈ Ps → FLD ws p0 10 14 (.ref za14) → (za44, 54) ∈ Ps → FLD ws p0 10 44 (.ref za44) → AX2 14 34 44 54 (fun f g => CNp x1 f g) Ps ws p0 → OV vw_M2 Ps ws p0 s0 → f_X10_sentence__3_79 nf x1 s0 = R9 → WD D cy (GX za14) A s wr_X10_sentence__3 wa_X10_sentence__3 Ps w0 Ps ws H locs → lv_has ls 2 [(0, .ref p0), (1, .int x1)] → W p l e (headSpec (Cond.code yX10_sentence cX10_sentence 2 (some .int) :: gT) ({ frames := 39, cells := 0, slots := 0, locals := 7800 } : Room)).room s m ([.ref p0] : List Value).toArray below meth c H locs 0 0 Q (F0 m 79 ls []) := by
    intro nf79
    induction nf79 with
    | zero =>
      intro x1 z0_2 z0_7 z0_46 z0_47 z0_48 za14 za44 s0 ws H locs ls hn79 r_x1 r_z0_2 m_z0_2 r_z0_7 m_z0_7 r_z0_46 m_z0_46 r_z0_47 m_z0_47 r_z0_48 m_z0_48 x_SNT_p0_1_1_0 x_TLM_p0_0 h_za14 m_za14 h_za44 m_za44 x_CSE_p0__1 o_p0 hE hw hl
      exact absurd hn79 (by have q0 := r_x1.1; have u0 := r_x1.2; omega)
    | succ nf79 ih79 =>
      intro x1 z0_2 z0_7 z0_46 z0_47 z0_48 za14 za44 s0 ws H locs ls hn79 r_x1 r_z0_2 m_z0_2 r_z0_7 m_z0_7 r_z0_46 m_z0_46 r_z0_47 m_z0_47 r_z0_48 m_z0_48 x_SNT_p0_1_1_0 x_TLM_p0_0 h_za14 m_za14 h_za44 m_za44 x_CSE_p0__1 o_p0 hE hw hl
      have q_z0_2 : s0.1 2 = z0_2 := OV.eqI (V := vw_M2) hw.2.2.1 o_p0 m_z0_2 (by decide)
      have q_z0_7 : s0.1 7 = z0_7 := OV.eqI (V := vw_M2) hw.2.2.1 o_p0 m_z0_7 (by decide)
      have q_z0_46 : s0.1 46 = z0_46 := OV.eqI (V := vw_M2) hw.2.2.1 o_p0 m_z0_46 (by decide)
      have q_z0_47 : s0.1 47 = z0_47 := OV.eqI (V := vw_M2) hw.2.2.1 o_p0 m_z0_47 (by decide)
      have q_z0_48 : s0.1 48 = z0_48 := OV.eqI (V := vw_M2) hw.2.2.1 o_p0 m_z0_48 (by decide)
      refine lv_iload_n hx hb dX10_sentence_79 rfl (lv_at hl 1 rfl) ?_
      refine lv_sipush (v := 240) hx hb dX10_sentence_80 (by decide) ?_
      refine lv_icmp_ge (tgt := 108) hx hb dX10_sentence_83 (by decide) (fun c_83 => ?_) (fun c_83 => ?_)
      · have r_x1 : RI x1 240 240 := rc_le2 rl_240 r_x1 (ti_le c_83) (by decide)
        have hw := WD.back hw h_za14 rfl (fun f9 q9 => by obtain ⟨g9, e9⟩ := AX2.arr hw x_CSE_p0__1 m_za14 f9 q9; exact CN_end e9 (r_x1.to (by decide)))
        refine lv_aload_n hx hb dX10_sentence_108 rfl (lv_at hl 0 rfl) ?_
        refine tg_mem (ci := 10) (C := RX10) (T := TX10) (N := 49) hx hb hts inX10 hown hK hw 46 m_z0_46 rfl (by decide) (hts _ tw_1183) (fun _ h9 => h9) dX10_sentence_109 ?_
        simp only [f_X10_sentence__3_79, ↓reduceIte, q_z0_2, q_z0_7, q_z0_46, q_z0_47, q_z0_48, eq_true c_83] at hE
        subst hQ
        exact W.iret (v := z0_46) hx hb hr (fun t ht hW => ⟨⟨z0_46, ws, rfl, ⟨⟨⟨(by rw [hR, ← hE]; exact o_p0), (by rw [hR, ← hE]), trivial⟩, r_z0_46.to (by decide), (fun _ => trivial), (fun h0 => trivial), ⟨x_TLM_p0_0, trivial⟩, (fun _ => trivial), (fun _ => trivial)⟩, hw.1, hw.2.2.2.2.1⟩, by rw [ht]; exact hw.2.1, va_K.moved hW.alike hK, hw.2.2.1⟩, hw.2.2.2.1.F ht⟩) hw.2.2.2.1.2.2 dX10_sentence_112
      · have r_x1 : RI x1 0 239 := rc_lt1 r_x1 rl_240 (ti_nle c_83) (by decide)
        refine lv_aload_n hx hb dX10_sentence_86 rfl (lv_at hl 0 rfl) ?_
        refine tg_mem (ci := 10) (C := RX10) (T := TX10) (N := 49) hx hb hts inX10 hown hK hw 14 m_za14 rfl (by decide) (hts _ tw_1151) (fun _ h9 => h9) dX10_sentence_87 ?_
        refine lv_sipush (v := 174) hx hb dX10_sentence_90 (by decide) ?_
        refine lv_iload_n hx hb dX10_sentence_93 rfl (lv_at hl 1 rfl) ?_
        refine lv_iadd hx hb dX10_sentence_94 (lv_topi (fun v_1 e_v_1 => ?_))
        obtain ⟨t_v_1, r_v_1⟩ := tq_add (lo := 174) (hi := 413) rl_174 r_x1 (by decide +kernel) e_v_1
        have t_v_1 : v_1.toInt = 174 + x1.toInt := t_v_1
        have q_v_1 : (174 : Int32) + x1 = v_1 := e_v_1.symm
        refine lv_aload_n hx hb dX10_sentence_95 rfl (lv_at hl 0 rfl) ?_
        refine tg_mem (ci := 10) (C := RX10) (T := TX10) (N := 49) hx hb hts inX10 hown hK hw 44 m_za44 rfl (by decide) (hts _ tw_1181) (fun _ h9 => h9) dX10_sentence_96 ?_
        refine lv_iload_n hx hb dX10_sentence_99 rfl (lv_at hl 1 rfl) ?_
        refine tg_iald (lo := (-2147483648)) (hi := 2147483647) hx hb hK hw h_za44 rfl 0 239 r_x1 (by decide) (by exact fun _ _ _ => ⟨Int.le_refl _, Int.le_refl _⟩) dX10_sentence_100 (fun v_2 r_v_2 m_v_2 o_v_2 => ?_)
        have q_v_2 : s0.2.2.1 44 (Int32.toNatClampNeg x1) = v_2 := OV.eqA (V := vw_M2) (t := 54) hw.2.2.1 o_p0 m_za44 m_v_2 (by decide)
        have x_CSEV_p0_x1_x1_v_2 : AX2 14 34 44 54 (fun f g => CNp x1 f g ∧ g (Int32.toNatClampNeg x1) = v_2) Ps ws p0 := AX2.el hw x_CSE_p0__1 m_za44 m_v_2
        have mo9 := m_za14
        have hw8 := hw
        refine tg_iast hx hb hK hw h_za14 rfl 174 413 r_v_1 (by decide) r_v_2 (by decide +kernel) (fun _ _ _ _ _ => Or.inl rfl) (by decide) dX10_sentence_101 (fun ws H locs hw hF9 hU9 => ?_)
        have x_CSET_p0_x1 : AX2 14 34 44 54 (fun f g => ∀ k9 : Int32, k9.toInt = Int32.toInt x1 + 1 → CNp  k9 f g) Ps ws p0 := AX2.ast hF9 hU9 x_CSEV_p0_x1_x1_v_2 m_za14 (by decide) (fun f9 g9 h9 => fun k9 e9 => CN_step h9 (r_x1.to (by decide)) rfl e9 (by have k1 := t_v_1; omega))
        have m_v_2 := AEL.over hw8 hF9 h_za44 m_v_2 (by decide)
        have x_SNT_p0_1_1_0 := SNT.over hF9 x_SNT_p0_1_1_0 (by decide)
        have x_TLM_p0_0 := TLM.over hF9 x_TLM_p0_0 (by decide)
        have m_z0_2 := FLD.over hF9 m_z0_2 (by decide)
        have m_z0_7 := FLD.over hF9 m_z0_7 (by decide)
        have m_z0_46 := FLD.over hF9 m_z0_46 (by decide)
        have m_z0_47 := FLD.over hF9 m_z0_47 (by decide)
        have m_z0_48 := FLD.over hF9 m_z0_48 (by decide)
        have m_za14 := FLD.over hF9 m_za14 (by decide)
        have m_za44 := FLD.over hF9 m_za44 (by decide)
        obtain ⟨sg_3, q_sg_3⟩ : ∃ q9 : OS, sA s0 14 (Int32.toNatClampNeg v_1) v_2 = q9 := ⟨_, rfl⟩
        have o_p0 : OV vw_M2 Ps ws p0 sg_3 := by rw [← q_sg_3]; exact OV.putA (V := vw_M2) (t := 34) hF9 hU9 o_p0 mo9 (by decide) (by decide)
        obtain ⟨v_4, e_v_4⟩ : ∃ q9 : Int32, q9 = x1 + Int32.ofInt 1 := ⟨_, rfl⟩
        obtain ⟨t_v_4, r_v_4⟩ := tq_add (lo := 1) (hi := 240) r_x1 (show RI (Int32.ofInt 1) 1 1 by unfold RI; decide +kernel) (by decide +kernel) e_v_4
        have t_v_4 : v_4.toInt = x1.toInt + 1 := t_v_4
        refine lv_iinc (v := v_4) (lv' := [(1, .int v_4), (0, .ref p0)]) hx hb dX10_sentence_102 hl (k := 1) rfl e_v_4.symm (by decide) rfl (fun ls hl => ?_)
        have q_v_4 : x1 + (1 : Int32) = v_4 := by rw [e_v_4, show Int32.ofInt 1 = (1 : Int32) by decide]
        refine lv_goto (tgt := 79) hx hb dX10_sentence_105 (by decide) ?_
        simp only [f_X10_sentence__3_79, ↓reduceIte, q_z0_2, q_z0_7, q_z0_46, q_z0_47, q_z0_48, eq_false c_83, q_v_1, q_v_2, q_sg_3, q_v_4] at hE
        have x_CSE_p0_v_4 : AX2 14 34 44 54 (fun f g => CNp v_4 f g) Ps ws p0 := AX2.imp x_CSET_p0_x1 (fun f9 g9 h9 => h9 _ t_v_4)
        exact ih79 v_4 z0_2 z0_7 z0_46 z0_47 z0_48 za14 za44 sg_3 ws _ _ ls (by have q0 := r_v_4.1; have u0 := r_v_4.2; have o0 := r_x1.1; have p0 := r_x1.2; omega) (r_v_4.to (by decide)) r_z0_2 m_z0_2 r_z0_7 m_z0_7 r_z0_46 m_z0_46 r_z0_47 m_z0_47 r_z0_48 m_z0_48 x_SNT_p0_1_1_0 x_TLM_p0_0 h_za14 m_za14 h_za44 m_za44 x_CSE_p0_v_4 o_p0 hE hw (lv_sub hl [1, 0] rfl)
  refine lv_aload_n hx hb dX10_sentence_0 rfl (lv_at hl 0 rfl) ?_
  refine lv_sipush (v := 200) hx hb dX10_sentence_1 (by decide) ?_
  refine tk_v (va_runV (As := [.int 200]) (rest := []) ⟨hx, hb, hml, hown, hts⟩ (c_X10_begin__9 l D cy z s.heap.size Ps w0 hw.1 p0 200 s0 h_p0 rl_200 o_p0) (cwV 1 hts (gV tw_1290 tw_1292 ts_38 tw_15 tw_1293) rfl rfl rfl (by decide +kernel) ⟨Nat.le_of_ble_eq_true rfl, Nat.le_of_ble_eq_true rfl⟩) (tg_preV hw hK hSD hA (ci := 10) (q := (RX10, TX10, 49)) rfl h_p0 rfl) rfl rfl hl.1 rfl (lv_room (Nat.le_of_ble_eq_true rfl)) dX10_sentence_4 ⟨Nat.le_of_ble_eq_true rfl, Nat.le_of_ble_eq_true rfl⟩) hw hA ⟨by decide, by decide⟩ (fun ws H locs hp_v_5 hw hF9 => ?_)
  obtain ⟨hfn, hp_v_5⟩ := hp_v_5
  obtain ⟨sg_6, q_sg_6⟩ : ∃ q9 : OS, (f_X10_begin__4 (200 : Int32) s0) = q9 := ⟨_, rfl⟩
  have o_p0 : OV vw_M2 Ps ws p0 sg_6 := by rw [← q_sg_6]; exact hfn.1
  obtain ⟨v_7, m_v_7, r_v_7⟩ := (hp_v_5.1)
  have x_TLM_p0_0 := (hp_v_5.2.1)
  have x_TLM_p0_0 : TLM ws p0 (0) := by obtain ⟨v9, a9, b9⟩ := x_TLM_p0_0; exact ⟨v9, a9, (by omega)⟩
  refine lv_aload_n hx hb dX10_sentence_7 rfl (lv_at hl 0 rfl) ?_
  refine lv_iconst (v := 0) hx hb dX10_sentence_8 (by decide) ?_
  refine tg_put (ci := 10) (ts := ty_MODEL) (v := .int 0) (ty := .int) (C := RX10) (T := TX10) (N := 49) hx hb hts inX10 tyX10 tyX10_ok nmX10 hown hK hw h_p0 rfl rfl 45 (by decide) (hts _ tw_1182) (fun _ h9 => h9) rfl (by decide +kernel) rfl rfl (ft := vI (-2147483648) 2147483647) rfl ⟨_, rfl, (rl_0.to (by decide))⟩ (by decide) dX10_sentence_9 (fun ws H locs hw n_k_8 hF9 => ?_)
  have m_v_7 := FLD.over hF9 m_v_7 (by decide)
  have x_TLM_p0_0 := TLM.over hF9 x_TLM_p0_0 (by decide)
  obtain ⟨sg_9, q_sg_9⟩ : ∃ q9 : OS, sI sg_6 45 (0 : Int32) = q9 := ⟨_, rfl⟩
  have o_p0 : OV vw_M2 Ps ws p0 sg_9 := by rw [← q_sg_9]; exact OV.putI (V := vw_M2) hF9 n_k_8 o_p0 (by decide)
  refine lv_aload_n hx hb dX10_sentence_12 rfl (lv_at hl 0 rfl) ?_
  refine lv_iconst (v := 0) hx hb dX10_sentence_13 (by decide) ?_
  refine tg_put (ci := 10) (ts := ty_MODEL) (v := .int 0) (ty := .int) (C := RX10) (T := TX10) (N := 49) hx hb hts inX10 tyX10 tyX10_ok nmX10 hown hK hw h_p0 rfl rfl 46 (by decide) (hts _ tw_1183) (fun _ h9 => h9) rfl (by decide +kernel) rfl rfl (ft := vI (-2147483648) 2147483647) rfl ⟨_, rfl, (rl_0.to (by decide))⟩ (by decide) dX10_sentence_14 (fun ws H locs hw n_k_10 hF9 => ?_)
  have m_v_7 := FLD.over hF9 m_v_7 (by decide)
  have n_k_8 := FLD.over hF9 n_k_8 (by decide)
  have x_TLM_p0_0 := TLM.over hF9 x_TLM_p0_0 (by decide)
  obtain ⟨sg_11, q_sg_11⟩ : ∃ q9 : OS, sI sg_9 46 (0 : Int32) = q9 := ⟨_, rfl⟩
  have o_p0 : OV vw_M2 Ps ws p0 sg_11 := by rw [← q_sg_11]; exact OV.putI (V := vw_M2) hF9 n_k_10 o_p0 (by decide)
  refine lv_aload_n hx hb dX10_sentence_17 rfl (lv_at hl 0 rfl) ?_
  refine lv_iconst (v := 0) hx hb dX10_sentence_18 (by decide) ?_
  refine tg_put (ci := 10) (ts := ty_MODEL) (v := .int 0) (ty := .int) (C := RX10) (T := TX10) (N := 49) hx hb hts inX10 tyX10 tyX10_ok nmX10 hown hK hw h_p0 rfl rfl 47 (by decide) (hts _ tw_1184) (fun _ h9 => h9) rfl (by decide +kernel) rfl rfl (ft := vI (-2147483648) 2147483647) rfl ⟨_, rfl, (rl_0.to (by decide))⟩ (by decide) dX10_sentence_19 (fun ws H locs hw n_k_12 hF9 => ?_)
  have m_v_7 := FLD.over hF9 m_v_7 (by decide)
  have n_k_8 := FLD.over hF9 n_k_8 (by decide)
  have n_k_10 := FLD.over hF9 n_k_10 (by decide)
  have x_TLM_p0_0 := TLM.over hF9 x_TLM_p0_0 (by decide)
  obtain ⟨sg_13, q_sg_13⟩ : ∃ q9 : OS, sI sg_11 47 (0 : Int32) = q9 := ⟨_, rfl⟩
  have o_p0 : OV vw_M2 Ps ws p0 sg_13 := by rw [← q_sg_13]; exact OV.putI (V := vw_M2) hF9 n_k_12 o_p0 (by decide)
  refine lv_aload_n hx hb dX10_sentence_22 rfl (lv_at hl 0 rfl) ?_
  have x_SN_p0_0_0_0 : SNp ws p0 (0) (0) (0) := ⟨0, 0, n_k_8, n_k_10, by decide⟩
  refine tk_i (va_runV (As := []) (rest := []) ⟨hx, hb, hml, hown, hts⟩ (c_X10_readOr__9 l D cy z H.size Ps ws hw.1 p0 0 (0) (0) (0) sg_13 h_p0 rl_0 n_k_12 x_SN_p0_0_0_0 o_p0) (cwV 0 hts (gV tw_1751 tw_1753 ts_111 tw_15 tw_1754) rfl rfl rfl (by decide +kernel) ⟨Nat.le_of_ble_eq_true rfl, Nat.le_of_ble_eq_true rfl⟩) (tg_preV hw hK hSD hA (ci := 10) (q := (RX10, TX10, 49)) rfl h_p0 rfl) rfl rfl hl.1 rfl (lv_room (Nat.le_of_ble_eq_true rfl)) dX10_sentence_23 ⟨Nat.le_of_ble_eq_true rfl, Nat.le_of_ble_eq_true rfl⟩) hw hA ⟨by decide, by decide⟩ (fun v_14 ws H locs hp_v_14 hw hF9 => ?_)
  have m_v_7 := FLD.over hF9 m_v_7 (by decide)
  have x_TLM_p0_0 := TLM.over hF9 x_TLM_p0_0 (by decide)
  obtain ⟨hfn, hp_v_14⟩ := hp_v_14
  obtain ⟨sg_15, q_sg_15⟩ : ∃ q9 : OS, (f_X10_readOr__9 sg_13).1 = q9 := ⟨_, rfl⟩
  have o_p0 : OV vw_M2 Ps ws p0 sg_15 := by rw [← q_sg_15]; exact hfn.1
  have q_v_14 : (f_X10_readOr__9 sg_13).2 = v_14 := hfn.2.1
  have r_v_14 : RI v_14 0 1 := hp_v_14.1
  by_cases c9_v_14 : v_14 = 0
  · have r_v_14 : RI v_14 0 0 := by rw [c9_v_14]; exact rl_0
    obtain ⟨v_16, m_v_16, r_v_16⟩ := ((hp_v_14.2.1 c9_v_14).1)
    refine lv_if_ne (tgt := 36) hx hb dX10_sentence_26 (by decide) (fun c_26 => ?_) (fun c_26 => ?_)
    · exact absurd (r_v_14.eq.trans rl_0.eq.symm) ((ti_ne c_26))
    · refine lv_iconst (v := (-1)) hx hb dX10_sentence_29 (by decide) ?_
      refine lv_aload_n hx hb dX10_sentence_30 rfl (lv_at hl 0 rfl) ?_
      refine tg_get (ci := 10) (ts := ty_MODEL) (C := RX10) (T := TX10) (N := 49) hx hb hts inX10 hown hK hw h_p0 rfl rfl 11 (by decide) (hts _ tw_1148) (fun _ h9 => h9) (ft := vI (-2147483648) 2147483647) rfl dX10_sentence_31 (fun u_17 hv_u_17 m_u_17 => ?_)
      obtain ⟨vu_17, rfl, r_vu_17⟩ := hv_u_17
      have q_vu_17 : sg_15.1 11 = vu_17 := OV.eqI (V := vw_M2) hw.2.2.1 o_p0 m_u_17 (by decide)
      refine lv_isub hx hb dX10_sentence_34 (lv_topi (fun v_18 e_v_18 => ?_))
      obtain ⟨t_v_18, r_v_18⟩ := tq_sub (lo := (-2147483648)) (hi := 2147483647) rl_m1 r_vu_17 (by decide +kernel) e_v_18
      have t_v_18 : v_18.toInt = (-1) - vu_17.toInt := t_v_18
      have q_v_18 : ((-1) : Int32) - vu_17 = v_18 := e_v_18.symm
      simp only [f_X10_sentence__3, ↓reduceIte, q_sg_6, q_sg_9, q_sg_11, q_sg_13, q_sg_15, q_v_14, eq_true c9_v_14, eq_true c_26, q_vu_17, q_v_18] at hE
      subst hQ
      exact W.iret (v := v_18) hx hb hr (fun t ht hW => ⟨⟨v_18, ws, rfl, ⟨⟨⟨(by rw [hR, ← hE]; exact o_p0), (by rw [hR, ← hE]), trivial⟩, r_v_18.to (by decide), (fun h0 => trivial), (fun h0 => trivial), ⟨x_TLM_p0_0, trivial⟩, (fun _ => trivial), (fun _ => trivial)⟩, hw.1, hw.2.2.2.2.1⟩, by rw [ht]; exact hw.2.1, va_K.moved hW.alike hK, hw.2.2.1⟩, hw.2.2.2.1.F ht⟩) hw.2.2.2.1.2.2 dX10_sentence_35
  · have r_v_14 : RI v_14 1 1 := rc_neL r_v_14 rl_0 (ti_ne c9_v_14) (by decide)
    obtain ⟨v_19, m_v_19, r_v_19⟩ := ((hp_v_14.2.2 c9_v_14).1)
    obtain ⟨v_20, m_v_20, r_v_20⟩ := ((hp_v_14.2.2 c9_v_14).2.1)
    obtain ⟨v_21, m_v_21, r_v_21⟩ := ((hp_v_14.2.2 c9_v_14).2.2.1)
    have x_SNT_p0_1_1_0 := ((hp_v_14.2.2 c9_v_14).2.2.2.1)
    refine lv_if_ne (tgt := 36) hx hb dX10_sentence_26 (by decide) (fun c_26 => ?_) (fun c_26 => ?_)
    · refine lv_aload_n hx hb dX10_sentence_36 rfl (lv_at hl 0 rfl) ?_
      refine tg_get (ci := 10) (ts := ty_MODEL) (C := RX10) (T := TX10) (N := 49) hx hb hts inX10 hown hK hw h_p0 rfl rfl 7 (by decide) (hts _ tw_1144) (fun _ h9 => h9) (ft := vI (-2147483648) 2147483647) rfl dX10_sentence_37 (fun u_22 hv_u_22 m_u_22 => ?_)
      obtain ⟨vu_22, rfl, r_vu_22⟩ := hv_u_22
      have q_vu_22 : sg_15.1 7 = vu_22 := OV.eqI (V := vw_M2) hw.2.2.1 o_p0 m_u_22 (by decide)
      refine lv_if_eq (tgt := 56) hx hb dX10_sentence_40 (by decide) (fun c_40 => ?_) (fun c_40 => ?_)
      · have r_vu_22 : RI vu_22 0 0 := rc_eq1 r_vu_22 rl_0 (ti_eq c_40) (by decide)
        refine lv_aload_n hx hb dX10_sentence_56 rfl (lv_at hl 0 rfl) ?_
        refine tg_get (ci := 10) (ts := ty_MODEL) (C := RX10) (T := TX10) (N := 49) hx hb hts inX10 hown hK hw h_p0 rfl rfl 14 (by decide) (hts _ tw_1151) (fun _ h9 => h9) (ft := vR 34) rfl dX10_sentence_57 (fun u_23 hv_u_23 m_u_23 => ?_)
        obtain ⟨vu_23, rfl, h_vu_23⟩ := hv_u_23
        refine lv_sipush (v := 172) hx hb dX10_sentence_60 (by decide) ?_
        refine lv_iconst (v := 1) hx hb dX10_sentence_63 (by decide) ?_
        have mo9 := m_u_23
        refine tg_iast hx hb hK hw h_vu_23 rfl 172 172 rl_172 (by decide) rl_1 (by decide +kernel) (RN_upd (by decide) (by decide)) (by decide) dX10_sentence_64 (fun ws H locs hw hF9 hU9 => ?_)
        have x_TLM_p0_0 := TLM.over hF9 x_TLM_p0_0 (by decide)
        have x_SNT_p0_1_1_0 := SNT.over hF9 x_SNT_p0_1_1_0 (by decide)
        have m_v_7 := FLD.over hF9 m_v_7 (by decide)
        have m_v_19 := FLD.over hF9 m_v_19 (by decide)
        have m_v_20 := FLD.over hF9 m_v_20 (by decide)
        have m_v_21 := FLD.over hF9 m_v_21 (by decide)
        have m_u_22 := FLD.over hF9 m_u_22 (by decide)
        have m_u_23 := FLD.over hF9 m_u_23 (by decide)
        obtain ⟨sg_24, q_sg_24⟩ : ∃ q9 : OS, sA sg_15 14 (Int32.toNatClampNeg (172 : Int32)) (1 : Int32) = q9 := ⟨_, rfl⟩
        have o_p0 : OV vw_M2 Ps ws p0 sg_24 := by rw [← q_sg_24]; exact OV.putA (V := vw_M2) (t := 34) hF9 hU9 o_p0 mo9 (by decide) (by decide)
        refine lv_aload_n hx hb dX10_sentence_65 rfl (lv_at hl 0 rfl) ?_
        refine tg_mem (ci := 10) (C := RX10) (T := TX10) (N := 49) hx hb hts inX10 hown hK hw 14 m_u_23 rfl (by decide) (hts _ tw_1151) (fun _ h9 => h9) dX10_sentence_66 ?_
        refine lv_sipush (v := 173) hx hb dX10_sentence_69 (by decide) ?_
        refine lv_aload_n hx hb dX10_sentence_72 rfl (lv_at hl 0 rfl) ?_
        refine tg_mem (ci := 10) (C := RX10) (T := TX10) (N := 49) hx hb hts inX10 hown hK hw 48 m_v_21 rfl (by decide) (hts _ tw_1185) (fun _ h9 => h9) dX10_sentence_73 ?_
        have q_v_21 : sg_24.1 48 = v_21 := OV.eqI (V := vw_M2) hw.2.2.1 o_p0 m_v_21 (by decide)
        have r_v_21 : RI v_21 0 39 := SNL.rng (SNT.top hw x_SNT_p0_1_1_0 m_v_21) (by decide)
        have mo9 := m_u_23
        refine tg_iast hx hb hK hw h_vu_23 rfl 173 173 rl_173 (by decide) r_v_21 (by decide +kernel) (RN_upd (by decide) (by decide)) (by decide) dX10_sentence_76 (fun ws H locs hw hF9 hU9 => ?_)
        have x_TLM_p0_0 := TLM.over hF9 x_TLM_p0_0 (by decide)
        have x_SNT_p0_1_1_0 := SNT.over hF9 x_SNT_p0_1_1_0 (by decide)
        have m_v_7 := FLD.over hF9 m_v_7 (by decide)
        have m_v_19 := FLD.over hF9 m_v_19 (by decide)
        have m_v_20 := FLD.over hF9 m_v_20 (by decide)
        have m_v_21 := FLD.over hF9 m_v_21 (by decide)
        have m_u_22 := FLD.over hF9 m_u_22 (by decide)
        have m_u_23 := FLD.over hF9 m_u_23 (by decide)
        obtain ⟨sg_25, q_sg_25⟩ : ∃ q9 : OS, sA sg_24 14 (Int32.toNatClampNeg (173 : Int32)) v_21 = q9 := ⟨_, rfl⟩
        have o_p0 : OV vw_M2 Ps ws p0 sg_25 := by rw [← q_sg_25]; exact OV.putA (V := vw_M2) (t := 34) hF9 hU9 o_p0 mo9 (by decide) (by decide)
        refine lv_iconst (v := 0) hx hb dX10_sentence_77 (by decide) ?_
        refine lv_istore_n (lv' := [(1, .int 0), (0, .ref p0)]) hx hb dX10_sentence_78 rfl hl (by decide) rfl (fun ls hl => ?_)
        simp only [f_X10_sentence__3, ↓reduceIte, q_sg_6, q_sg_9, q_sg_11, q_sg_13, q_sg_15, q_v_14, eq_false c9_v_14, eq_false c_26, q_vu_22, eq_true c_40, q_sg_24, q_v_21, q_sg_25] at hE
        obtain ⟨b_26, m_b_26, h_b_26⟩ := tg_fldR (k := 44) (ci := 10) (ts := ty_MODEL) (u := 54) hw h_p0 rfl rfl
        have x_CSE_p0_0 : AX2 14 34 44 54 (fun f g => CNp 0 f g) Ps ws p0 := AX2.imp (AX.two (ax_of (k := 14) (t := 34) hw h_p0 rfl (fun _ => rfl)) (ax_of (k := 44) (t := 54) hw h_p0 rfl (fun _ => rfl))) (fun f9 g9 h9 => ⟨h9.1.1.1, h9.2.1, fun j9 q9 => absurd q9 (by rw [Int32.toInt_zero]; omega)⟩)
        have hw := WD.weak vu_23 hw
        exact B79 4294967298 0 v_7 vu_22 v_19 v_20 v_21 vu_23 b_26 sg_25 ws _ _ ls (by have q0 := rl_0.1; have u0 := rl_0.2; omega) (rl_0.to (by decide)) r_v_7 m_v_7 r_vu_22 m_u_22 r_v_19 m_v_19 r_v_20 m_v_20 r_v_21 m_v_21 x_SNT_p0_1_1_0 x_TLM_p0_0 h_vu_23 m_u_23 h_b_26 m_b_26 x_CSE_p0_0 o_p0 hE hw (lv_sub hl [1, 0] rfl)
      · refine lv_aload_n hx hb dX10_sentence_43 rfl (lv_at hl 0 rfl) ?_
        refine lv_iconst (v := 1) hx hb dX10_sentence_44 (by decide) ?_
        refine tk_i (va_runV (As := [.int 1]) (rest := []) ⟨hx, hb, hml, hown, hts⟩ (c_X10_bad__2 l D cy z H.size Ps ws hw.1 p0 1 sg_15 h_p0 (rl_1.to (by decide)) o_p0) (cwV 1 hts (gV tw_1336 tw_1338 ts_46 tw_15 tw_1339) rfl rfl rfl (by decide +kernel) ⟨Nat.le_of_ble_eq_true rfl, Nat.le_of_ble_eq_true rfl⟩) (tg_preV hw hK hSD hA (ci := 10) (q := (RX10, TX10, 49)) rfl h_p0 rfl) rfl rfl hl.1 rfl (lv_room (Nat.le_of_ble_eq_true rfl)) dX10_sentence_45 ⟨Nat.le_of_ble_eq_true rfl, Nat.le_of_ble_eq_true rfl⟩) hw hA ⟨by decide, by decide⟩ (fun v_27 ws H locs hp_v_27 hw hF9 => ?_)
        have m_v_7 := FLD.over hF9 m_v_7 (by decide)
        have m_v_19 := FLD.over hF9 m_v_19 (by decide)
        have m_v_20 := FLD.over hF9 m_v_20 (by decide)
        have m_v_21 := FLD.over hF9 m_v_21 (by decide)
        have m_u_22 := FLD.over hF9 m_u_22 (by decide)
        have x_TLM_p0_0 := TLM.over hF9 x_TLM_p0_0 (by decide)
        have x_SNT_p0_1_1_0 := SNT.over hF9 x_SNT_p0_1_1_0 (by decide)
        obtain ⟨hfn, hp_v_27⟩ := hp_v_27
        obtain ⟨sg_28, q_sg_28⟩ : ∃ q9 : OS, (f_X10_bad__1 (1 : Int32) sg_15).1 = q9 := ⟨_, rfl⟩
        have o_p0 : OV vw_M2 Ps ws p0 sg_28 := by rw [← q_sg_28]; exact hfn.1
        have q_v_27 : (f_X10_bad__1 (1 : Int32) sg_15).2 = v_27 := hfn.2.1
        have r_v_27 : RI v_27 0 0 := hp_v_27.1
        refine lv_pop hx hb dX10_sentence_48 rfl ?_
        refine lv_iconst (v := (-1)) hx hb dX10_sentence_49 (by decide) ?_
        refine lv_aload_n hx hb dX10_sentence_50 rfl (lv_at hl 0 rfl) ?_
        refine tg_get (ci := 10) (ts := ty_MODEL) (C := RX10) (T := TX10) (N := 49) hx hb hts inX10 hown hK hw h_p0 rfl rfl 11 (by decide) (hts _ tw_1148) (fun _ h9 => h9) (ft := vI (-2147483648) 2147483647) rfl dX10_sentence_51 (fun u_29 hv_u_29 m_u_29 => ?_)
        obtain ⟨vu_29, rfl, r_vu_29⟩ := hv_u_29
        have q_vu_29 : sg_28.1 11 = vu_29 := OV.eqI (V := vw_M2) hw.2.2.1 o_p0 m_u_29 (by decide)
        refine lv_isub hx hb dX10_sentence_54 (lv_topi (fun v_30 e_v_30 => ?_))
        obtain ⟨t_v_30, r_v_30⟩ := tq_sub (lo := (-2147483648)) (hi := 2147483647) rl_m1 r_vu_29 (by decide +kernel) e_v_30
        have t_v_30 : v_30.toInt = (-1) - vu_29.toInt := t_v_30
        have q_v_30 : ((-1) : Int32) - vu_29 = v_30 := e_v_30.symm
        simp only [f_X10_sentence__3, ↓reduceIte, q_sg_6, q_sg_9, q_sg_11, q_sg_13, q_sg_15, q_v_14, eq_false c9_v_14, eq_false c_26, q_vu_22, eq_false c_40, q_sg_28, q_v_27, q_vu_29, q_v_30] at hE
        subst hQ
        exact W.iret (v := v_30) hx hb hr (fun t ht hW => ⟨⟨v_30, ws, rfl, ⟨⟨⟨(by rw [hR, ← hE]; exact o_p0), (by rw [hR, ← hE]), trivial⟩, r_v_30.to (by decide), (fun h0 => trivial), (fun h0 => trivial), ⟨x_TLM_p0_0, trivial⟩, (fun _ => trivial), (fun _ => trivial)⟩, hw.1, hw.2.2.2.2.1⟩, by rw [ht]; exact hw.2.1, va_K.moved hW.alike hK, hw.2.2.1⟩, hw.2.2.2.1.F ht⟩) hw.2.2.2.1.2.2 dX10_sentence_55
    · have r_v_14 : RI v_14 1 0 := rc_eq1 r_v_14 rl_0 (ti_eq c_26) (by decide)
      exact (r_v_14.no (by decide)).elim
