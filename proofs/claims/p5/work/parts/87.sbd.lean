abbrev wr_X10_readBookLine__1 : List (Nat × Nat) := [(10, 5), (10, 6), (10, 7), (10, 8), (10, 9), (10, 10), (10, 11), (10, 12), (10, 13)]
abbrev wa_X10_readBookLine__1 : List Nat := [52]
set_option maxHeartbeats 4000000 in
set_option maxRecDepth 100000 in
theorem c_X10_readBookLine__1 (l : Launch) (D : va_G) (cy : Nat → ClassId) (z : Nat → Nat) (sz : Nat) (Ps : PSI) (w0 : va_W) (hT : HT cy GG Ps w0) (p0 : Nat) (s0 : OS) (h_p0 : (p0, 55) ∈ Ps) (x_LNS_p0 : LNS Ps w0 p0) (o_p0 : OV vw_M5 Ps w0 p0 s0) : Met l yX10_readBookLine (Cond.code yX10_readBookLine cX10_readBookLine 6 (some .boolean) :: gT) ({ frames := 7, cells := 0, slots := 0, locals := 1400 } : Room) (va_Pc [.ref p0] (PRE D cy z w0 sz)) (va_Qi (fun (r : Int32) (u : va_W) => ((OV vw_M5 Ps u p0 ((f_X10_readBookLine__1 s0).1) ∧ (f_X10_readBookLine__1 s0).2 = r ∧ True) ∧ (RI r 0 1 ∧ (r = 0 → True) ∧ (¬ r = 0 → (∃ v9 : Int32, FLD u p0 10 42 (.int v9) ∧ RI v9 0 39) ∧ LNG Ps u p0 ∧ True))) ∧ HT cy GG Ps u ∧ FR wr_X10_readBookLine__1 wa_X10_readBookLine__1 Ps w0 u) (BB D cy (va_A w0 sz) (fun (u : va_W) => u)) (va_A w0 sz)) 0 0 (va_A w0 sz) := by
  refine Met.ofW (cc := cX10_readBookLine) (maxL := 6) (ret := (some .boolean)) (by decide) rfl ?_
  intro p e s m args below meth c s₁ B hml hv
  obtain ⟨rfl, hsz, hP, hK, hD0, hSD⟩ := hv
  have hx := B.exec
  have hb := B.bytes
  have hr := B.returns
  have hlocks := B.notSynchronized
  have hts : ∀ w ∈ gT, w.before _ s = true := fun w h => atoms_spec (ws := Cond.code yX10_readBookLine cX10_readBookLine 6 (some .boolean) :: gT) B.pre w (List.mem_cons_of_mem _ h)
  have hown : s.vm.findClass RX10 = some m.cls := findClass_of_methodNamed B.named
  subst hsz
  have hD := hD0.self (sz := s.heap.size)
  generalize hAe : va_A w0 s.heap.size = A at hD hSD ⊢
  have hA : ∀ q : Nat, s.heap.size ≤ q → A q := fun q h => by rw [← hAe]; exact Or.inr h
  have hl := lv_entry ([.ref p0]) (n := 6) (Nat.le_of_ble_eq_true rfl)
  rw [lg_entry_eq]
  generalize (lg_sl ([.ref p0]) ++ List.replicate (6 - (lg_sl ([.ref p0])).length) Slot.unset).toArray = ls at hl ⊢
  have hl : lv_has ls 6 [(0, .ref p0)] := hl
  refine nameQ (fun Q hQ => ?_)
  have hw : WD D cy GG A s wr_X10_readBookLine__1 wa_X10_readBookLine__1 Ps w0 Ps w0 s.heap [] := ⟨hT, hP, hD, va_S.rf, FR.rf, hT.1, [], (List.append_nil _).symm⟩
  obtain ⟨R9, hR⟩ : ∃ q9 : OS × Int32, f_X10_readBookLine__1 s0 = q9 := ⟨_, rfl⟩
  have hE := hR
  refine lv_aload_n hx hb dX10_readBookLine_0 rfl (lv_at hl 0 rfl) ?_
  refine lv_bipush (v := 13) hx hb dX10_readBookLine_1 (by decide) ?_
  refine tk_ir (va_runV (As := [.int 13]) (rest := []) ⟨hx, hb, hml, hown, hts⟩ (c_X10_isWord__6 l D cy z s.heap.size Ps w0 hw.1 p0 13 s0 h_p0 rl_13 o_p0) (cwV 1 hts (gV tw_1318 tw_1320 ts_43 tw_15 tw_1321) rfl rfl rfl (by decide +kernel) ⟨Nat.le_of_ble_eq_true rfl, Nat.le_of_ble_eq_true rfl⟩) (tg_preV hw hK hSD hA (ci := 10) (q := (RX10, TX10, 49)) rfl h_p0 rfl) rfl rfl hl.1 rfl (lv_room (Nat.le_of_ble_eq_true rfl)) dX10_readBookLine_3 ⟨Nat.le_of_ble_eq_true rfl, Nat.le_of_ble_eq_true rfl⟩) hw hA (fun v_1  H locs hp_v_1 hw => ?_)
  obtain ⟨hfn, hp_v_1⟩ := hp_v_1
  have q_v_1 : (f_X10_isWord__6 (13 : Int32) s0) = v_1 := hfn.1
  have r_v_1 : RI v_1 0 1 := hp_v_1.1
  by_cases c9_v_1 : v_1 = 0
  · have r_v_1 : RI v_1 0 0 := by rw [c9_v_1]; exact rl_0
    refine lv_istore_n (lv' := [(1, .int v_1), (0, .ref p0)]) hx hb dX10_readBookLine_6 rfl hl (by decide) rfl (fun ls hl => ?_)
    refine lv_aload_n hx hb dX10_readBookLine_7 rfl (lv_at hl 1 rfl) ?_
    refine lv_bipush (v := 14) hx hb dX10_readBookLine_8 (by decide) ?_
    refine tk_ir (va_runV (As := [.int 14]) (rest := []) ⟨hx, hb, hml, hown, hts⟩ (c_X10_isWord__7 l D cy z H.size Ps w0 hw.1 p0 14 s0 h_p0 rl_14 o_p0) (cwV 1 hts (gV tw_1318 tw_1320 ts_43 tw_15 tw_1321) rfl rfl rfl (by decide +kernel) ⟨Nat.le_of_ble_eq_true rfl, Nat.le_of_ble_eq_true rfl⟩) (tg_preV hw hK hSD hA (ci := 10) (q := (RX10, TX10, 49)) rfl h_p0 rfl) rfl rfl hl.1 rfl (lv_room (Nat.le_of_ble_eq_true rfl)) dX10_readBookLine_10 ⟨Nat.le_of_ble_eq_true rfl, Nat.le_of_ble_eq_true rfl⟩) hw hA (fun v_2  H locs hp_v_2 hw => ?_)
    obtain ⟨hfn, hp_v_2⟩ := hp_v_2
    have q_v_2 : (f_X10_isWord__7 (14 : Int32) s0) = v_2 := hfn.1
    have r_v_2 : RI v_2 0 1 := hp_v_2.1
    by_cases c9_v_2 : v_2 = 0
    · have r_v_2 : RI v_2 0 0 := by rw [c9_v_2]; exact rl_0
      refine lv_istore_n (lv' := [(2, .int v_2), (1, .int v_1), (0, .ref p0)]) hx hb dX10_readBookLine_13 rfl hl (by decide) rfl (fun ls hl => ?_)
      refine lv_aload_n hx hb dX10_readBookLine_14 rfl (lv_at hl 2 rfl) ?_
      refine lv_bipush (v := 15) hx hb dX10_readBookLine_15 (by decide) ?_
      refine tk_ir (va_runV (As := [.int 15]) (rest := []) ⟨hx, hb, hml, hown, hts⟩ (c_X10_isWord__8 l D cy z H.size Ps w0 hw.1 p0 15 s0 h_p0 rl_15 o_p0) (cwV 1 hts (gV tw_1318 tw_1320 ts_43 tw_15 tw_1321) rfl rfl rfl (by decide +kernel) ⟨Nat.le_of_ble_eq_true rfl, Nat.le_of_ble_eq_true rfl⟩) (tg_preV hw hK hSD hA (ci := 10) (q := (RX10, TX10, 49)) rfl h_p0 rfl) rfl rfl hl.1 rfl (lv_room (Nat.le_of_ble_eq_true rfl)) dX10_readBookLine_17 ⟨Nat.le_of_ble_eq_true rfl, Nat.le_of_ble_eq_true rfl⟩) hw hA (fun v_3  H locs hp_v_3 hw => ?_)
      obtain ⟨hfn, hp_v_3⟩ := hp_v_3
      have q_v_3 : (f_X10_isWord__8 (15 : Int32) s0) = v_3 := hfn.1
      have r_v_3 : RI v_3 0 1 := hp_v_3.1
      by_cases c9_v_3 : v_3 = 0
      · have r_v_3 : RI v_3 0 0 := by rw [c9_v_3]; exact rl_0
        refine lv_istore_n (lv' := [(3, .int v_3), (2, .int v_2), (1, .int v_1), (0, .ref p0)]) hx hb dX10_readBookLine_20 rfl hl (by decide) rfl (fun ls hl => ?_)
        refine lv_iload_n hx hb dX10_readBookLine_21 rfl (lv_at hl 2 rfl) ?_
        refine lv_if_ne (tgt := 37) hx hb dX10_readBookLine_22 (by decide) (fun c_22 => ?_) (fun c_22 => ?_)
        · exact absurd (r_v_1.eq.trans rl_0.eq.symm) ((ti_ne c_22))
        · refine lv_iload_n hx hb dX10_readBookLine_25 rfl (lv_at hl 1 rfl) ?_
          refine lv_if_ne (tgt := 37) hx hb dX10_readBookLine_26 (by decide) (fun c_26 => ?_) (fun c_26 => ?_)
          · exact absurd (r_v_2.eq.trans rl_0.eq.symm) ((ti_ne c_26))
          · refine lv_iload_n hx hb dX10_readBookLine_29 rfl (lv_at hl 0 rfl) ?_
            refine lv_if_ne (tgt := 37) hx hb dX10_readBookLine_30 (by decide) (fun c_30 => ?_) (fun c_30 => ?_)
            · exact absurd (r_v_3.eq.trans rl_0.eq.symm) ((ti_ne c_30))
            · refine lv_iconst (v := 1) hx hb dX10_readBookLine_33 (by decide) ?_
              refine lv_goto (tgt := 38) hx hb dX10_readBookLine_34 (by decide) ?_
              refine lv_istore (lv' := [(4, .int 1), (3, .int v_3), (2, .int v_2), (1, .int v_1), (0, .ref p0)]) hx hb dX10_readBookLine_38 hl (by decide) rfl (fun ls hl => ?_)
              refine lv_iload hx hb dX10_readBookLine_40 (lv_at hl 0 rfl) ?_
              refine lv_if_eq (tgt := 87) hx hb dX10_readBookLine_42 (by decide) (fun c9 => absurd c9 (by decide)) (fun _ => ?_)
              refine lv_aload_n hx hb dX10_readBookLine_45 rfl (lv_at hl 4 rfl) ?_
              refine tk_ir (va_runV (As := []) (rest := []) ⟨hx, hb, hml, hown, hts⟩ (c_X10_isName__3 l D cy z H.size Ps w0 hw.1 p0 s0 h_p0 o_p0) (cwV 0 hts (gV tw_1344 tw_1346 ts_48 tw_15 tw_1347) rfl rfl rfl (by decide +kernel) ⟨Nat.le_of_ble_eq_true rfl, Nat.le_of_ble_eq_true rfl⟩) (tg_preV hw hK hSD hA (ci := 10) (q := (RX10, TX10, 49)) rfl h_p0 rfl) rfl rfl hl.1 rfl (lv_room (Nat.le_of_ble_eq_true rfl)) dX10_readBookLine_46 ⟨Nat.le_of_ble_eq_true rfl, Nat.le_of_ble_eq_true rfl⟩) hw hA (fun v_4  H locs hp_v_4 hw => ?_)
              obtain ⟨hfn, hp_v_4⟩ := hp_v_4
              have q_v_4 : (f_X10_isName__1 s0) = v_4 := hfn.1
              have r_v_4 : RI v_4 0 1 := hp_v_4.1
              refine lv_if_ne (tgt := 58) hx hb dX10_readBookLine_49 (by decide) (fun c_49 => ?_) (fun c_49 => ?_)
              · have r_v_4 : RI v_4 1 1 := rc_neL r_v_4 rl_0 (ti_ne c_49) (by decide)
                refine lv_aload_n hx hb dX10_readBookLine_58 rfl (lv_at hl 4 rfl) ?_
                refine tg_get (ci := 10) (ts := ty_MODEL) (C := RX10) (T := TX10) (N := 49) hx hb hts inX10 hown hK hw h_p0 rfl rfl 20 (by decide) (hts _ tw_1157) (fun _ h9 => h9) (ft := vR 41) rfl dX10_readBookLine_59 (fun u_5 hv_u_5 m_u_5 => ?_)
                obtain ⟨vu_5, rfl, h_vu_5⟩ := hv_u_5
                refine lv_bipush (v := 16) hx hb dX10_readBookLine_62 (by decide) ?_
                refine lv_aload_n hx hb dX10_readBookLine_64 rfl (lv_at hl 4 rfl) ?_
                refine tg_get (ci := 10) (ts := ty_MODEL) (C := RX10) (T := TX10) (N := 49) hx hb hts inX10 hown hK hw h_p0 rfl rfl 14 (by decide) (hts _ tw_1151) (fun _ h9 => h9) (ft := vR 34) rfl dX10_readBookLine_65 (fun u_6 hv_u_6 m_u_6 => ?_)
                obtain ⟨vu_6, rfl, h_vu_6⟩ := hv_u_6
                refine lv_iconst (v := 3) hx hb dX10_readBookLine_68 (by decide) ?_
                refine tg_iald (lo := 0) (hi := 8) hx hb hK hw h_vu_6 rfl 3 3 rl_3 (by decide) (by decide +kernel) dX10_readBookLine_69 (fun v_7 r_v_7 m_v_7 o_v_7 => ?_)
                have q_v_7 : s0.2.2.1 14 (Int32.toNatClampNeg (3 : Int32)) = v_7 := OV.eqA (V := vw_M5) (t := 34) hw.2.2.1 o_p0 m_u_6 m_v_7 (by decide)
                refine lv_aload_n hx hb dX10_readBookLine_70 rfl (lv_at hl 4 rfl) ?_
                refine tg_get (ci := 10) (ts := ty_MODEL) (C := RX10) (T := TX10) (N := 49) hx hb hts inX10 hown hK hw h_p0 rfl rfl 12 (by decide) (hts _ tw_1149) (fun _ h9 => h9) (ft := vJ (-9223372036854775808) 9223372036854775807) rfl dX10_readBookLine_71 (fun u_8 hv_u_8 m_u_8 => ?_)
                obtain ⟨vu_8, rfl, r_vu_8⟩ := hv_u_8
                have q_vu_8 : s0.2.1 12 = vu_8 := OV.eqL (V := vw_M5) hw.2.2.1 o_p0 m_u_8 (by decide)
                have oa_vu_5 := OV.arrB (V := vw_M5) (t := 41) hw.2.2.1 o_p0 m_u_5 (by decide)
                have mo9_vu_5 := And.intro hw.2.2.1 m_u_5
                refine tk_ir (va_runS (As := [.ref vu_5, .int 16, .int v_7, .long vu_8]) (rest := []) ⟨hx, hb, hml, hown, hts⟩ (c_X10_findIn__15 l D cy z H.size Ps w0 hw.1 vu_5 16 v_7 vu_8 (s0.2.2.2 20) h_vu_5 rl_16 r_v_7 r_vu_8 oa_vu_5) (va_cwS 4 hts (gS tw_1352 tw_1353 tw_15 tw_1354) rfl rfl rfl (by decide +kernel) ⟨Nat.le_of_ble_eq_true rfl, Nat.le_of_ble_eq_true rfl⟩) (tg_preS hw hK hSD hA) rfl rfl hl.1 rfl (lv_room (Nat.le_of_ble_eq_true rfl)) dX10_readBookLine_74 ⟨Nat.le_of_ble_eq_true rfl, Nat.le_of_ble_eq_true rfl⟩) hw hA (fun v_9  H locs hp_v_9 hw => ?_)
                obtain ⟨hfn, hp_v_9⟩ := hp_v_9
                have q_v_9 : (f_X10_findIn__9 (16 : Int32) v_7 vu_8 (s0.2.2.2 20)) = v_9 := hfn.1
                have r_v_9 : RI v_9 (-1) 7 := hp_v_9.1
                by_cases c9_v_9 : v_9.toInt < 0
                · have r_v_9 : RI v_9 (-1) (-1) := by unfold RI at r_v_9 ⊢; omega
                  have x_NF_vu_5_16_v_7_vu_8 := (hp_v_9.2.2.2.2.1 (by omega)).1
                  refine lv_iconst (v := (-1)) hx hb dX10_readBookLine_77 (by decide) ?_
                  refine lv_icmp_ne (tgt := 87) hx hb dX10_readBookLine_78 (by decide) (fun c_78 => ?_) (fun c_78 => ?_)
                  · exact absurd (r_v_9.eq.trans rl_m1.eq.symm) ((ti_ne c_78))
                  · refine lv_aload_n hx hb dX10_readBookLine_81 rfl (lv_at hl 4 rfl) ?_
                    refine lv_iconst (v := 3) hx hb dX10_readBookLine_82 (by decide) ?_
                    have hw8 := hw
                    refine tk_i (va_runV (As := [.int 3]) (rest := []) ⟨hx, hb, hml, hown, hts⟩ (c_X10_bad__3 l D cy z H.size Ps w0 hw.1 p0 3 s0 h_p0 (rl_3.to (by decide)) o_p0) (cwV 1 hts (gV tw_1336 tw_1338 ts_46 tw_15 tw_1339) rfl rfl rfl (by decide +kernel) ⟨Nat.le_of_ble_eq_true rfl, Nat.le_of_ble_eq_true rfl⟩) (tg_preV hw hK hSD hA (ci := 10) (q := (RX10, TX10, 49)) rfl h_p0 rfl) rfl rfl hl.1 rfl (lv_room (Nat.le_of_ble_eq_true rfl)) dX10_readBookLine_83 ⟨Nat.le_of_ble_eq_true rfl, Nat.le_of_ble_eq_true rfl⟩) hw hA ⟨by decide, by decide⟩ (fun v_10 ws H locs hp_v_10 hw hF9 => ?_)
                    have m_v_7 := AEL.over hw8 hF9 h_vu_6 m_v_7 (by decide)
                    have m_u_5 := FLD.over hF9 m_u_5 (by decide)
                    have m_u_6 := FLD.over hF9 m_u_6 (by decide)
                    have m_u_8 := FLD.over hF9 m_u_8 (by decide)
                    have x_LNS_p0 := LNS.over hF9 x_LNS_p0 (by decide)
                    have x_NF_vu_5_16_v_7_vu_8 := NFD.over hw8 hF9 h_vu_5 x_NF_vu_5_16_v_7_vu_8 (by decide)
                    obtain ⟨hfn, hp_v_10⟩ := hp_v_10
                    obtain ⟨sg_11, q_sg_11⟩ : ∃ q9 : OS, (f_X10_bad__1 (3 : Int32) s0).1 = q9 := ⟨_, rfl⟩
                    have o_p0 : OV vw_M5 Ps ws p0 sg_11 := by rw [← q_sg_11]; exact hfn.1
                    have q_v_10 : (f_X10_bad__1 (3 : Int32) s0).2 = v_10 := hfn.2.1
                    have r_v_10 : RI v_10 0 0 := hp_v_10.1
                    simp only [f_X10_readBookLine__1, ↓reduceIte, q_v_1, eq_true c9_v_1, q_v_2, eq_true c9_v_2, q_v_3, eq_true c9_v_3, eq_true c_22, eq_true c_26, eq_true c_30, q_v_4, eq_false c_49, q_v_7, q_vu_8, q_v_9, eq_true c9_v_9, eq_true c_78, q_sg_11, q_v_10] at hE
                    subst hQ
                    exact W.zret (v := v_10) hx hb hr (tq_nz (r_v_10.to (by decide))) (fun t ht hW => ⟨⟨v_10, ws, rfl, ⟨⟨⟨(by rw [hR, ← hE]; exact o_p0), (by rw [hR, ← hE]), trivial⟩, r_v_10.to (by decide), (fun h0 => trivial), (fun h0 => absurd (Int32.toInt_inj.mp (by have h8 := r_v_10; unfold RI at h8; rw [Int32.toInt_zero]; omega)) h0)⟩, hw.1, hw.2.2.2.2.1⟩, by rw [ht]; exact hw.2.1, va_K.moved hW.alike hK, hw.2.2.1⟩, hw.2.2.2.1.F ht⟩) hw.2.2.2.1.2.2 dX10_readBookLine_86
                · have r_v_9 : RI v_9 0 7 := by unfold RI at r_v_9 ⊢; omega
                  have x_FD_vu_5_16_v_7_vu_8 := (hp_v_9.2.2.2.2.2 (by omega)).1
                  have x_POS_v_7 := (hp_v_9.2.2.2.2.2 (by omega)).2.1
                  have r_v_7 : RI v_7 1 8 := ⟨x_POS_v_7, r_v_7.2⟩
                  refine lv_iconst (v := (-1)) hx hb dX10_readBookLine_77 (by decide) ?_
                  refine lv_icmp_ne (tgt := 87) hx hb dX10_readBookLine_78 (by decide) (fun c_78 => ?_) (fun c_78 => ?_)
                  · refine lv_aload_n hx hb dX10_readBookLine_87 rfl (lv_at hl 4 rfl) ?_
                    refine tg_get (ci := 10) (ts := ty_MODEL) (C := RX10) (T := TX10) (N := 49) hx hb hts inX10 hown hK hw h_p0 rfl rfl 42 (by decide) (hts _ tw_1179) (fun _ h9 => h9) (ft := vI 0 40) rfl dX10_readBookLine_88 (fun u_12 hv_u_12 m_u_12 => ?_)
                    obtain ⟨vu_12, rfl, r_vu_12⟩ := hv_u_12
                    have q_vu_12 : s0.1 42 = vu_12 := OV.eqI (V := vw_M5) hw.2.2.1 o_p0 m_u_12 (by decide)
                    refine lv_bipush (v := 40) hx hb dX10_readBookLine_91 (by decide) ?_
                    refine lv_icmp_ne (tgt := 102) hx hb dX10_readBookLine_93 (by decide) (fun c_93 => ?_) (fun c_93 => ?_)
                    · have r_vu_12 : RI vu_12 0 39 := rc_neU r_vu_12 rl_40 (ti_ne c_93) (by decide)
                      refine lv_iconst (v := 3) hx hb dX10_readBookLine_102 (by decide) ?_
                      refine lv_aload_n hx hb dX10_readBookLine_103 rfl (lv_at hl 4 rfl) ?_
                      refine tg_mem (ci := 10) (C := RX10) (T := TX10) (N := 49) hx hb hts inX10 hown hK hw 42 m_u_12 rfl (by decide) (hts _ tw_1179) (fun _ h9 => h9) dX10_readBookLine_104 ?_
                      refine lv_imul hx hb dX10_readBookLine_107 (lv_topi (fun v_13 e_v_13 => ?_))
                      obtain ⟨t_v_13, r_v_13⟩ := tq_mul (lo := 0) (hi := 117) rl_3 r_vu_12 (by decide +kernel) e_v_13
                      have t_v_13 : v_13.toInt = 3 * vu_12.toInt := t_v_13
                      have q_v_13 : (3 : Int32) * vu_12 = v_13 := e_v_13.symm
                      refine lv_istore (lv' := [(5, .int v_13), (4, .int 1), (3, .int v_3), (2, .int v_2), (1, .int v_1), (0, .ref p0)]) hx hb dX10_readBookLine_108 hl (by decide) rfl (fun ls hl => ?_)
                      have x_OL_p0_v_13 : AX 40 52 (fun f => OLp f v_13) Ps w0 p0 := LNS.ol hw x_LNS_p0 m_u_12 (by have k1 := t_v_13; omega)
                      have x_MUL3_v_13 : (∃ n : Int, Int32.toInt v_13 = 3 * n) := ⟨vu_12.toInt, by have k1 := t_v_13; omega⟩
                      have g_at := x_MUL3_v_13
                      have x_LE_p0_v_13_0_0_60 : AX 40 52 (fun f => 0 ≤ (f (Int32.toNatClampNeg v_13)).toInt ∧ (f (Int32.toNatClampNeg v_13)).toInt ≤ 60) Ps w0 p0 := AX.imp (ax_of (k := 40) (t := 52) hw h_p0 rfl (fun _ => rfl)) (fun f9 h9 => h9.2 _ (by have k1 := r_v_13.cl (by decide); have k2 := r_v_13.2; omega))
                      have x_LE_p0_v_13_1_0_60 : AX 40 52 (fun f => 0 ≤ (f (Int32.toNatClampNeg v_13 + 1)).toInt ∧ (f (Int32.toNatClampNeg v_13 + 1)).toInt ≤ 60) Ps w0 p0 := AX.imp (ax_of (k := 40) (t := 52) hw h_p0 rfl (fun _ => rfl)) (fun f9 h9 => h9.2 _ (by have k1 := r_v_13.cl (by decide); have k2 := r_v_13.2; omega))
                      have x_LE_p0_v_13_2_0_60 : AX 40 52 (fun f => 0 ≤ (f (Int32.toNatClampNeg v_13 + 2)).toInt ∧ (f (Int32.toNatClampNeg v_13 + 2)).toInt ≤ 60) Ps w0 p0 := AX.imp (ax_of (k := 40) (t := 52) hw h_p0 rfl (fun _ => rfl)) (fun f9 h9 => h9.2 _ (by have k1 := r_v_13.cl (by decide); have k2 := r_v_13.2; omega))
                      refine lv_aload_n hx hb dX10_readBookLine_110 rfl (lv_at hl 5 rfl) ?_
                      refine tg_get (ci := 10) (ts := ty_MODEL) (C := RX10) (T := TX10) (N := 49) hx hb hts inX10 hown hK hw h_p0 rfl rfl 40 (by decide) (hts _ tw_1177) (fun _ h9 => h9) (ft := vR 52) rfl dX10_readBookLine_111 (fun u_14 hv_u_14 m_u_14 => ?_)
                      obtain ⟨vu_14, rfl, h_vu_14⟩ := hv_u_14
                      refine lv_iload hx hb dX10_readBookLine_114 (lv_at hl 0 rfl) ?_
                      refine lv_iload_n hx hb dX10_readBookLine_116 rfl (lv_at hl 4 rfl) ?_
                      refine lv_if_eq (tgt := 124) hx hb dX10_readBookLine_117 (by decide) (fun c_117 => ?_) (fun c_117 => ?_)
                      · refine lv_iload_n hx hb dX10_readBookLine_124 rfl (lv_at hl 3 rfl) ?_
                        refine lv_if_eq (tgt := 132) hx hb dX10_readBookLine_125 (by decide) (fun c_125 => ?_) (fun c_125 => ?_)
                        · refine lv_bipush (v := 6) hx hb dX10_readBookLine_132 (by decide) ?_
                          have mo9 := m_u_14
                          have hw8 := hw
                          refine tg_iast hx hb hK hw h_vu_14 rfl 0 117 r_v_13 (by decide) rl_6 (by exact fun _ _ _ => by decide) (fun _ _ _ _ _ => trivial) (by decide) dX10_readBookLine_134 (fun ws H locs hw hF9 hU9 => ?_)
                          have x_OL_p0_v_13 : AX 40 52 (fun f => OLp f v_13) Ps ws p0 := AX.ast hF9 hU9 x_OL_p0_v_13 m_u_14 (fun f9 h9 => OL_upd h9 g_at (by have k1 := r_v_13.cl (by decide); have k2 := r_v_13.1; omega))
                          have x_LE_p0_v_13_0_6_6 : AX 40 52 (fun f => 6 ≤ (f (Int32.toNatClampNeg v_13)).toInt ∧ (f (Int32.toNatClampNeg v_13)).toInt ≤ 6) Ps ws p0 := AX.ast hF9 hU9 x_LE_p0_v_13_0_0_60 m_u_14 (fun f9 h9 => by show _ ∧ _; rw [pk_us]; exact rl_6)
                          have x_LE_p0_v_13_1_0_60 : AX 40 52 (fun f => 0 ≤ (f (Int32.toNatClampNeg v_13 + 1)).toInt ∧ (f (Int32.toNatClampNeg v_13 + 1)).toInt ≤ 60) Ps ws p0 := AX.ast hF9 hU9 x_LE_p0_v_13_1_0_60 m_u_14 (fun f9 h9 => by have j9 : Int32.toNatClampNeg v_13 = Int32.toNatClampNeg v_13 + 0 := (by have k1 := r_v_13.cl (by decide); have k2 := r_v_13.cl (by decide); omega); show _ ∧ _; rw [pk_un (by omega)]; exact h9)
                          have x_LE_p0_v_13_2_0_60 : AX 40 52 (fun f => 0 ≤ (f (Int32.toNatClampNeg v_13 + 2)).toInt ∧ (f (Int32.toNatClampNeg v_13 + 2)).toInt ≤ 60) Ps ws p0 := AX.ast hF9 hU9 x_LE_p0_v_13_2_0_60 m_u_14 (fun f9 h9 => by have j9 : Int32.toNatClampNeg v_13 = Int32.toNatClampNeg v_13 + 0 := (by have k1 := r_v_13.cl (by decide); have k2 := r_v_13.cl (by decide); omega); show _ ∧ _; rw [pk_un (by omega)]; exact h9)
                          have m_v_7 := AEL.over hw8 hF9 h_vu_6 m_v_7 (by decide)
                          have x_FD_vu_5_16_v_7_vu_8 := FDD.over hw8 hF9 h_vu_5 x_FD_vu_5_16_v_7_vu_8 (by decide)
                          have m_u_5 := FLD.over hF9 m_u_5 (by decide)
                          have m_u_6 := FLD.over hF9 m_u_6 (by decide)
                          have m_u_8 := FLD.over hF9 m_u_8 (by decide)
                          have m_u_12 := FLD.over hF9 m_u_12 (by decide)
                          have m_u_14 := FLD.over hF9 m_u_14 (by decide)
                          obtain ⟨sg_15, q_sg_15⟩ : ∃ q9 : OS, sA s0 40 (Int32.toNatClampNeg v_13) (6 : Int32) = q9 := ⟨_, rfl⟩
                          have o_p0 : OV vw_M5 Ps ws p0 sg_15 := by rw [← q_sg_15]; exact OV.putA (V := vw_M5) (t := 52) hF9 hU9 o_p0 mo9 (by decide) (by decide)
                          refine lv_aload_n hx hb dX10_readBookLine_135 rfl (lv_at hl 5 rfl) ?_
                          refine tg_mem (ci := 10) (C := RX10) (T := TX10) (N := 49) hx hb hts inX10 hown hK hw 40 m_u_14 rfl (by decide) (hts _ tw_1177) (fun _ h9 => h9) dX10_readBookLine_136 ?_
                          refine lv_iload hx hb dX10_readBookLine_139 (lv_at hl 0 rfl) ?_
                          refine lv_iconst (v := 1) hx hb dX10_readBookLine_141 (by decide) ?_
                          refine lv_iadd hx hb dX10_readBookLine_142 (lv_topi (fun v_16 e_v_16 => ?_))
                          obtain ⟨t_v_16, r_v_16⟩ := tq_add (lo := 1) (hi := 118) r_v_13 rl_1 (by decide +kernel) e_v_16
                          have t_v_16 : v_16.toInt = v_13.toInt + 1 := t_v_16
                          have q_v_16 : v_13 + (1 : Int32) = v_16 := e_v_16.symm
                          refine lv_iload hx hb dX10_readBookLine_143 (lv_at hl 1 rfl) ?_
                          refine lv_if_eq (tgt := 170) hx hb dX10_readBookLine_145 (by decide) (fun c9 => absurd c9 (by decide)) (fun _ => ?_)
                          refine lv_aload_n hx hb dX10_readBookLine_148 rfl (lv_at hl 5 rfl) ?_
                          refine tg_mem (ci := 10) (C := RX10) (T := TX10) (N := 49) hx hb hts inX10 hown hK hw 20 m_u_5 rfl (by decide) (hts _ tw_1157) (fun _ h9 => h9) dX10_readBookLine_149 ?_
                          refine lv_bipush (v := 16) hx hb dX10_readBookLine_152 (by decide) ?_
                          refine lv_aload_n hx hb dX10_readBookLine_154 rfl (lv_at hl 5 rfl) ?_
                          refine tg_mem (ci := 10) (C := RX10) (T := TX10) (N := 49) hx hb hts inX10 hown hK hw 14 m_u_6 rfl (by decide) (hts _ tw_1151) (fun _ h9 => h9) dX10_readBookLine_155 ?_
                          refine lv_iconst (v := 3) hx hb dX10_readBookLine_158 (by decide) ?_
                          refine tg_imem hx hb hK hw h_vu_6 rfl rl_3 (by decide) m_v_7 dX10_readBookLine_159 ?_
                          refine lv_aload_n hx hb dX10_readBookLine_160 rfl (lv_at hl 5 rfl) ?_
                          refine tg_mem (ci := 10) (C := RX10) (T := TX10) (N := 49) hx hb hts inX10 hown hK hw 12 m_u_8 rfl (by decide) (hts _ tw_1149) (fun _ h9 => h9) dX10_readBookLine_161 ?_
                          have oa_vu_5 := OV.arrB (V := vw_M5) (t := 41) hw.2.2.1 o_p0 m_u_5 (by decide)
                          have mo9_vu_5 := And.intro hw.2.2.1 m_u_5
                          refine tk_ir (va_runS (As := [.ref vu_5, .int 16, .int v_7, .long vu_8]) (rest := [.int v_16, .ref vu_14]) ⟨hx, hb, hml, hown, hts⟩ (c_X10_findIn__16 l D cy z H.size Ps ws hw.1 vu_5 16 v_7 vu_8 (sg_15.2.2.2 20) h_vu_5 rl_16 r_v_7 r_vu_8 oa_vu_5) (va_cwS 4 hts (gS tw_1352 tw_1353 tw_15 tw_1354) rfl rfl rfl (by decide +kernel) ⟨Nat.le_of_ble_eq_true rfl, Nat.le_of_ble_eq_true rfl⟩) (tg_preS hw hK hSD hA) rfl rfl hl.1 rfl (lv_room (Nat.le_of_ble_eq_true rfl)) dX10_readBookLine_164 ⟨Nat.le_of_ble_eq_true rfl, Nat.le_of_ble_eq_true rfl⟩) hw hA (fun v_18  H locs hp_v_18 hw => ?_)
                          obtain ⟨hfn, hp_v_18⟩ := hp_v_18
                          have q_v_18 : (f_X10_findIn__9 (16 : Int32) v_7 vu_8 (sg_15.2.2.2 20)) = v_18 := hfn.1
                          have r_v_18 : RI v_18 (-1) 7 := hp_v_18.1
                          by_cases c9_v_18 : v_18.toInt < 0
                          · have r_v_18 : RI v_18 (-1) (-1) := by unfold RI at r_v_18 ⊢; omega
                            have x_NF_vu_5_16_v_7_vu_8 := (hp_v_18.2.2.2.2.1 (by omega)).1
                            exact (FDD.no hw x_FD_vu_5_16_v_7_vu_8 x_NF_vu_5_16_v_7_vu_8).elim
                          · have r_v_18 : RI v_18 0 7 := by unfold RI at r_v_18 ⊢; omega
                            have x_FD_vu_5_16_v_7_vu_8 := (hp_v_18.2.2.2.2.2 (by omega)).1
                            have x_POS_v_7 := (hp_v_18.2.2.2.2.2 (by omega)).2.1
                            refine lv_goto (tgt := 171) hx hb dX10_readBookLine_167 (by decide) ?_
                            have mo9 := m_u_14
                            have hw8 := hw
                            refine tg_iast hx hb hK hw h_vu_14 rfl 1 118 r_v_16 (by decide) r_v_18 (by exact fun _ _ _ => by decide) (fun _ _ _ _ _ => trivial) (by decide) dX10_readBookLine_171 (fun ws H locs hw hF9 hU9 => ?_)
                            have x_OL_p0_v_13 : AX 40 52 (fun f => OLp f v_13) Ps ws p0 := AX.ast hF9 hU9 x_OL_p0_v_13 m_u_14 (fun f9 h9 => OL_upd h9 g_at (by have k1 := r_v_16.cl (by decide); have k2 := r_v_13.1; omega))
                            have x_LE_p0_v_13_0_6_6 : AX 40 52 (fun f => 6 ≤ (f (Int32.toNatClampNeg v_13)).toInt ∧ (f (Int32.toNatClampNeg v_13)).toInt ≤ 6) Ps ws p0 := AX.ast hF9 hU9 x_LE_p0_v_13_0_6_6 m_u_14 (fun f9 h9 => by have j9 : Int32.toNatClampNeg v_16 = Int32.toNatClampNeg v_13 + 1 := (by have k1 := r_v_16.cl (by decide); have k2 := r_v_13.cl (by decide); omega); show _ ∧ _; rw [pk_un (by omega)]; exact h9)
                            have x_LE_p0_v_13_1_0_7 : AX 40 52 (fun f => 0 ≤ (f (Int32.toNatClampNeg v_13 + 1)).toInt ∧ (f (Int32.toNatClampNeg v_13 + 1)).toInt ≤ 7) Ps ws p0 := AX.ast hF9 hU9 x_LE_p0_v_13_1_0_60 m_u_14 (fun f9 h9 => by have j9 : Int32.toNatClampNeg v_16 = Int32.toNatClampNeg v_13 + 1 := (by have k1 := r_v_16.cl (by decide); have k2 := r_v_13.cl (by decide); omega); show _ ∧ _; rw [← j9, pk_us]; exact r_v_18)
                            have x_LE_p0_v_13_2_0_60 : AX 40 52 (fun f => 0 ≤ (f (Int32.toNatClampNeg v_13 + 2)).toInt ∧ (f (Int32.toNatClampNeg v_13 + 2)).toInt ≤ 60) Ps ws p0 := AX.ast hF9 hU9 x_LE_p0_v_13_2_0_60 m_u_14 (fun f9 h9 => by have j9 : Int32.toNatClampNeg v_16 = Int32.toNatClampNeg v_13 + 1 := (by have k1 := r_v_16.cl (by decide); have k2 := r_v_13.cl (by decide); omega); show _ ∧ _; rw [pk_un (by omega)]; exact h9)
                            have m_v_7 := AEL.over hw8 hF9 h_vu_6 m_v_7 (by decide)
                            have x_FD_vu_5_16_v_7_vu_8 := FDD.over hw8 hF9 h_vu_5 x_FD_vu_5_16_v_7_vu_8 (by decide)
                            have m_u_5 := FLD.over hF9 m_u_5 (by decide)
                            have m_u_6 := FLD.over hF9 m_u_6 (by decide)
                            have m_u_8 := FLD.over hF9 m_u_8 (by decide)
                            have m_u_12 := FLD.over hF9 m_u_12 (by decide)
                            have m_u_14 := FLD.over hF9 m_u_14 (by decide)
                            obtain ⟨sg_19, q_sg_19⟩ : ∃ q9 : OS, sA sg_15 40 (Int32.toNatClampNeg v_16) v_18 = q9 := ⟨_, rfl⟩
                            have o_p0 : OV vw_M5 Ps ws p0 sg_19 := by rw [← q_sg_19]; exact OV.putA (V := vw_M5) (t := 52) hF9 hU9 o_p0 mo9 (by decide) (by decide)
                            refine lv_aload_n hx hb dX10_readBookLine_172 rfl (lv_at hl 5 rfl) ?_
                            refine tg_mem (ci := 10) (C := RX10) (T := TX10) (N := 49) hx hb hts inX10 hown hK hw 40 m_u_14 rfl (by decide) (hts _ tw_1177) (fun _ h9 => h9) dX10_readBookLine_173 ?_
                            refine lv_iload hx hb dX10_readBookLine_176 (lv_at hl 0 rfl) ?_
                            refine lv_iconst (v := 2) hx hb dX10_readBookLine_178 (by decide) ?_
                            refine lv_iadd hx hb dX10_readBookLine_179 (lv_topi (fun v_20 e_v_20 => ?_))
                            obtain ⟨t_v_20, r_v_20⟩ := tq_add (lo := 2) (hi := 119) r_v_13 rl_2 (by decide +kernel) e_v_20
                            have t_v_20 : v_20.toInt = v_13.toInt + 2 := t_v_20
                            have q_v_20 : v_13 + (2 : Int32) = v_20 := e_v_20.symm
                            refine lv_iconst (v := 0) hx hb dX10_readBookLine_180 (by decide) ?_
                            have mo9 := m_u_14
                            have hw8 := hw
                            refine tg_iast hx hb hK hw h_vu_14 rfl 2 119 r_v_20 (by decide) rl_0 (by exact fun _ _ _ => by decide) (fun _ _ _ _ _ => trivial) (by decide) dX10_readBookLine_181 (fun ws H locs hw hF9 hU9 => ?_)
                            have x_OL_p0_v_13 : AX 40 52 (fun f => OLp f v_13) Ps ws p0 := AX.ast hF9 hU9 x_OL_p0_v_13 m_u_14 (fun f9 h9 => OL_upd h9 g_at (by have k1 := r_v_20.cl (by decide); have k2 := r_v_13.1; omega))
                            have x_LE_p0_v_13_0_6_6 : AX 40 52 (fun f => 6 ≤ (f (Int32.toNatClampNeg v_13)).toInt ∧ (f (Int32.toNatClampNeg v_13)).toInt ≤ 6) Ps ws p0 := AX.ast hF9 hU9 x_LE_p0_v_13_0_6_6 m_u_14 (fun f9 h9 => by have j9 : Int32.toNatClampNeg v_20 = Int32.toNatClampNeg v_13 + 2 := (by have k1 := r_v_20.cl (by decide); have k2 := r_v_13.cl (by decide); omega); show _ ∧ _; rw [pk_un (by omega)]; exact h9)
                            have x_LE_p0_v_13_1_0_7 : AX 40 52 (fun f => 0 ≤ (f (Int32.toNatClampNeg v_13 + 1)).toInt ∧ (f (Int32.toNatClampNeg v_13 + 1)).toInt ≤ 7) Ps ws p0 := AX.ast hF9 hU9 x_LE_p0_v_13_1_0_7 m_u_14 (fun f9 h9 => by have j9 : Int32.toNatClampNeg v_20 = Int32.toNatClampNeg v_13 + 2 := (by have k1 := r_v_20.cl (by decide); have k2 := r_v_13.cl (by decide); omega); show _ ∧ _; rw [pk_un (by omega)]; exact h9)
                            have x_LE_p0_v_13_2_0_0 : AX 40 52 (fun f => 0 ≤ (f (Int32.toNatClampNeg v_13 + 2)).toInt ∧ (f (Int32.toNatClampNeg v_13 + 2)).toInt ≤ 0) Ps ws p0 := AX.ast hF9 hU9 x_LE_p0_v_13_2_0_60 m_u_14 (fun f9 h9 => by have j9 : Int32.toNatClampNeg v_20 = Int32.toNatClampNeg v_13 + 2 := (by have k1 := r_v_20.cl (by decide); have k2 := r_v_13.cl (by decide); omega); show _ ∧ _; rw [← j9, pk_us]; exact rl_0)
                            have m_v_7 := AEL.over hw8 hF9 h_vu_6 m_v_7 (by decide)
                            have x_FD_vu_5_16_v_7_vu_8 := FDD.over hw8 hF9 h_vu_5 x_FD_vu_5_16_v_7_vu_8 (by decide)
                            have m_u_5 := FLD.over hF9 m_u_5 (by decide)
                            have m_u_6 := FLD.over hF9 m_u_6 (by decide)
                            have m_u_8 := FLD.over hF9 m_u_8 (by decide)
                            have m_u_12 := FLD.over hF9 m_u_12 (by decide)
                            have m_u_14 := FLD.over hF9 m_u_14 (by decide)
                            obtain ⟨sg_21, q_sg_21⟩ : ∃ q9 : OS, sA sg_19 40 (Int32.toNatClampNeg v_20) (0 : Int32) = q9 := ⟨_, rfl⟩
                            have o_p0 : OV vw_M5 Ps ws p0 sg_21 := by rw [← q_sg_21]; exact OV.putA (V := vw_M5) (t := 52) hF9 hU9 o_p0 mo9 (by decide) (by decide)
                            refine lv_aload_n hx hb dX10_readBookLine_182 rfl (lv_at hl 5 rfl) ?_
                            have hw8 := hw
                            refine tk_v (va_runV (As := []) (rest := []) ⟨hx, hb, hml, hown, hts⟩ (c_X10_go__5 l D cy z H.size Ps ws hw.1 p0 sg_21 h_p0 o_p0) (cwV 0 hts (gV tw_1298 tw_1300 ts_40 tw_15 tw_1301) rfl rfl rfl (by decide +kernel) ⟨Nat.le_of_ble_eq_true rfl, Nat.le_of_ble_eq_true rfl⟩) (tg_preV hw hK hSD hA (ci := 10) (q := (RX10, TX10, 49)) rfl h_p0 rfl) rfl rfl hl.1 rfl (lv_room (Nat.le_of_ble_eq_true rfl)) dX10_readBookLine_183 ⟨Nat.le_of_ble_eq_true rfl, Nat.le_of_ble_eq_true rfl⟩) hw hA ⟨by decide, by decide⟩ (fun ws H locs hp_v_22 hw hF9 => ?_)
                            have m_v_7 := AEL.over hw8 hF9 h_vu_6 m_v_7 (by decide)
                            have m_u_5 := FLD.over hF9 m_u_5 (by decide)
                            have m_u_6 := FLD.over hF9 m_u_6 (by decide)
                            have m_u_12 := FLD.over hF9 m_u_12 (by decide)
                            have m_u_14 := FLD.over hF9 m_u_14 (by decide)
                            have x_FD_vu_5_16_v_7_vu_8 := FDD.over hw8 hF9 h_vu_5 x_FD_vu_5_16_v_7_vu_8 (by decide)
                            have x_OL_p0_v_13 := AX.over hF9 x_OL_p0_v_13 (by decide)
                            have x_LE_p0_v_13_0_6_6 := AX.over hF9 x_LE_p0_v_13_0_6_6 (by decide)
                            have x_LE_p0_v_13_1_0_7 := AX.over hF9 x_LE_p0_v_13_1_0_7 (by decide)
                            have x_LE_p0_v_13_2_0_0 := AX.over hF9 x_LE_p0_v_13_2_0_0 (by decide)
                            obtain ⟨hfn, hp_v_22⟩ := hp_v_22
                            obtain ⟨sg_23, q_sg_23⟩ : ∃ q9 : OS, (f_X10_go__2 sg_21) = q9 := ⟨_, rfl⟩
                            have o_p0 : OV vw_M5 Ps ws p0 sg_23 := by rw [← q_sg_23]; exact hfn.1
                            refine lv_iload hx hb dX10_readBookLine_186 (lv_at hl 1 rfl) ?_
                            refine lv_if_eq (tgt := 213) hx hb dX10_readBookLine_188 (by decide) (fun c9 => absurd c9 (by decide)) (fun _ => ?_)
                            refine lv_aload_n hx hb dX10_readBookLine_191 rfl (lv_at hl 5 rfl) ?_
                            refine lv_iload hx hb dX10_readBookLine_192 (lv_at hl 0 rfl) ?_
                            have hw8 := hw
                            refine tk_i (va_runV (As := [.int v_13]) (rest := []) ⟨hx, hb, hml, hown, hts⟩ (c_X10_readDoes__1 l D cy z H.size Ps ws hw.1 p0 v_13 sg_23 h_p0 r_v_13 x_OL_p0_v_13 x_LE_p0_v_13_1_0_7 x_LE_p0_v_13_2_0_0 x_MUL3_v_13 o_p0) (cwV 1 hts (gV tw_1715 tw_1717 ts_104 tw_15 tw_1718) rfl rfl rfl (by decide +kernel) ⟨Nat.le_of_ble_eq_true rfl, Nat.le_of_ble_eq_true rfl⟩) (tg_preV hw hK hSD hA (ci := 10) (q := (RX10, TX10, 49)) rfl h_p0 rfl) rfl rfl hl.1 rfl (lv_room (Nat.le_of_ble_eq_true rfl)) dX10_readBookLine_194 ⟨Nat.le_of_ble_eq_true rfl, Nat.le_of_ble_eq_true rfl⟩) hw hA ⟨by decide, by decide⟩ (fun v_24 ws H locs hp_v_24 hw hF9 => ?_)
                            have m_v_7 := AEL.over hw8 hF9 h_vu_6 m_v_7 (by decide)
                            have m_u_5 := FLD.over hF9 m_u_5 (by decide)
                            have m_u_6 := FLD.over hF9 m_u_6 (by decide)
                            have m_u_12 := FLD.over hF9 m_u_12 (by decide)
                            have m_u_14 := FLD.over hF9 m_u_14 (by decide)
                            have x_FD_vu_5_16_v_7_vu_8 := FDD.over hw8 hF9 h_vu_5 x_FD_vu_5_16_v_7_vu_8 (by decide)
                            obtain ⟨hfn, hp_v_24⟩ := hp_v_24
                            obtain ⟨sg_25, q_sg_25⟩ : ∃ q9 : OS, (f_X10_readDoes__1 v_13 sg_23).1 = q9 := ⟨_, rfl⟩
                            have o_p0 : OV vw_M5 Ps ws p0 sg_25 := by rw [← q_sg_25]; exact hfn.1
                            have q_v_24 : (f_X10_readDoes__1 v_13 sg_23).2 = v_24 := hfn.2.1
                            have r_v_24 : RI v_24 0 1 := hp_v_24.1
                            by_cases c9_v_24 : v_24 = 0
                            · have r_v_24 : RI v_24 0 0 := by rw [c9_v_24]; exact rl_0
                              refine lv_if_eq (tgt := 211) hx hb dX10_readBookLine_197 (by decide) (fun c_197 => ?_) (fun c_197 => ?_)
                              · refine lv_iconst (v := 0) hx hb dX10_readBookLine_211 (by decide) ?_
                                simp only [f_X10_readBookLine__1, ↓reduceIte, q_v_1, eq_true c9_v_1, q_v_2, eq_true c9_v_2, q_v_3, eq_true c9_v_3, eq_true c_22, eq_true c_26, eq_true c_30, q_v_4, eq_false c_49, q_v_7, q_vu_8, q_v_9, eq_false c9_v_9, eq_false c_78, q_vu_12, eq_false c_93, q_v_13, eq_true c_117, eq_true c_125, q_sg_15, q_v_16, q_v_18, eq_false c9_v_18, q_sg_19, q_v_20, q_sg_21, q_sg_23, q_sg_25, q_v_24, eq_true c9_v_24, eq_true c_197] at hE
                                subst hQ
                                exact W.zret (v := 0) hx hb hr (rfl) (fun t ht hW => ⟨⟨0, ws, rfl, ⟨⟨⟨(by rw [hR, ← hE]; exact o_p0), (by rw [hR, ← hE]), trivial⟩, rl_0.to (by decide), (fun h0 => trivial), (fun h0 => absurd rfl h0)⟩, hw.1, hw.2.2.2.2.1⟩, by rw [ht]; exact hw.2.1, va_K.moved hW.alike hK, hw.2.2.1⟩, hw.2.2.2.1.F ht⟩) hw.2.2.2.1.2.2 dX10_readBookLine_212
                              · exact absurd (r_v_24.eq.trans rl_0.eq.symm) ((ti_ne c_197))
                            · have r_v_24 : RI v_24 1 1 := rc_neL r_v_24 rl_0 (ti_ne c9_v_24) (by decide)
                              have x_OL_p0_v_13 := ((hp_v_24.2.2 c9_v_24).1)
                              have x_GL_p0_v_13 := ((hp_v_24.2.2 c9_v_24).2.1)
                              refine lv_if_eq (tgt := 211) hx hb dX10_readBookLine_197 (by decide) (fun c_197 => ?_) (fun c_197 => ?_)
                              · have r_v_24 : RI v_24 1 0 := rc_eq1 r_v_24 rl_0 (ti_eq c_197) (by decide)
                                exact (r_v_24.no (by decide)).elim
                              · refine lv_aload_n hx hb dX10_readBookLine_200 rfl (lv_at hl 5 rfl) ?_
                                have hw8 := hw
                                refine tk_i (va_runV (As := []) (rest := []) ⟨hx, hb, hml, hown, hts⟩ (c_X10_readEnd__3 l D cy z H.size Ps ws hw.1 p0 sg_25 h_p0 o_p0) (cwV 0 hts (gV tw_1409 tw_1411 ts_62 tw_15 tw_1412) rfl rfl rfl (by decide +kernel) ⟨Nat.le_of_ble_eq_true rfl, Nat.le_of_ble_eq_true rfl⟩) (tg_preV hw hK hSD hA (ci := 10) (q := (RX10, TX10, 49)) rfl h_p0 rfl) rfl rfl hl.1 rfl (lv_room (Nat.le_of_ble_eq_true rfl)) dX10_readBookLine_201 ⟨Nat.le_of_ble_eq_true rfl, Nat.le_of_ble_eq_true rfl⟩) hw hA ⟨by decide, by decide⟩ (fun v_26 ws H locs hp_v_26 hw hF9 => ?_)
                                have m_v_7 := AEL.over hw8 hF9 h_vu_6 m_v_7 (by decide)
                                have m_u_5 := FLD.over hF9 m_u_5 (by decide)
                                have m_u_6 := FLD.over hF9 m_u_6 (by decide)
                                have m_u_12 := FLD.over hF9 m_u_12 (by decide)
                                have m_u_14 := FLD.over hF9 m_u_14 (by decide)
                                have x_FD_vu_5_16_v_7_vu_8 := FDD.over hw8 hF9 h_vu_5 x_FD_vu_5_16_v_7_vu_8 (by decide)
                                have x_OL_p0_v_13 := AX.over hF9 x_OL_p0_v_13 (by decide)
                                have x_GL_p0_v_13 := AX.over hF9 x_GL_p0_v_13 (by decide)
                                obtain ⟨hfn, hp_v_26⟩ := hp_v_26
                                obtain ⟨sg_27, q_sg_27⟩ : ∃ q9 : OS, (f_X10_readEnd__2 sg_25).1 = q9 := ⟨_, rfl⟩
                                have o_p0 : OV vw_M5 Ps ws p0 sg_27 := by rw [← q_sg_27]; exact hfn.1
                                have q_v_26 : (f_X10_readEnd__2 sg_25).2 = v_26 := hfn.2.1
                                have r_v_26 : RI v_26 0 1 := hp_v_26.1
                                refine lv_if_eq (tgt := 211) hx hb dX10_readBookLine_204 (by decide) (fun c_204 => ?_) (fun c_204 => ?_)
                                · have r_v_26 : RI v_26 0 0 := rc_eq1 r_v_26 rl_0 (ti_eq c_204) (by decide)
                                  refine lv_iconst (v := 0) hx hb dX10_readBookLine_211 (by decide) ?_
                                  simp only [f_X10_readBookLine__1, ↓reduceIte, q_v_1, eq_true c9_v_1, q_v_2, eq_true c9_v_2, q_v_3, eq_true c9_v_3, eq_true c_22, eq_true c_26, eq_true c_30, q_v_4, eq_false c_49, q_v_7, q_vu_8, q_v_9, eq_false c9_v_9, eq_false c_78, q_vu_12, eq_false c_93, q_v_13, eq_true c_117, eq_true c_125, q_sg_15, q_v_16, q_v_18, eq_false c9_v_18, q_sg_19, q_v_20, q_sg_21, q_sg_23, q_sg_25, q_v_24, eq_false c9_v_24, eq_false c_197, q_sg_27, q_v_26, eq_true c_204] at hE
                                  subst hQ
                                  exact W.zret (v := 0) hx hb hr (rfl) (fun t ht hW => ⟨⟨0, ws, rfl, ⟨⟨⟨(by rw [hR, ← hE]; exact o_p0), (by rw [hR, ← hE]), trivial⟩, rl_0.to (by decide), (fun h0 => trivial), (fun h0 => absurd rfl h0)⟩, hw.1, hw.2.2.2.2.1⟩, by rw [ht]; exact hw.2.1, va_K.moved hW.alike hK, hw.2.2.1⟩, hw.2.2.2.1.F ht⟩) hw.2.2.2.1.2.2 dX10_readBookLine_212
                                · have r_v_26 : RI v_26 1 1 := rc_neL r_v_26 rl_0 (ti_ne c_204) (by decide)
                                  have x_LNG_p0 : LNG Ps ws p0 := LNG.mk m_u_12 (by have k1 := t_v_13; omega) r_vu_12.1 (AX.and hw x_OL_p0_v_13 x_GL_p0_v_13)
                                  refine lv_iconst (v := 1) hx hb dX10_readBookLine_207 (by decide) ?_
                                  refine lv_goto (tgt := 212) hx hb dX10_readBookLine_208 (by decide) ?_
                                  simp only [f_X10_readBookLine__1, ↓reduceIte, q_v_1, eq_true c9_v_1, q_v_2, eq_true c9_v_2, q_v_3, eq_true c9_v_3, eq_true c_22, eq_true c_26, eq_true c_30, q_v_4, eq_false c_49, q_v_7, q_vu_8, q_v_9, eq_false c9_v_9, eq_false c_78, q_vu_12, eq_false c_93, q_v_13, eq_true c_117, eq_true c_125, q_sg_15, q_v_16, q_v_18, eq_false c9_v_18, q_sg_19, q_v_20, q_sg_21, q_sg_23, q_sg_25, q_v_24, eq_false c9_v_24, eq_false c_197, q_sg_27, q_v_26, eq_false c_204] at hE
                                  subst hQ
                                  exact W.zret (v := 1) hx hb hr (rfl) (fun t ht hW => ⟨⟨1, ws, rfl, ⟨⟨⟨(by rw [hR, ← hE]; exact o_p0), (by rw [hR, ← hE]), trivial⟩, rl_1.to (by decide), (fun _ => trivial), (fun h0 => ⟨⟨_, m_u_12, r_vu_12⟩, x_LNG_p0, trivial⟩)⟩, hw.1, hw.2.2.2.2.1⟩, by rw [ht]; exact hw.2.1, va_K.moved hW.alike hK, hw.2.2.1⟩, hw.2.2.2.1.F ht⟩) hw.2.2.2.1.2.2 dX10_readBookLine_212
                        · exact absurd (r_v_2.eq.trans rl_0.eq.symm) ((ti_ne c_125))
                      · exact absurd (r_v_1.eq.trans rl_0.eq.symm) ((ti_ne c_117))
                    · have r_vu_12 : RI vu_12 40 40 := rc_eq1 r_vu_12 rl_40 (ti_eq c_93) (by decide)
                      refine lv_aload_n hx hb dX10_readBookLine_96 rfl (lv_at hl 4 rfl) ?_
                      refine lv_iconst (v := 4) hx hb dX10_readBookLine_97 (by decide) ?_
                      have hw8 := hw
                      refine tk_i (va_runV (As := [.int 4]) (rest := []) ⟨hx, hb, hml, hown, hts⟩ (c_X10_bad__3 l D cy z H.size Ps w0 hw.1 p0 4 s0 h_p0 (rl_4.to (by decide)) o_p0) (cwV 1 hts (gV tw_1336 tw_1338 ts_46 tw_15 tw_1339) rfl rfl rfl (by decide +kernel) ⟨Nat.le_of_ble_eq_true rfl, Nat.le_of_ble_eq_true rfl⟩) (tg_preV hw hK hSD hA (ci := 10) (q := (RX10, TX10, 49)) rfl h_p0 rfl) rfl rfl hl.1 rfl (lv_room (Nat.le_of_ble_eq_true rfl)) dX10_readBookLine_98 ⟨Nat.le_of_ble_eq_true rfl, Nat.le_of_ble_eq_true rfl⟩) hw hA ⟨by decide, by decide⟩ (fun v_28 ws H locs hp_v_28 hw hF9 => ?_)
                      have m_v_7 := AEL.over hw8 hF9 h_vu_6 m_v_7 (by decide)
                      have m_u_5 := FLD.over hF9 m_u_5 (by decide)
                      have m_u_6 := FLD.over hF9 m_u_6 (by decide)
                      have m_u_8 := FLD.over hF9 m_u_8 (by decide)
                      have m_u_12 := FLD.over hF9 m_u_12 (by decide)
                      have x_LNS_p0 := LNS.over hF9 x_LNS_p0 (by decide)
                      have x_FD_vu_5_16_v_7_vu_8 := FDD.over hw8 hF9 h_vu_5 x_FD_vu_5_16_v_7_vu_8 (by decide)
                      obtain ⟨hfn, hp_v_28⟩ := hp_v_28
                      obtain ⟨sg_29, q_sg_29⟩ : ∃ q9 : OS, (f_X10_bad__1 (4 : Int32) s0).1 = q9 := ⟨_, rfl⟩
                      have o_p0 : OV vw_M5 Ps ws p0 sg_29 := by rw [← q_sg_29]; exact hfn.1
                      have q_v_28 : (f_X10_bad__1 (4 : Int32) s0).2 = v_28 := hfn.2.1
                      have r_v_28 : RI v_28 0 0 := hp_v_28.1
                      simp only [f_X10_readBookLine__1, ↓reduceIte, q_v_1, eq_true c9_v_1, q_v_2, eq_true c9_v_2, q_v_3, eq_true c9_v_3, eq_true c_22, eq_true c_26, eq_true c_30, q_v_4, eq_false c_49, q_v_7, q_vu_8, q_v_9, eq_false c9_v_9, eq_false c_78, q_vu_12, eq_true c_93, q_sg_29, q_v_28] at hE
                      subst hQ
                      exact W.zret (v := v_28) hx hb hr (tq_nz (r_v_28.to (by decide))) (fun t ht hW => ⟨⟨v_28, ws, rfl, ⟨⟨⟨(by rw [hR, ← hE]; exact o_p0), (by rw [hR, ← hE]), trivial⟩, r_v_28.to (by decide), (fun h0 => trivial), (fun h0 => absurd (Int32.toInt_inj.mp (by have h8 := r_v_28; unfold RI at h8; rw [Int32.toInt_zero]; omega)) h0)⟩, hw.1, hw.2.2.2.2.1⟩, by rw [ht]; exact hw.2.1, va_K.moved hW.alike hK, hw.2.2.1⟩, hw.2.2.2.1.F ht⟩) hw.2.2.2.1.2.2 dX10_readBookLine_101
                  · have r_v_9 : RI v_9 0 (-1) := rc_eq1 r_v_9 rl_m1 (ti_eq c_78) (by decide)
                    exact (r_v_9.no (by decide)).elim
              · have r_v_4 : RI v_4 0 0 := rc_eq1 r_v_4 rl_0 (ti_eq c_49) (by decide)
                refine lv_aload_n hx hb dX10_readBookLine_52 rfl (lv_at hl 4 rfl) ?_
                refine lv_iconst (v := 1) hx hb dX10_readBookLine_53 (by decide) ?_
                refine tk_i (va_runV (As := [.int 1]) (rest := []) ⟨hx, hb, hml, hown, hts⟩ (c_X10_bad__3 l D cy z H.size Ps w0 hw.1 p0 1 s0 h_p0 (rl_1.to (by decide)) o_p0) (cwV 1 hts (gV tw_1336 tw_1338 ts_46 tw_15 tw_1339) rfl rfl rfl (by decide +kernel) ⟨Nat.le_of_ble_eq_true rfl, Nat.le_of_ble_eq_true rfl⟩) (tg_preV hw hK hSD hA (ci := 10) (q := (RX10, TX10, 49)) rfl h_p0 rfl) rfl rfl hl.1 rfl (lv_room (Nat.le_of_ble_eq_true rfl)) dX10_readBookLine_54 ⟨Nat.le_of_ble_eq_true rfl, Nat.le_of_ble_eq_true rfl⟩) hw hA ⟨by decide, by decide⟩ (fun v_30 ws H locs hp_v_30 hw hF9 => ?_)
                have x_LNS_p0 := LNS.over hF9 x_LNS_p0 (by decide)
                obtain ⟨hfn, hp_v_30⟩ := hp_v_30
                obtain ⟨sg_31, q_sg_31⟩ : ∃ q9 : OS, (f_X10_bad__1 (1 : Int32) s0).1 = q9 := ⟨_, rfl⟩
                have o_p0 : OV vw_M5 Ps ws p0 sg_31 := by rw [← q_sg_31]; exact hfn.1
                have q_v_30 : (f_X10_bad__1 (1 : Int32) s0).2 = v_30 := hfn.2.1
                have r_v_30 : RI v_30 0 0 := hp_v_30.1
                simp only [f_X10_readBookLine__1, ↓reduceIte, q_v_1, eq_true c9_v_1, q_v_2, eq_true c9_v_2, q_v_3, eq_true c9_v_3, eq_true c_22, eq_true c_26, eq_true c_30, q_v_4, eq_true c_49, q_sg_31, q_v_30] at hE
                subst hQ
                exact W.zret (v := v_30) hx hb hr (tq_nz (r_v_30.to (by decide))) (fun t ht hW => ⟨⟨v_30, ws, rfl, ⟨⟨⟨(by rw [hR, ← hE]; exact o_p0), (by rw [hR, ← hE]), trivial⟩, r_v_30.to (by decide), (fun h0 => trivial), (fun h0 => absurd (Int32.toInt_inj.mp (by have h8 := r_v_30; unfold RI at h8; rw [Int32.toInt_zero]; omega)) h0)⟩, hw.1, hw.2.2.2.2.1⟩, by rw [ht]; exact hw.2.1, va_K.moved hW.alike hK, hw.2.2.1⟩, hw.2.2.2.1.F ht⟩) hw.2.2.2.1.2.2 dX10_readBookLine_57
      · have r_v_3 : RI v_3 1 1 := rc_neL r_v_3 rl_0 (ti_ne c9_v_3) (by decide)
        have x_WRD_p0_2968 := ((hp_v_3.2.2 c9_v_3).1)
        refine lv_istore_n (lv' := [(3, .int v_3), (2, .int v_2), (1, .int v_1), (0, .ref p0)]) hx hb dX10_readBookLine_20 rfl hl (by decide) rfl (fun ls hl => ?_)
        refine lv_iload_n hx hb dX10_readBookLine_21 rfl (lv_at hl 2 rfl) ?_
        refine lv_if_ne (tgt := 37) hx hb dX10_readBookLine_22 (by decide) (fun c_22 => ?_) (fun c_22 => ?_)
        · exact absurd (r_v_1.eq.trans rl_0.eq.symm) ((ti_ne c_22))
        · refine lv_iload_n hx hb dX10_readBookLine_25 rfl (lv_at hl 1 rfl) ?_
          refine lv_if_ne (tgt := 37) hx hb dX10_readBookLine_26 (by decide) (fun c_26 => ?_) (fun c_26 => ?_)
          · exact absurd (r_v_2.eq.trans rl_0.eq.symm) ((ti_ne c_26))
          · refine lv_iload_n hx hb dX10_readBookLine_29 rfl (lv_at hl 0 rfl) ?_
            refine lv_if_ne (tgt := 37) hx hb dX10_readBookLine_30 (by decide) (fun c_30 => ?_) (fun c_30 => ?_)
            · refine lv_iconst (v := 0) hx hb dX10_readBookLine_37 (by decide) ?_
              refine lv_istore (lv' := [(4, .int 0), (3, .int v_3), (2, .int v_2), (1, .int v_1), (0, .ref p0)]) hx hb dX10_readBookLine_38 hl (by decide) rfl (fun ls hl => ?_)
              refine lv_iload hx hb dX10_readBookLine_40 (lv_at hl 0 rfl) ?_
              refine lv_if_eq (tgt := 87) hx hb dX10_readBookLine_42 (by decide) (fun _ => ?_) (fun c9 => absurd (by decide) c9)
              refine lv_aload_n hx hb dX10_readBookLine_87 rfl (lv_at hl 4 rfl) ?_
              refine tg_get (ci := 10) (ts := ty_MODEL) (C := RX10) (T := TX10) (N := 49) hx hb hts inX10 hown hK hw h_p0 rfl rfl 42 (by decide) (hts _ tw_1179) (fun _ h9 => h9) (ft := vI 0 40) rfl dX10_readBookLine_88 (fun u_32 hv_u_32 m_u_32 => ?_)
              obtain ⟨vu_32, rfl, r_vu_32⟩ := hv_u_32
              have q_vu_32 : s0.1 42 = vu_32 := OV.eqI (V := vw_M5) hw.2.2.1 o_p0 m_u_32 (by decide)
              refine lv_bipush (v := 40) hx hb dX10_readBookLine_91 (by decide) ?_
              refine lv_icmp_ne (tgt := 102) hx hb dX10_readBookLine_93 (by decide) (fun c_93 => ?_) (fun c_93 => ?_)
              · have r_vu_32 : RI vu_32 0 39 := rc_neU r_vu_32 rl_40 (ti_ne c_93) (by decide)
                refine lv_iconst (v := 3) hx hb dX10_readBookLine_102 (by decide) ?_
                refine lv_aload_n hx hb dX10_readBookLine_103 rfl (lv_at hl 4 rfl) ?_
                refine tg_mem (ci := 10) (C := RX10) (T := TX10) (N := 49) hx hb hts inX10 hown hK hw 42 m_u_32 rfl (by decide) (hts _ tw_1179) (fun _ h9 => h9) dX10_readBookLine_104 ?_
                refine lv_imul hx hb dX10_readBookLine_107 (lv_topi (fun v_33 e_v_33 => ?_))
                obtain ⟨t_v_33, r_v_33⟩ := tq_mul (lo := 0) (hi := 117) rl_3 r_vu_32 (by decide +kernel) e_v_33
                have t_v_33 : v_33.toInt = 3 * vu_32.toInt := t_v_33
                have q_v_33 : (3 : Int32) * vu_32 = v_33 := e_v_33.symm
                refine lv_istore (lv' := [(5, .int v_33), (4, .int 0), (3, .int v_3), (2, .int v_2), (1, .int v_1), (0, .ref p0)]) hx hb dX10_readBookLine_108 hl (by decide) rfl (fun ls hl => ?_)
                have x_OL_p0_v_33 : AX 40 52 (fun f => OLp f v_33) Ps w0 p0 := LNS.ol hw x_LNS_p0 m_u_32 (by have k1 := t_v_33; omega)
                have x_MUL3_v_33 : (∃ n : Int, Int32.toInt v_33 = 3 * n) := ⟨vu_32.toInt, by have k1 := t_v_33; omega⟩
                have g_at := x_MUL3_v_33
                have x_LE_p0_v_33_0_0_60 : AX 40 52 (fun f => 0 ≤ (f (Int32.toNatClampNeg v_33)).toInt ∧ (f (Int32.toNatClampNeg v_33)).toInt ≤ 60) Ps w0 p0 := AX.imp (ax_of (k := 40) (t := 52) hw h_p0 rfl (fun _ => rfl)) (fun f9 h9 => h9.2 _ (by have k1 := r_v_33.cl (by decide); have k2 := r_v_33.2; omega))
                have x_LE_p0_v_33_1_0_60 : AX 40 52 (fun f => 0 ≤ (f (Int32.toNatClampNeg v_33 + 1)).toInt ∧ (f (Int32.toNatClampNeg v_33 + 1)).toInt ≤ 60) Ps w0 p0 := AX.imp (ax_of (k := 40) (t := 52) hw h_p0 rfl (fun _ => rfl)) (fun f9 h9 => h9.2 _ (by have k1 := r_v_33.cl (by decide); have k2 := r_v_33.2; omega))
                have x_LE_p0_v_33_2_0_60 : AX 40 52 (fun f => 0 ≤ (f (Int32.toNatClampNeg v_33 + 2)).toInt ∧ (f (Int32.toNatClampNeg v_33 + 2)).toInt ≤ 60) Ps w0 p0 := AX.imp (ax_of (k := 40) (t := 52) hw h_p0 rfl (fun _ => rfl)) (fun f9 h9 => h9.2 _ (by have k1 := r_v_33.cl (by decide); have k2 := r_v_33.2; omega))
                refine lv_aload_n hx hb dX10_readBookLine_110 rfl (lv_at hl 5 rfl) ?_
                refine tg_get (ci := 10) (ts := ty_MODEL) (C := RX10) (T := TX10) (N := 49) hx hb hts inX10 hown hK hw h_p0 rfl rfl 40 (by decide) (hts _ tw_1177) (fun _ h9 => h9) (ft := vR 52) rfl dX10_readBookLine_111 (fun u_34 hv_u_34 m_u_34 => ?_)
                obtain ⟨vu_34, rfl, h_vu_34⟩ := hv_u_34
                refine lv_iload hx hb dX10_readBookLine_114 (lv_at hl 0 rfl) ?_
                refine lv_iload_n hx hb dX10_readBookLine_116 rfl (lv_at hl 4 rfl) ?_
                refine lv_if_eq (tgt := 124) hx hb dX10_readBookLine_117 (by decide) (fun c_117 => ?_) (fun c_117 => ?_)
                · refine lv_iload_n hx hb dX10_readBookLine_124 rfl (lv_at hl 3 rfl) ?_
                  refine lv_if_eq (tgt := 132) hx hb dX10_readBookLine_125 (by decide) (fun c_125 => ?_) (fun c_125 => ?_)
                  · refine lv_bipush (v := 6) hx hb dX10_readBookLine_132 (by decide) ?_
                    have mo9 := m_u_34
                    refine tg_iast hx hb hK hw h_vu_34 rfl 0 117 r_v_33 (by decide) rl_6 (by exact fun _ _ _ => by decide) (fun _ _ _ _ _ => trivial) (by decide) dX10_readBookLine_134 (fun ws H locs hw hF9 hU9 => ?_)
                    have x_OL_p0_v_33 : AX 40 52 (fun f => OLp f v_33) Ps ws p0 := AX.ast hF9 hU9 x_OL_p0_v_33 m_u_34 (fun f9 h9 => OL_upd h9 g_at (by have k1 := r_v_33.cl (by decide); have k2 := r_v_33.1; omega))
                    have x_LE_p0_v_33_0_6_6 : AX 40 52 (fun f => 6 ≤ (f (Int32.toNatClampNeg v_33)).toInt ∧ (f (Int32.toNatClampNeg v_33)).toInt ≤ 6) Ps ws p0 := AX.ast hF9 hU9 x_LE_p0_v_33_0_0_60 m_u_34 (fun f9 h9 => by show _ ∧ _; rw [pk_us]; exact rl_6)
                    have x_LE_p0_v_33_1_0_60 : AX 40 52 (fun f => 0 ≤ (f (Int32.toNatClampNeg v_33 + 1)).toInt ∧ (f (Int32.toNatClampNeg v_33 + 1)).toInt ≤ 60) Ps ws p0 := AX.ast hF9 hU9 x_LE_p0_v_33_1_0_60 m_u_34 (fun f9 h9 => by have j9 : Int32.toNatClampNeg v_33 = Int32.toNatClampNeg v_33 + 0 := (by have k1 := r_v_33.cl (by decide); have k2 := r_v_33.cl (by decide); omega); show _ ∧ _; rw [pk_un (by omega)]; exact h9)
                    have x_LE_p0_v_33_2_0_60 : AX 40 52 (fun f => 0 ≤ (f (Int32.toNatClampNeg v_33 + 2)).toInt ∧ (f (Int32.toNatClampNeg v_33 + 2)).toInt ≤ 60) Ps ws p0 := AX.ast hF9 hU9 x_LE_p0_v_33_2_0_60 m_u_34 (fun f9 h9 => by have j9 : Int32.toNatClampNeg v_33 = Int32.toNatClampNeg v_33 + 0 := (by have k1 := r_v_33.cl (by decide); have k2 := r_v_33.cl (by decide); omega); show _ ∧ _; rw [pk_un (by omega)]; exact h9)
                    have x_WRD_p0_2968 := WRD.over hF9 x_WRD_p0_2968 (by decide)
                    have m_u_32 := FLD.over hF9 m_u_32 (by decide)
                    have m_u_34 := FLD.over hF9 m_u_34 (by decide)
                    obtain ⟨sg_35, q_sg_35⟩ : ∃ q9 : OS, sA s0 40 (Int32.toNatClampNeg v_33) (6 : Int32) = q9 := ⟨_, rfl⟩
                    have o_p0 : OV vw_M5 Ps ws p0 sg_35 := by rw [← q_sg_35]; exact OV.putA (V := vw_M5) (t := 52) hF9 hU9 o_p0 mo9 (by decide) (by decide)
                    refine lv_aload_n hx hb dX10_readBookLine_135 rfl (lv_at hl 5 rfl) ?_
                    refine tg_mem (ci := 10) (C := RX10) (T := TX10) (N := 49) hx hb hts inX10 hown hK hw 40 m_u_34 rfl (by decide) (hts _ tw_1177) (fun _ h9 => h9) dX10_readBookLine_136 ?_
                    refine lv_iload hx hb dX10_readBookLine_139 (lv_at hl 0 rfl) ?_
                    refine lv_iconst (v := 1) hx hb dX10_readBookLine_141 (by decide) ?_
                    refine lv_iadd hx hb dX10_readBookLine_142 (lv_topi (fun v_36 e_v_36 => ?_))
                    obtain ⟨t_v_36, r_v_36⟩ := tq_add (lo := 1) (hi := 118) r_v_33 rl_1 (by decide +kernel) e_v_36
                    have t_v_36 : v_36.toInt = v_33.toInt + 1 := t_v_36
                    have q_v_36 : v_33 + (1 : Int32) = v_36 := e_v_36.symm
                    refine lv_iload hx hb dX10_readBookLine_143 (lv_at hl 1 rfl) ?_
                    refine lv_if_eq (tgt := 170) hx hb dX10_readBookLine_145 (by decide) (fun _ => ?_) (fun c9 => absurd (by decide) c9)
                    refine lv_iconst (v := 0) hx hb dX10_readBookLine_170 (by decide) ?_
                    have mo9 := m_u_34
                    refine tg_iast hx hb hK hw h_vu_34 rfl 1 118 r_v_36 (by decide) rl_0 (by exact fun _ _ _ => by decide) (fun _ _ _ _ _ => trivial) (by decide) dX10_readBookLine_171 (fun ws H locs hw hF9 hU9 => ?_)
                    have x_OL_p0_v_33 : AX 40 52 (fun f => OLp f v_33) Ps ws p0 := AX.ast hF9 hU9 x_OL_p0_v_33 m_u_34 (fun f9 h9 => OL_upd h9 g_at (by have k1 := r_v_36.cl (by decide); have k2 := r_v_33.1; omega))
                    have x_LE_p0_v_33_0_6_6 : AX 40 52 (fun f => 6 ≤ (f (Int32.toNatClampNeg v_33)).toInt ∧ (f (Int32.toNatClampNeg v_33)).toInt ≤ 6) Ps ws p0 := AX.ast hF9 hU9 x_LE_p0_v_33_0_6_6 m_u_34 (fun f9 h9 => by have j9 : Int32.toNatClampNeg v_36 = Int32.toNatClampNeg v_33 + 1 := (by have k1 := r_v_36.cl (by decide); have k2 := r_v_33.cl (by decide); omega); show _ ∧ _; rw [pk_un (by omega)]; exact h9)
                    have x_LE_p0_v_33_1_0_0 : AX 40 52 (fun f => 0 ≤ (f (Int32.toNatClampNeg v_33 + 1)).toInt ∧ (f (Int32.toNatClampNeg v_33 + 1)).toInt ≤ 0) Ps ws p0 := AX.ast hF9 hU9 x_LE_p0_v_33_1_0_60 m_u_34 (fun f9 h9 => by have j9 : Int32.toNatClampNeg v_36 = Int32.toNatClampNeg v_33 + 1 := (by have k1 := r_v_36.cl (by decide); have k2 := r_v_33.cl (by decide); omega); show _ ∧ _; rw [← j9, pk_us]; exact rl_0)
                    have x_LE_p0_v_33_2_0_60 : AX 40 52 (fun f => 0 ≤ (f (Int32.toNatClampNeg v_33 + 2)).toInt ∧ (f (Int32.toNatClampNeg v_33 + 2)).toInt ≤ 60) Ps ws p0 := AX.ast hF9 hU9 x_LE_p0_v_33_2_0_60 m_u_34 (fun f9 h9 => by have j9 : Int32.toNatClampNeg v_36 = Int32.toNatClampNeg v_33 + 1 := (by have k1 := r_v_36.cl (by decide); have k2 := r_v_33.cl (by decide); omega); show _ ∧ _; rw [pk_un (by omega)]; exact h9)
                    have x_WRD_p0_2968 := WRD.over hF9 x_WRD_p0_2968 (by decide)
                    have m_u_32 := FLD.over hF9 m_u_32 (by decide)
                    have m_u_34 := FLD.over hF9 m_u_34 (by decide)
                    obtain ⟨sg_37, q_sg_37⟩ : ∃ q9 : OS, sA sg_35 40 (Int32.toNatClampNeg v_36) (0 : Int32) = q9 := ⟨_, rfl⟩
                    have o_p0 : OV vw_M5 Ps ws p0 sg_37 := by rw [← q_sg_37]; exact OV.putA (V := vw_M5) (t := 52) hF9 hU9 o_p0 mo9 (by decide) (by decide)
                    refine lv_aload_n hx hb dX10_readBookLine_172 rfl (lv_at hl 5 rfl) ?_
                    refine tg_mem (ci := 10) (C := RX10) (T := TX10) (N := 49) hx hb hts inX10 hown hK hw 40 m_u_34 rfl (by decide) (hts _ tw_1177) (fun _ h9 => h9) dX10_readBookLine_173 ?_
                    refine lv_iload hx hb dX10_readBookLine_176 (lv_at hl 0 rfl) ?_
                    refine lv_iconst (v := 2) hx hb dX10_readBookLine_178 (by decide) ?_
                    refine lv_iadd hx hb dX10_readBookLine_179 (lv_topi (fun v_38 e_v_38 => ?_))
                    obtain ⟨t_v_38, r_v_38⟩ := tq_add (lo := 2) (hi := 119) r_v_33 rl_2 (by decide +kernel) e_v_38
                    have t_v_38 : v_38.toInt = v_33.toInt + 2 := t_v_38
                    have q_v_38 : v_33 + (2 : Int32) = v_38 := e_v_38.symm
                    refine lv_iconst (v := 0) hx hb dX10_readBookLine_180 (by decide) ?_
                    have mo9 := m_u_34
                    refine tg_iast hx hb hK hw h_vu_34 rfl 2 119 r_v_38 (by decide) rl_0 (by exact fun _ _ _ => by decide) (fun _ _ _ _ _ => trivial) (by decide) dX10_readBookLine_181 (fun ws H locs hw hF9 hU9 => ?_)
                    have x_OL_p0_v_33 : AX 40 52 (fun f => OLp f v_33) Ps ws p0 := AX.ast hF9 hU9 x_OL_p0_v_33 m_u_34 (fun f9 h9 => OL_upd h9 g_at (by have k1 := r_v_38.cl (by decide); have k2 := r_v_33.1; omega))
                    have x_LE_p0_v_33_0_6_6 : AX 40 52 (fun f => 6 ≤ (f (Int32.toNatClampNeg v_33)).toInt ∧ (f (Int32.toNatClampNeg v_33)).toInt ≤ 6) Ps ws p0 := AX.ast hF9 hU9 x_LE_p0_v_33_0_6_6 m_u_34 (fun f9 h9 => by have j9 : Int32.toNatClampNeg v_38 = Int32.toNatClampNeg v_33 + 2 := (by have k1 := r_v_38.cl (by decide); have k2 := r_v_33.cl (by decide); omega); show _ ∧ _; rw [pk_un (by omega)]; exact h9)
                    have x_LE_p0_v_33_1_0_0 : AX 40 52 (fun f => 0 ≤ (f (Int32.toNatClampNeg v_33 + 1)).toInt ∧ (f (Int32.toNatClampNeg v_33 + 1)).toInt ≤ 0) Ps ws p0 := AX.ast hF9 hU9 x_LE_p0_v_33_1_0_0 m_u_34 (fun f9 h9 => by have j9 : Int32.toNatClampNeg v_38 = Int32.toNatClampNeg v_33 + 2 := (by have k1 := r_v_38.cl (by decide); have k2 := r_v_33.cl (by decide); omega); show _ ∧ _; rw [pk_un (by omega)]; exact h9)
                    have x_LE_p0_v_33_2_0_0 : AX 40 52 (fun f => 0 ≤ (f (Int32.toNatClampNeg v_33 + 2)).toInt ∧ (f (Int32.toNatClampNeg v_33 + 2)).toInt ≤ 0) Ps ws p0 := AX.ast hF9 hU9 x_LE_p0_v_33_2_0_60 m_u_34 (fun f9 h9 => by have j9 : Int32.toNatClampNeg v_38 = Int32.toNatClampNeg v_33 + 2 := (by have k1 := r_v_38.cl (by decide); have k2 := r_v_33.cl (by decide); omega); show _ ∧ _; rw [← j9, pk_us]; exact rl_0)
                    have x_WRD_p0_2968 := WRD.over hF9 x_WRD_p0_2968 (by decide)
                    have m_u_32 := FLD.over hF9 m_u_32 (by decide)
                    have m_u_34 := FLD.over hF9 m_u_34 (by decide)
                    obtain ⟨sg_39, q_sg_39⟩ : ∃ q9 : OS, sA sg_37 40 (Int32.toNatClampNeg v_38) (0 : Int32) = q9 := ⟨_, rfl⟩
                    have o_p0 : OV vw_M5 Ps ws p0 sg_39 := by rw [← q_sg_39]; exact OV.putA (V := vw_M5) (t := 52) hF9 hU9 o_p0 mo9 (by decide) (by decide)
                    refine lv_aload_n hx hb dX10_readBookLine_182 rfl (lv_at hl 5 rfl) ?_
                    refine tk_v (va_runV (As := []) (rest := []) ⟨hx, hb, hml, hown, hts⟩ (c_X10_go__5 l D cy z H.size Ps ws hw.1 p0 sg_39 h_p0 o_p0) (cwV 0 hts (gV tw_1298 tw_1300 ts_40 tw_15 tw_1301) rfl rfl rfl (by decide +kernel) ⟨Nat.le_of_ble_eq_true rfl, Nat.le_of_ble_eq_true rfl⟩) (tg_preV hw hK hSD hA (ci := 10) (q := (RX10, TX10, 49)) rfl h_p0 rfl) rfl rfl hl.1 rfl (lv_room (Nat.le_of_ble_eq_true rfl)) dX10_readBookLine_183 ⟨Nat.le_of_ble_eq_true rfl, Nat.le_of_ble_eq_true rfl⟩) hw hA ⟨by decide, by decide⟩ (fun ws H locs hp_v_40 hw hF9 => ?_)
                    have m_u_32 := FLD.over hF9 m_u_32 (by decide)
                    have m_u_34 := FLD.over hF9 m_u_34 (by decide)
                    have x_OL_p0_v_33 := AX.over hF9 x_OL_p0_v_33 (by decide)
                    have x_LE_p0_v_33_0_6_6 := AX.over hF9 x_LE_p0_v_33_0_6_6 (by decide)
                    have x_LE_p0_v_33_1_0_0 := AX.over hF9 x_LE_p0_v_33_1_0_0 (by decide)
                    have x_LE_p0_v_33_2_0_0 := AX.over hF9 x_LE_p0_v_33_2_0_0 (by decide)
                    obtain ⟨hfn, hp_v_40⟩ := hp_v_40
                    obtain ⟨sg_41, q_sg_41⟩ : ∃ q9 : OS, (f_X10_go__2 sg_39) = q9 := ⟨_, rfl⟩
                    have o_p0 : OV vw_M5 Ps ws p0 sg_41 := by rw [← q_sg_41]; exact hfn.1
                    refine lv_iload hx hb dX10_readBookLine_186 (lv_at hl 1 rfl) ?_
                    refine lv_if_eq (tgt := 213) hx hb dX10_readBookLine_188 (by decide) (fun _ => ?_) (fun c9 => absurd (by decide) c9)
                    refine lv_iload_n hx hb dX10_readBookLine_213 rfl (lv_at hl 2 rfl) ?_
                    refine lv_if_eq (tgt := 248) hx hb dX10_readBookLine_214 (by decide) (fun c_214 => ?_) (fun c_214 => ?_)
                    · have r_v_3 : RI v_3 1 0 := rc_eq1 r_v_3 rl_0 (ti_eq c_214) (by decide)
                      exact (r_v_3.no (by decide)).elim
                    · refine lv_aload_n hx hb dX10_readBookLine_217 rfl (lv_at hl 5 rfl) ?_
                      refine lv_iload hx hb dX10_readBookLine_218 (lv_at hl 0 rfl) ?_
                      refine lv_iconst (v := 1) hx hb dX10_readBookLine_220 (by decide) ?_
                      refine lv_iadd hx hb dX10_readBookLine_221 (lv_topi (fun v_42 e_v_42 => ?_))
                      obtain ⟨t_v_42, r_v_42⟩ := tq_add (lo := 1) (hi := 118) r_v_33 rl_1 (by decide +kernel) e_v_42
                      have t_v_42 : v_42.toInt = v_33.toInt + 1 := t_v_42
                      have z9 : v_36 = v_42 := q_v_36.symm.trans (e_v_42.symm)
                      subst z9
                      refine lv_aload_n hx hb dX10_readBookLine_222 rfl (lv_at hl 5 rfl) ?_
                      refine lv_iconst (v := 1) hx hb dX10_readBookLine_223 (by decide) ?_
                      refine lv_bipush (v := 60) hx hb dX10_readBookLine_224 (by decide) ?_
                      refine tk_i (va_runV (As := [.int 1, .int 60]) (rest := [.int v_36, .ref p0]) ⟨hx, hb, hml, hown, hts⟩ (c_X10_readNumber__13 l D cy z H.size Ps ws hw.1 p0 1 60 sg_41 h_p0 rl_1 rl_60 o_p0) (cwV 2 hts (gV tw_1355 tw_1357 ts_50 tw_15 tw_1358) rfl rfl rfl (by decide +kernel) ⟨Nat.le_of_ble_eq_true rfl, Nat.le_of_ble_eq_true rfl⟩) (tg_preV hw hK hSD hA (ci := 10) (q := (RX10, TX10, 49)) rfl h_p0 rfl) rfl rfl hl.1 rfl (lv_room (Nat.le_of_ble_eq_true rfl)) dX10_readBookLine_226 ⟨Nat.le_of_ble_eq_true rfl, Nat.le_of_ble_eq_true rfl⟩) hw hA ⟨by decide, by decide⟩ (fun v_43 ws H locs hp_v_43 hw hF9 => ?_)
                      have m_u_32 := FLD.over hF9 m_u_32 (by decide)
                      have m_u_34 := FLD.over hF9 m_u_34 (by decide)
                      have x_OL_p0_v_33 := AX.over hF9 x_OL_p0_v_33 (by decide)
                      have x_LE_p0_v_33_0_6_6 := AX.over hF9 x_LE_p0_v_33_0_6_6 (by decide)
                      have x_LE_p0_v_33_1_0_0 := AX.over hF9 x_LE_p0_v_33_1_0_0 (by decide)
                      have x_LE_p0_v_33_2_0_0 := AX.over hF9 x_LE_p0_v_33_2_0_0 (by decide)
                      obtain ⟨hfn, hp_v_43⟩ := hp_v_43
                      obtain ⟨sg_44, q_sg_44⟩ : ∃ q9 : OS, (f_X10_readNumber__7 (1 : Int32) (60 : Int32) sg_41).1 = q9 := ⟨_, rfl⟩
                      have o_p0 : OV vw_M5 Ps ws p0 sg_44 := by rw [← q_sg_44]; exact hfn.1
                      have q_v_43 : (f_X10_readNumber__7 (1 : Int32) (60 : Int32) sg_41).2 = v_43 := hfn.2.1
                      have r_v_43 : RI v_43 0 1 := hp_v_43.1
                      by_cases c9_v_43 : v_43 = 0
                      · have r_v_43 : RI v_43 0 0 := by rw [c9_v_43]; exact rl_0
                        refine tk_ir (va_runV (As := [.int v_36, .int v_43]) (rest := []) ⟨hx, hb, hml, hown, hts⟩ (c_X10_keep__8 l D cy z H.size Ps ws hw.1 p0 v_36 v_43 (fun f => OLp f v_33 ∧ (6 ≤ (f (Int32.toNatClampNeg v_33)).toInt ∧ (f (Int32.toNatClampNeg v_33)).toInt ≤ 6) ∧ (0 ≤ (f (Int32.toNatClampNeg v_33 + 1)).toInt ∧ (f (Int32.toNatClampNeg v_33 + 1)).toInt ≤ 0) ∧ (0 ≤ (f (Int32.toNatClampNeg v_33 + 2)).toInt ∧ (f (Int32.toNatClampNeg v_33 + 2)).toInt ≤ 0) ∧ True) (fun f => OLp f v_33 ∧ (6 ≤ (f (Int32.toNatClampNeg v_33)).toInt ∧ (f (Int32.toNatClampNeg v_33)).toInt ≤ 6) ∧ ((-2147483648) ≤ (f (Int32.toNatClampNeg v_33 + 1)).toInt ∧ (f (Int32.toNatClampNeg v_33 + 1)).toInt ≤ 2147483647) ∧ (0 ≤ (f (Int32.toNatClampNeg v_33 + 2)).toInt ∧ (f (Int32.toNatClampNeg v_33 + 2)).toInt ≤ 0) ∧ True) sg_44 h_p0 r_v_36 r_v_43 (AX.and hw x_OL_p0_v_33 (AX.and hw x_LE_p0_v_33_0_6_6 (AX.and hw x_LE_p0_v_33_1_0_0 (AX.and hw x_LE_p0_v_33_2_0_0 (lx_true hw h_p0))))) (fun f9 v9 hv9 H9 => ⟨(have h9 := H9.1; OL_upd h9 g_at (by have k1 := r_v_36.cl (by decide); have k2 := r_v_33.1; omega)), (have h9 := H9.2.1; by have j9 : Int32.toNatClampNeg v_36 = Int32.toNatClampNeg v_33 + 1 := (by have k1 := r_v_36.cl (by decide); have k2 := r_v_33.cl (by decide); omega); show _ ∧ _; rw [pk_un (by omega)]; exact h9), (have h9 := H9.2.2.1; by have j9 : Int32.toNatClampNeg v_36 = Int32.toNatClampNeg v_33 + 1 := (by have k1 := r_v_36.cl (by decide); have k2 := r_v_33.cl (by decide); omega); show _ ∧ _; rw [← j9, pk_us]; exact hv9), (have h9 := H9.2.2.2.1; by have j9 : Int32.toNatClampNeg v_36 = Int32.toNatClampNeg v_33 + 1 := (by have k1 := r_v_36.cl (by decide); have k2 := r_v_33.cl (by decide); omega); show _ ∧ _; rw [pk_un (by omega)]; exact h9), trivial⟩) o_p0) (cwV 2 hts (gV tw_1727 tw_1729 ts_107 tw_15 tw_1730) rfl rfl rfl (by decide +kernel) ⟨Nat.le_of_ble_eq_true rfl, Nat.le_of_ble_eq_true rfl⟩) (tg_preV hw hK hSD hA (ci := 10) (q := (RX10, TX10, 49)) rfl h_p0 rfl) rfl rfl hl.1 rfl (lv_room (Nat.le_of_ble_eq_true rfl)) dX10_readBookLine_229 ⟨Nat.le_of_ble_eq_true rfl, Nat.le_of_ble_eq_true rfl⟩) hw hA (fun v_45  H locs hp_v_45 hw => ?_)
                        obtain ⟨hfn, hp_v_45⟩ := hp_v_45
                        have q_v_45 : (f_X10_keep__6 v_36 v_43 sg_44) = v_45 := hfn.1
                        have r_v_45 : RI v_45 0 0 := hp_v_45.1
                        by_cases c9_v_45 : v_45 = 0
                        · have r_v_45 : RI v_45 0 0 := by rw [c9_v_45]; exact rl_0
                          have x_OL_p0_v_33 : AX 40 52 (fun f => OLp f v_33) Ps ws p0 := AX.imp ((hp_v_45.2.1 c9_v_45).1) (fun _ h9 => h9.1)
                          have x_LE_p0_v_33_0_6_6 : AX 40 52 (fun f => 6 ≤ (f (Int32.toNatClampNeg v_33)).toInt ∧ (f (Int32.toNatClampNeg v_33)).toInt ≤ 6) Ps ws p0 := AX.imp ((hp_v_45.2.1 c9_v_45).1) (fun _ h9 => h9.2.1)
                          have x_LE_p0_v_33_1_0_0 : AX 40 52 (fun f => 0 ≤ (f (Int32.toNatClampNeg v_33 + 1)).toInt ∧ (f (Int32.toNatClampNeg v_33 + 1)).toInt ≤ 0) Ps ws p0 := AX.imp ((hp_v_45.2.1 c9_v_45).1) (fun _ h9 => h9.2.2.1)
                          have x_LE_p0_v_33_2_0_0 : AX 40 52 (fun f => 0 ≤ (f (Int32.toNatClampNeg v_33 + 2)).toInt ∧ (f (Int32.toNatClampNeg v_33 + 2)).toInt ≤ 0) Ps ws p0 := AX.imp ((hp_v_45.2.1 c9_v_45).1) (fun _ h9 => h9.2.2.2.1)
                          refine lv_if_eq (tgt := 246) hx hb dX10_readBookLine_232 (by decide) (fun c_232 => ?_) (fun c_232 => ?_)
                          · refine lv_iconst (v := 0) hx hb dX10_readBookLine_246 (by decide) ?_
                            simp only [f_X10_readBookLine__1, ↓reduceIte, q_v_1, eq_true c9_v_1, q_v_2, eq_true c9_v_2, q_v_3, eq_false c9_v_3, eq_true c_22, eq_true c_26, eq_false c_30, q_vu_32, eq_false c_93, q_v_33, eq_true c_117, eq_true c_125, q_sg_35, q_v_36, q_sg_37, q_v_38, q_sg_39, q_sg_41, eq_false c_214, q_sg_44, q_v_43, eq_true c9_v_43, q_v_45, eq_true c9_v_45, eq_true c_232] at hE
                            subst hQ
                            exact W.zret (v := 0) hx hb hr (rfl) (fun t ht hW => ⟨⟨0, ws, rfl, ⟨⟨⟨(by rw [hR, ← hE]; exact o_p0), (by rw [hR, ← hE]), trivial⟩, rl_0.to (by decide), (fun h0 => trivial), (fun h0 => absurd rfl h0)⟩, hw.1, hw.2.2.2.2.1⟩, by rw [ht]; exact hw.2.1, va_K.moved hW.alike hK, hw.2.2.1⟩, hw.2.2.2.1.F ht⟩) hw.2.2.2.1.2.2 dX10_readBookLine_247
                          · exact absurd (r_v_45.eq.trans rl_0.eq.symm) ((ti_ne c_232))
                        · exact absurd (Int32.toInt_inj.mp (by rw [Int32.toInt_zero]; unfold RI at r_v_45; omega)) c9_v_45
                      · have r_v_43 : RI v_43 1 1 := rc_neL r_v_43 rl_0 (ti_ne c9_v_43) (by decide)
                        obtain ⟨v_46, m_v_46, r_v_46⟩ := ((hp_v_43.2.2 c9_v_43).1)
                        refine tk_i (va_runV (As := [.int v_36, .int v_43]) (rest := []) ⟨hx, hb, hml, hown, hts⟩ (c_X10_keep__9 l D cy z H.size Ps ws hw.1 p0 v_36 v_43 v_46 (fun f => OLp f v_33 ∧ (6 ≤ (f (Int32.toNatClampNeg v_33)).toInt ∧ (f (Int32.toNatClampNeg v_33)).toInt ≤ 6) ∧ (0 ≤ (f (Int32.toNatClampNeg v_33 + 1)).toInt ∧ (f (Int32.toNatClampNeg v_33 + 1)).toInt ≤ 0) ∧ (0 ≤ (f (Int32.toNatClampNeg v_33 + 2)).toInt ∧ (f (Int32.toNatClampNeg v_33 + 2)).toInt ≤ 0) ∧ True) (fun f => OLp f v_33 ∧ (6 ≤ (f (Int32.toNatClampNeg v_33)).toInt ∧ (f (Int32.toNatClampNeg v_33)).toInt ≤ 6) ∧ (1 ≤ (f (Int32.toNatClampNeg v_33 + 1)).toInt ∧ (f (Int32.toNatClampNeg v_33 + 1)).toInt ≤ 60) ∧ (0 ≤ (f (Int32.toNatClampNeg v_33 + 2)).toInt ∧ (f (Int32.toNatClampNeg v_33 + 2)).toInt ≤ 0) ∧ True) sg_44 h_p0 r_v_36 r_v_43 r_v_46 m_v_46 (AX.and hw x_OL_p0_v_33 (AX.and hw x_LE_p0_v_33_0_6_6 (AX.and hw x_LE_p0_v_33_1_0_0 (AX.and hw x_LE_p0_v_33_2_0_0 (lx_true hw h_p0))))) (fun f9 v9 hv9 H9 => ⟨(have h9 := H9.1; OL_upd h9 g_at (by have k1 := r_v_36.cl (by decide); have k2 := r_v_33.1; omega)), (have h9 := H9.2.1; by have j9 : Int32.toNatClampNeg v_36 = Int32.toNatClampNeg v_33 + 1 := (by have k1 := r_v_36.cl (by decide); have k2 := r_v_33.cl (by decide); omega); show _ ∧ _; rw [pk_un (by omega)]; exact h9), (have h9 := H9.2.2.1; by have j9 : Int32.toNatClampNeg v_36 = Int32.toNatClampNeg v_33 + 1 := (by have k1 := r_v_36.cl (by decide); have k2 := r_v_33.cl (by decide); omega); show _ ∧ _; rw [← j9, pk_us]; exact hv9), (have h9 := H9.2.2.2.1; by have j9 : Int32.toNatClampNeg v_36 = Int32.toNatClampNeg v_33 + 1 := (by have k1 := r_v_36.cl (by decide); have k2 := r_v_33.cl (by decide); omega); show _ ∧ _; rw [pk_un (by omega)]; exact h9), trivial⟩) o_p0) (cwV 2 hts (gV tw_1727 tw_1729 ts_107 tw_15 tw_1730) rfl rfl rfl (by decide +kernel) ⟨Nat.le_of_ble_eq_true rfl, Nat.le_of_ble_eq_true rfl⟩) (tg_preV hw hK hSD hA (ci := 10) (q := (RX10, TX10, 49)) rfl h_p0 rfl) rfl rfl hl.1 rfl (lv_room (Nat.le_of_ble_eq_true rfl)) dX10_readBookLine_229 ⟨Nat.le_of_ble_eq_true rfl, Nat.le_of_ble_eq_true rfl⟩) hw hA ⟨by decide, by decide⟩ (fun v_47 ws H locs hp_v_47 hw hF9 => ?_)
                        have m_u_32 := FLD.over hF9 m_u_32 (by decide)
                        have m_u_34 := FLD.over hF9 m_u_34 (by decide)
                        have m_v_46 := FLD.over hF9 m_v_46 (by decide)
                        obtain ⟨hfn, hp_v_47⟩ := hp_v_47
                        obtain ⟨sg_48, q_sg_48⟩ : ∃ q9 : OS, (f_X10_keep__7 v_36 v_43 sg_44).1 = q9 := ⟨_, rfl⟩
                        have o_p0 : OV vw_M5 Ps ws p0 sg_48 := by rw [← q_sg_48]; exact hfn.1
                        have q_v_47 : (f_X10_keep__7 v_36 v_43 sg_44).2 = v_47 := hfn.2.1
                        have r_v_47 : RI v_47 1 1 := hp_v_47.1
                        by_cases c9_v_47 : v_47 = 0
                        · exact absurd (ti_eq c9_v_47) (by unfold RI at r_v_47; rw [Int32.toInt_zero]; omega)
                        · obtain ⟨v_49, m_v_49, r_v_49⟩ := ((hp_v_47.2.2 c9_v_47).1)
                          have x_OL_p0_v_33 : AX 40 52 (fun f => OLp f v_33) Ps ws p0 := AX.imp ((hp_v_47.2.2 c9_v_47).2.1) (fun _ h9 => h9.1)
                          have x_LE_p0_v_33_0_6_6 : AX 40 52 (fun f => 6 ≤ (f (Int32.toNatClampNeg v_33)).toInt ∧ (f (Int32.toNatClampNeg v_33)).toInt ≤ 6) Ps ws p0 := AX.imp ((hp_v_47.2.2 c9_v_47).2.1) (fun _ h9 => h9.2.1)
                          have x_LE_p0_v_33_1_1_60 : AX 40 52 (fun f => 1 ≤ (f (Int32.toNatClampNeg v_33 + 1)).toInt ∧ (f (Int32.toNatClampNeg v_33 + 1)).toInt ≤ 60) Ps ws p0 := AX.imp ((hp_v_47.2.2 c9_v_47).2.1) (fun _ h9 => h9.2.2.1)
                          have x_LE_p0_v_33_2_0_0 : AX 40 52 (fun f => 0 ≤ (f (Int32.toNatClampNeg v_33 + 2)).toInt ∧ (f (Int32.toNatClampNeg v_33 + 2)).toInt ≤ 0) Ps ws p0 := AX.imp ((hp_v_47.2.2 c9_v_47).2.1) (fun _ h9 => h9.2.2.2.1)
                          refine lv_if_eq (tgt := 246) hx hb dX10_readBookLine_232 (by decide) (fun c_232 => ?_) (fun c_232 => ?_)
                          · have r_v_47 : RI v_47 1 0 := rc_eq1 r_v_47 rl_0 (ti_eq c_232) (by decide)
                            exact (r_v_47.no (by decide)).elim
                          · refine lv_aload_n hx hb dX10_readBookLine_235 rfl (lv_at hl 5 rfl) ?_
                            refine tk_i (va_runV (As := []) (rest := []) ⟨hx, hb, hml, hown, hts⟩ (c_X10_readEnd__3 l D cy z H.size Ps ws hw.1 p0 sg_48 h_p0 o_p0) (cwV 0 hts (gV tw_1409 tw_1411 ts_62 tw_15 tw_1412) rfl rfl rfl (by decide +kernel) ⟨Nat.le_of_ble_eq_true rfl, Nat.le_of_ble_eq_true rfl⟩) (tg_preV hw hK hSD hA (ci := 10) (q := (RX10, TX10, 49)) rfl h_p0 rfl) rfl rfl hl.1 rfl (lv_room (Nat.le_of_ble_eq_true rfl)) dX10_readBookLine_236 ⟨Nat.le_of_ble_eq_true rfl, Nat.le_of_ble_eq_true rfl⟩) hw hA ⟨by decide, by decide⟩ (fun v_50 ws H locs hp_v_50 hw hF9 => ?_)
                            have m_u_32 := FLD.over hF9 m_u_32 (by decide)
                            have m_u_34 := FLD.over hF9 m_u_34 (by decide)
                            have m_v_49 := FLD.over hF9 m_v_49 (by decide)
                            have x_OL_p0_v_33 := AX.over hF9 x_OL_p0_v_33 (by decide)
                            have x_LE_p0_v_33_0_6_6 := AX.over hF9 x_LE_p0_v_33_0_6_6 (by decide)
                            have x_LE_p0_v_33_1_1_60 := AX.over hF9 x_LE_p0_v_33_1_1_60 (by decide)
                            have x_LE_p0_v_33_2_0_0 := AX.over hF9 x_LE_p0_v_33_2_0_0 (by decide)
                            obtain ⟨hfn, hp_v_50⟩ := hp_v_50
                            obtain ⟨sg_51, q_sg_51⟩ : ∃ q9 : OS, (f_X10_readEnd__2 sg_48).1 = q9 := ⟨_, rfl⟩
                            have o_p0 : OV vw_M5 Ps ws p0 sg_51 := by rw [← q_sg_51]; exact hfn.1
                            have q_v_50 : (f_X10_readEnd__2 sg_48).2 = v_50 := hfn.2.1
                            have r_v_50 : RI v_50 0 1 := hp_v_50.1
                            refine lv_if_eq (tgt := 246) hx hb dX10_readBookLine_239 (by decide) (fun c_239 => ?_) (fun c_239 => ?_)
                            · have r_v_50 : RI v_50 0 0 := rc_eq1 r_v_50 rl_0 (ti_eq c_239) (by decide)
                              refine lv_iconst (v := 0) hx hb dX10_readBookLine_246 (by decide) ?_
                              simp only [f_X10_readBookLine__1, ↓reduceIte, q_v_1, eq_true c9_v_1, q_v_2, eq_true c9_v_2, q_v_3, eq_false c9_v_3, eq_true c_22, eq_true c_26, eq_false c_30, q_vu_32, eq_false c_93, q_v_33, eq_true c_117, eq_true c_125, q_sg_35, q_v_36, q_sg_37, q_v_38, q_sg_39, q_sg_41, eq_false c_214, q_sg_44, q_v_43, eq_false c9_v_43, q_sg_48, q_v_47, eq_false c9_v_47, eq_false c_232, q_sg_51, q_v_50, eq_true c_239] at hE
                              subst hQ
                              exact W.zret (v := 0) hx hb hr (rfl) (fun t ht hW => ⟨⟨0, ws, rfl, ⟨⟨⟨(by rw [hR, ← hE]; exact o_p0), (by rw [hR, ← hE]), trivial⟩, rl_0.to (by decide), (fun h0 => trivial), (fun h0 => absurd rfl h0)⟩, hw.1, hw.2.2.2.2.1⟩, by rw [ht]; exact hw.2.1, va_K.moved hW.alike hK, hw.2.2.1⟩, hw.2.2.2.1.F ht⟩) hw.2.2.2.1.2.2 dX10_readBookLine_247
                            · have r_v_50 : RI v_50 1 1 := rc_neL r_v_50 rl_0 (ti_ne c_239) (by decide)
                              have x_L9 := AX.and hw x_LE_p0_v_33_0_6_6 (AX.and hw x_LE_p0_v_33_1_1_60 x_LE_p0_v_33_2_0_0)
                              have x_GL_p0_v_33 : AX 40 52 (fun f => GLk f (Int32.toNatClampNeg v_33)) Ps ws p0 := AX.imp x_L9 (fun f9 h9 => ⟨⟨by have k1 := h9.1.1; omega, by have k1 := h9.1.2; omega⟩, by have k1 := h9.1.1; have k2 := h9.2.1.2; omega, by have k3 := h9.2.2.2; omega⟩)
                              have x_LNG_p0 : LNG Ps ws p0 := LNG.mk m_u_32 (by have k1 := t_v_33; omega) r_vu_32.1 (AX.and hw x_OL_p0_v_33 x_GL_p0_v_33)
                              refine lv_iconst (v := 1) hx hb dX10_readBookLine_242 (by decide) ?_
                              refine lv_goto (tgt := 247) hx hb dX10_readBookLine_243 (by decide) ?_
                              simp only [f_X10_readBookLine__1, ↓reduceIte, q_v_1, eq_true c9_v_1, q_v_2, eq_true c9_v_2, q_v_3, eq_false c9_v_3, eq_true c_22, eq_true c_26, eq_false c_30, q_vu_32, eq_false c_93, q_v_33, eq_true c_117, eq_true c_125, q_sg_35, q_v_36, q_sg_37, q_v_38, q_sg_39, q_sg_41, eq_false c_214, q_sg_44, q_v_43, eq_false c9_v_43, q_sg_48, q_v_47, eq_false c9_v_47, eq_false c_232, q_sg_51, q_v_50, eq_false c_239] at hE
                              subst hQ
                              exact W.zret (v := 1) hx hb hr (rfl) (fun t ht hW => ⟨⟨1, ws, rfl, ⟨⟨⟨(by rw [hR, ← hE]; exact o_p0), (by rw [hR, ← hE]), trivial⟩, rl_1.to (by decide), (fun _ => trivial), (fun h0 => ⟨⟨_, m_u_32, r_vu_32⟩, x_LNG_p0, trivial⟩)⟩, hw.1, hw.2.2.2.2.1⟩, by rw [ht]; exact hw.2.1, va_K.moved hW.alike hK, hw.2.2.1⟩, hw.2.2.2.1.F ht⟩) hw.2.2.2.1.2.2 dX10_readBookLine_247
                  · exact absurd (r_v_2.eq.trans rl_0.eq.symm) ((ti_ne c_125))
                · exact absurd (r_v_1.eq.trans rl_0.eq.symm) ((ti_ne c_117))
              · have r_vu_32 : RI vu_32 40 40 := rc_eq1 r_vu_32 rl_40 (ti_eq c_93) (by decide)
                refine lv_aload_n hx hb dX10_readBookLine_96 rfl (lv_at hl 4 rfl) ?_
                refine lv_iconst (v := 4) hx hb dX10_readBookLine_97 (by decide) ?_
                refine tk_i (va_runV (As := [.int 4]) (rest := []) ⟨hx, hb, hml, hown, hts⟩ (c_X10_bad__3 l D cy z H.size Ps w0 hw.1 p0 4 s0 h_p0 (rl_4.to (by decide)) o_p0) (cwV 1 hts (gV tw_1336 tw_1338 ts_46 tw_15 tw_1339) rfl rfl rfl (by decide +kernel) ⟨Nat.le_of_ble_eq_true rfl, Nat.le_of_ble_eq_true rfl⟩) (tg_preV hw hK hSD hA (ci := 10) (q := (RX10, TX10, 49)) rfl h_p0 rfl) rfl rfl hl.1 rfl (lv_room (Nat.le_of_ble_eq_true rfl)) dX10_readBookLine_98 ⟨Nat.le_of_ble_eq_true rfl, Nat.le_of_ble_eq_true rfl⟩) hw hA ⟨by decide, by decide⟩ (fun v_52 ws H locs hp_v_52 hw hF9 => ?_)
                have m_u_32 := FLD.over hF9 m_u_32 (by decide)
                have x_LNS_p0 := LNS.over hF9 x_LNS_p0 (by decide)
                have x_WRD_p0_2968 := WRD.over hF9 x_WRD_p0_2968 (by decide)
                obtain ⟨hfn, hp_v_52⟩ := hp_v_52
                obtain ⟨sg_53, q_sg_53⟩ : ∃ q9 : OS, (f_X10_bad__1 (4 : Int32) s0).1 = q9 := ⟨_, rfl⟩
                have o_p0 : OV vw_M5 Ps ws p0 sg_53 := by rw [← q_sg_53]; exact hfn.1
                have q_v_52 : (f_X10_bad__1 (4 : Int32) s0).2 = v_52 := hfn.2.1
                have r_v_52 : RI v_52 0 0 := hp_v_52.1
                simp only [f_X10_readBookLine__1, ↓reduceIte, q_v_1, eq_true c9_v_1, q_v_2, eq_true c9_v_2, q_v_3, eq_false c9_v_3, eq_true c_22, eq_true c_26, eq_false c_30, q_vu_32, eq_true c_93, q_sg_53, q_v_52] at hE
                subst hQ
                exact W.zret (v := v_52) hx hb hr (tq_nz (r_v_52.to (by decide))) (fun t ht hW => ⟨⟨v_52, ws, rfl, ⟨⟨⟨(by rw [hR, ← hE]; exact o_p0), (by rw [hR, ← hE]), trivial⟩, r_v_52.to (by decide), (fun h0 => trivial), (fun h0 => absurd (Int32.toInt_inj.mp (by have h8 := r_v_52; unfold RI at h8; rw [Int32.toInt_zero]; omega)) h0)⟩, hw.1, hw.2.2.2.2.1⟩, by rw [ht]; exact hw.2.1, va_K.moved hW.alike hK, hw.2.2.1⟩, hw.2.2.2.1.F ht⟩) hw.2.2.2.1.2.2 dX10_readBookLine_101
            · have r_v_3 : RI v_3 1 0 := rc_eq1 r_v_3 rl_0 (ti_eq c_30) (by decide)
              exact (r_v_3.no (by decide)).elim
    · have r_v_2 : RI v_2 1 1 := rc_neL r_v_2 rl_0 (ti_ne c9_v_2) (by decide)
      have x_WRD_p0_1627639 := ((hp_v_2.2.2 c9_v_2).1)
      refine lv_istore_n (lv' := [(2, .int v_2), (1, .int v_1), (0, .ref p0)]) hx hb dX10_readBookLine_13 rfl hl (by decide) rfl (fun ls hl => ?_)
      refine lv_aload_n hx hb dX10_readBookLine_14 rfl (lv_at hl 2 rfl) ?_
      refine lv_bipush (v := 15) hx hb dX10_readBookLine_15 (by decide) ?_
      refine tk_ir (va_runV (As := [.int 15]) (rest := []) ⟨hx, hb, hml, hown, hts⟩ (c_X10_isWord__8 l D cy z H.size Ps w0 hw.1 p0 15 s0 h_p0 rl_15 o_p0) (cwV 1 hts (gV tw_1318 tw_1320 ts_43 tw_15 tw_1321) rfl rfl rfl (by decide +kernel) ⟨Nat.le_of_ble_eq_true rfl, Nat.le_of_ble_eq_true rfl⟩) (tg_preV hw hK hSD hA (ci := 10) (q := (RX10, TX10, 49)) rfl h_p0 rfl) rfl rfl hl.1 rfl (lv_room (Nat.le_of_ble_eq_true rfl)) dX10_readBookLine_17 ⟨Nat.le_of_ble_eq_true rfl, Nat.le_of_ble_eq_true rfl⟩) hw hA (fun v_54  H locs hp_v_54 hw => ?_)
      obtain ⟨hfn, hp_v_54⟩ := hp_v_54
      have q_v_54 : (f_X10_isWord__8 (15 : Int32) s0) = v_54 := hfn.1
      have r_v_54 : RI v_54 0 1 := hp_v_54.1
      by_cases c9_v_54 : v_54 = 0
      · have r_v_54 : RI v_54 0 0 := by rw [c9_v_54]; exact rl_0
        refine lv_istore_n (lv' := [(3, .int v_54), (2, .int v_2), (1, .int v_1), (0, .ref p0)]) hx hb dX10_readBookLine_20 rfl hl (by decide) rfl (fun ls hl => ?_)
        refine lv_iload_n hx hb dX10_readBookLine_21 rfl (lv_at hl 2 rfl) ?_
        refine lv_if_ne (tgt := 37) hx hb dX10_readBookLine_22 (by decide) (fun c_22 => ?_) (fun c_22 => ?_)
        · exact absurd (r_v_1.eq.trans rl_0.eq.symm) ((ti_ne c_22))
        · refine lv_iload_n hx hb dX10_readBookLine_25 rfl (lv_at hl 1 rfl) ?_
          refine lv_if_ne (tgt := 37) hx hb dX10_readBookLine_26 (by decide) (fun c_26 => ?_) (fun c_26 => ?_)
          · refine lv_iconst (v := 0) hx hb dX10_readBookLine_37 (by decide) ?_
            refine lv_istore (lv' := [(4, .int 0), (3, .int v_54), (2, .int v_2), (1, .int v_1), (0, .ref p0)]) hx hb dX10_readBookLine_38 hl (by decide) rfl (fun ls hl => ?_)
            refine lv_iload hx hb dX10_readBookLine_40 (lv_at hl 0 rfl) ?_
            refine lv_if_eq (tgt := 87) hx hb dX10_readBookLine_42 (by decide) (fun _ => ?_) (fun c9 => absurd (by decide) c9)
            refine lv_aload_n hx hb dX10_readBookLine_87 rfl (lv_at hl 4 rfl) ?_
            refine tg_get (ci := 10) (ts := ty_MODEL) (C := RX10) (T := TX10) (N := 49) hx hb hts inX10 hown hK hw h_p0 rfl rfl 42 (by decide) (hts _ tw_1179) (fun _ h9 => h9) (ft := vI 0 40) rfl dX10_readBookLine_88 (fun u_55 hv_u_55 m_u_55 => ?_)
            obtain ⟨vu_55, rfl, r_vu_55⟩ := hv_u_55
            have q_vu_55 : s0.1 42 = vu_55 := OV.eqI (V := vw_M5) hw.2.2.1 o_p0 m_u_55 (by decide)
            refine lv_bipush (v := 40) hx hb dX10_readBookLine_91 (by decide) ?_
            refine lv_icmp_ne (tgt := 102) hx hb dX10_readBookLine_93 (by decide) (fun c_93 => ?_) (fun c_93 => ?_)
            · have r_vu_55 : RI vu_55 0 39 := rc_neU r_vu_55 rl_40 (ti_ne c_93) (by decide)
              refine lv_iconst (v := 3) hx hb dX10_readBookLine_102 (by decide) ?_
              refine lv_aload_n hx hb dX10_readBookLine_103 rfl (lv_at hl 4 rfl) ?_
              refine tg_mem (ci := 10) (C := RX10) (T := TX10) (N := 49) hx hb hts inX10 hown hK hw 42 m_u_55 rfl (by decide) (hts _ tw_1179) (fun _ h9 => h9) dX10_readBookLine_104 ?_
              refine lv_imul hx hb dX10_readBookLine_107 (lv_topi (fun v_56 e_v_56 => ?_))
              obtain ⟨t_v_56, r_v_56⟩ := tq_mul (lo := 0) (hi := 117) rl_3 r_vu_55 (by decide +kernel) e_v_56
              have t_v_56 : v_56.toInt = 3 * vu_55.toInt := t_v_56
              have q_v_56 : (3 : Int32) * vu_55 = v_56 := e_v_56.symm
              refine lv_istore (lv' := [(5, .int v_56), (4, .int 0), (3, .int v_54), (2, .int v_2), (1, .int v_1), (0, .ref p0)]) hx hb dX10_readBookLine_108 hl (by decide) rfl (fun ls hl => ?_)
              have x_OL_p0_v_56 : AX 40 52 (fun f => OLp f v_56) Ps w0 p0 := LNS.ol hw x_LNS_p0 m_u_55 (by have k1 := t_v_56; omega)
              have x_MUL3_v_56 : (∃ n : Int, Int32.toInt v_56 = 3 * n) := ⟨vu_55.toInt, by have k1 := t_v_56; omega⟩
              have g_at := x_MUL3_v_56
              have x_LE_p0_v_56_0_0_60 : AX 40 52 (fun f => 0 ≤ (f (Int32.toNatClampNeg v_56)).toInt ∧ (f (Int32.toNatClampNeg v_56)).toInt ≤ 60) Ps w0 p0 := AX.imp (ax_of (k := 40) (t := 52) hw h_p0 rfl (fun _ => rfl)) (fun f9 h9 => h9.2 _ (by have k1 := r_v_56.cl (by decide); have k2 := r_v_56.2; omega))
              have x_LE_p0_v_56_1_0_60 : AX 40 52 (fun f => 0 ≤ (f (Int32.toNatClampNeg v_56 + 1)).toInt ∧ (f (Int32.toNatClampNeg v_56 + 1)).toInt ≤ 60) Ps w0 p0 := AX.imp (ax_of (k := 40) (t := 52) hw h_p0 rfl (fun _ => rfl)) (fun f9 h9 => h9.2 _ (by have k1 := r_v_56.cl (by decide); have k2 := r_v_56.2; omega))
              have x_LE_p0_v_56_2_0_60 : AX 40 52 (fun f => 0 ≤ (f (Int32.toNatClampNeg v_56 + 2)).toInt ∧ (f (Int32.toNatClampNeg v_56 + 2)).toInt ≤ 60) Ps w0 p0 := AX.imp (ax_of (k := 40) (t := 52) hw h_p0 rfl (fun _ => rfl)) (fun f9 h9 => h9.2 _ (by have k1 := r_v_56.cl (by decide); have k2 := r_v_56.2; omega))
              refine lv_aload_n hx hb dX10_readBookLine_110 rfl (lv_at hl 5 rfl) ?_
              refine tg_get (ci := 10) (ts := ty_MODEL) (C := RX10) (T := TX10) (N := 49) hx hb hts inX10 hown hK hw h_p0 rfl rfl 40 (by decide) (hts _ tw_1177) (fun _ h9 => h9) (ft := vR 52) rfl dX10_readBookLine_111 (fun u_57 hv_u_57 m_u_57 => ?_)
              obtain ⟨vu_57, rfl, h_vu_57⟩ := hv_u_57
              refine lv_iload hx hb dX10_readBookLine_114 (lv_at hl 0 rfl) ?_
              refine lv_iload_n hx hb dX10_readBookLine_116 rfl (lv_at hl 4 rfl) ?_
              refine lv_if_eq (tgt := 124) hx hb dX10_readBookLine_117 (by decide) (fun c_117 => ?_) (fun c_117 => ?_)
              · refine lv_iload_n hx hb dX10_readBookLine_124 rfl (lv_at hl 3 rfl) ?_
                refine lv_if_eq (tgt := 132) hx hb dX10_readBookLine_125 (by decide) (fun c_125 => ?_) (fun c_125 => ?_)
                · have r_v_2 : RI v_2 1 0 := rc_eq1 r_v_2 rl_0 (ti_eq c_125) (by decide)
                  exact (r_v_2.no (by decide)).elim
                · refine lv_iconst (v := 5) hx hb dX10_readBookLine_128 (by decide) ?_
                  refine lv_goto (tgt := 134) hx hb dX10_readBookLine_129 (by decide) ?_
                  have mo9 := m_u_57
                  refine tg_iast hx hb hK hw h_vu_57 rfl 0 117 r_v_56 (by decide) rl_5 (by exact fun _ _ _ => by decide) (fun _ _ _ _ _ => trivial) (by decide) dX10_readBookLine_134 (fun ws H locs hw hF9 hU9 => ?_)
                  have x_OL_p0_v_56 : AX 40 52 (fun f => OLp f v_56) Ps ws p0 := AX.ast hF9 hU9 x_OL_p0_v_56 m_u_57 (fun f9 h9 => OL_upd h9 g_at (by have k1 := r_v_56.cl (by decide); have k2 := r_v_56.1; omega))
                  have x_LE_p0_v_56_0_5_5 : AX 40 52 (fun f => 5 ≤ (f (Int32.toNatClampNeg v_56)).toInt ∧ (f (Int32.toNatClampNeg v_56)).toInt ≤ 5) Ps ws p0 := AX.ast hF9 hU9 x_LE_p0_v_56_0_0_60 m_u_57 (fun f9 h9 => by show _ ∧ _; rw [pk_us]; exact rl_5)
                  have x_LE_p0_v_56_1_0_60 : AX 40 52 (fun f => 0 ≤ (f (Int32.toNatClampNeg v_56 + 1)).toInt ∧ (f (Int32.toNatClampNeg v_56 + 1)).toInt ≤ 60) Ps ws p0 := AX.ast hF9 hU9 x_LE_p0_v_56_1_0_60 m_u_57 (fun f9 h9 => by have j9 : Int32.toNatClampNeg v_56 = Int32.toNatClampNeg v_56 + 0 := (by have k1 := r_v_56.cl (by decide); have k2 := r_v_56.cl (by decide); omega); show _ ∧ _; rw [pk_un (by omega)]; exact h9)
                  have x_LE_p0_v_56_2_0_60 : AX 40 52 (fun f => 0 ≤ (f (Int32.toNatClampNeg v_56 + 2)).toInt ∧ (f (Int32.toNatClampNeg v_56 + 2)).toInt ≤ 60) Ps ws p0 := AX.ast hF9 hU9 x_LE_p0_v_56_2_0_60 m_u_57 (fun f9 h9 => by have j9 : Int32.toNatClampNeg v_56 = Int32.toNatClampNeg v_56 + 0 := (by have k1 := r_v_56.cl (by decide); have k2 := r_v_56.cl (by decide); omega); show _ ∧ _; rw [pk_un (by omega)]; exact h9)
                  have x_WRD_p0_1627639 := WRD.over hF9 x_WRD_p0_1627639 (by decide)
                  have m_u_55 := FLD.over hF9 m_u_55 (by decide)
                  have m_u_57 := FLD.over hF9 m_u_57 (by decide)
                  obtain ⟨sg_58, q_sg_58⟩ : ∃ q9 : OS, sA s0 40 (Int32.toNatClampNeg v_56) (5 : Int32) = q9 := ⟨_, rfl⟩
                  have o_p0 : OV vw_M5 Ps ws p0 sg_58 := by rw [← q_sg_58]; exact OV.putA (V := vw_M5) (t := 52) hF9 hU9 o_p0 mo9 (by decide) (by decide)
                  refine lv_aload_n hx hb dX10_readBookLine_135 rfl (lv_at hl 5 rfl) ?_
                  refine tg_mem (ci := 10) (C := RX10) (T := TX10) (N := 49) hx hb hts inX10 hown hK hw 40 m_u_57 rfl (by decide) (hts _ tw_1177) (fun _ h9 => h9) dX10_readBookLine_136 ?_
                  refine lv_iload hx hb dX10_readBookLine_139 (lv_at hl 0 rfl) ?_
                  refine lv_iconst (v := 1) hx hb dX10_readBookLine_141 (by decide) ?_
                  refine lv_iadd hx hb dX10_readBookLine_142 (lv_topi (fun v_59 e_v_59 => ?_))
                  obtain ⟨t_v_59, r_v_59⟩ := tq_add (lo := 1) (hi := 118) r_v_56 rl_1 (by decide +kernel) e_v_59
                  have t_v_59 : v_59.toInt = v_56.toInt + 1 := t_v_59
                  have q_v_59 : v_56 + (1 : Int32) = v_59 := e_v_59.symm
                  refine lv_iload hx hb dX10_readBookLine_143 (lv_at hl 1 rfl) ?_
                  refine lv_if_eq (tgt := 170) hx hb dX10_readBookLine_145 (by decide) (fun _ => ?_) (fun c9 => absurd (by decide) c9)
                  refine lv_iconst (v := 0) hx hb dX10_readBookLine_170 (by decide) ?_
                  have mo9 := m_u_57
                  refine tg_iast hx hb hK hw h_vu_57 rfl 1 118 r_v_59 (by decide) rl_0 (by exact fun _ _ _ => by decide) (fun _ _ _ _ _ => trivial) (by decide) dX10_readBookLine_171 (fun ws H locs hw hF9 hU9 => ?_)
                  have x_OL_p0_v_56 : AX 40 52 (fun f => OLp f v_56) Ps ws p0 := AX.ast hF9 hU9 x_OL_p0_v_56 m_u_57 (fun f9 h9 => OL_upd h9 g_at (by have k1 := r_v_59.cl (by decide); have k2 := r_v_56.1; omega))
                  have x_LE_p0_v_56_0_5_5 : AX 40 52 (fun f => 5 ≤ (f (Int32.toNatClampNeg v_56)).toInt ∧ (f (Int32.toNatClampNeg v_56)).toInt ≤ 5) Ps ws p0 := AX.ast hF9 hU9 x_LE_p0_v_56_0_5_5 m_u_57 (fun f9 h9 => by have j9 : Int32.toNatClampNeg v_59 = Int32.toNatClampNeg v_56 + 1 := (by have k1 := r_v_59.cl (by decide); have k2 := r_v_56.cl (by decide); omega); show _ ∧ _; rw [pk_un (by omega)]; exact h9)
                  have x_LE_p0_v_56_1_0_0 : AX 40 52 (fun f => 0 ≤ (f (Int32.toNatClampNeg v_56 + 1)).toInt ∧ (f (Int32.toNatClampNeg v_56 + 1)).toInt ≤ 0) Ps ws p0 := AX.ast hF9 hU9 x_LE_p0_v_56_1_0_60 m_u_57 (fun f9 h9 => by have j9 : Int32.toNatClampNeg v_59 = Int32.toNatClampNeg v_56 + 1 := (by have k1 := r_v_59.cl (by decide); have k2 := r_v_56.cl (by decide); omega); show _ ∧ _; rw [← j9, pk_us]; exact rl_0)
                  have x_LE_p0_v_56_2_0_60 : AX 40 52 (fun f => 0 ≤ (f (Int32.toNatClampNeg v_56 + 2)).toInt ∧ (f (Int32.toNatClampNeg v_56 + 2)).toInt ≤ 60) Ps ws p0 := AX.ast hF9 hU9 x_LE_p0_v_56_2_0_60 m_u_57 (fun f9 h9 => by have j9 : Int32.toNatClampNeg v_59 = Int32.toNatClampNeg v_56 + 1 := (by have k1 := r_v_59.cl (by decide); have k2 := r_v_56.cl (by decide); omega); show _ ∧ _; rw [pk_un (by omega)]; exact h9)
                  have x_WRD_p0_1627639 := WRD.over hF9 x_WRD_p0_1627639 (by decide)
                  have m_u_55 := FLD.over hF9 m_u_55 (by decide)
                  have m_u_57 := FLD.over hF9 m_u_57 (by decide)
                  obtain ⟨sg_60, q_sg_60⟩ : ∃ q9 : OS, sA sg_58 40 (Int32.toNatClampNeg v_59) (0 : Int32) = q9 := ⟨_, rfl⟩
                  have o_p0 : OV vw_M5 Ps ws p0 sg_60 := by rw [← q_sg_60]; exact OV.putA (V := vw_M5) (t := 52) hF9 hU9 o_p0 mo9 (by decide) (by decide)
                  refine lv_aload_n hx hb dX10_readBookLine_172 rfl (lv_at hl 5 rfl) ?_
                  refine tg_mem (ci := 10) (C := RX10) (T := TX10) (N := 49) hx hb hts inX10 hown hK hw 40 m_u_57 rfl (by decide) (hts _ tw_1177) (fun _ h9 => h9) dX10_readBookLine_173 ?_
                  refine lv_iload hx hb dX10_readBookLine_176 (lv_at hl 0 rfl) ?_
                  refine lv_iconst (v := 2) hx hb dX10_readBookLine_178 (by decide) ?_
                  refine lv_iadd hx hb dX10_readBookLine_179 (lv_topi (fun v_61 e_v_61 => ?_))
                  obtain ⟨t_v_61, r_v_61⟩ := tq_add (lo := 2) (hi := 119) r_v_56 rl_2 (by decide +kernel) e_v_61
                  have t_v_61 : v_61.toInt = v_56.toInt + 2 := t_v_61
                  have q_v_61 : v_56 + (2 : Int32) = v_61 := e_v_61.symm
                  refine lv_iconst (v := 0) hx hb dX10_readBookLine_180 (by decide) ?_
                  have mo9 := m_u_57
                  refine tg_iast hx hb hK hw h_vu_57 rfl 2 119 r_v_61 (by decide) rl_0 (by exact fun _ _ _ => by decide) (fun _ _ _ _ _ => trivial) (by decide) dX10_readBookLine_181 (fun ws H locs hw hF9 hU9 => ?_)
                  have x_OL_p0_v_56 : AX 40 52 (fun f => OLp f v_56) Ps ws p0 := AX.ast hF9 hU9 x_OL_p0_v_56 m_u_57 (fun f9 h9 => OL_upd h9 g_at (by have k1 := r_v_61.cl (by decide); have k2 := r_v_56.1; omega))
                  have x_LE_p0_v_56_0_5_5 : AX 40 52 (fun f => 5 ≤ (f (Int32.toNatClampNeg v_56)).toInt ∧ (f (Int32.toNatClampNeg v_56)).toInt ≤ 5) Ps ws p0 := AX.ast hF9 hU9 x_LE_p0_v_56_0_5_5 m_u_57 (fun f9 h9 => by have j9 : Int32.toNatClampNeg v_61 = Int32.toNatClampNeg v_56 + 2 := (by have k1 := r_v_61.cl (by decide); have k2 := r_v_56.cl (by decide); omega); show _ ∧ _; rw [pk_un (by omega)]; exact h9)
                  have x_LE_p0_v_56_1_0_0 : AX 40 52 (fun f => 0 ≤ (f (Int32.toNatClampNeg v_56 + 1)).toInt ∧ (f (Int32.toNatClampNeg v_56 + 1)).toInt ≤ 0) Ps ws p0 := AX.ast hF9 hU9 x_LE_p0_v_56_1_0_0 m_u_57 (fun f9 h9 => by have j9 : Int32.toNatClampNeg v_61 = Int32.toNatClampNeg v_56 + 2 := (by have k1 := r_v_61.cl (by decide); have k2 := r_v_56.cl (by decide); omega); show _ ∧ _; rw [pk_un (by omega)]; exact h9)
                  have x_LE_p0_v_56_2_0_0 : AX 40 52 (fun f => 0 ≤ (f (Int32.toNatClampNeg v_56 + 2)).toInt ∧ (f (Int32.toNatClampNeg v_56 + 2)).toInt ≤ 0) Ps ws p0 := AX.ast hF9 hU9 x_LE_p0_v_56_2_0_60 m_u_57 (fun f9 h9 => by have j9 : Int32.toNatClampNeg v_61 = Int32.toNatClampNeg v_56 + 2 := (by have k1 := r_v_61.cl (by decide); have k2 := r_v_56.cl (by decide); omega); show _ ∧ _; rw [← j9, pk_us]; exact rl_0)
                  have x_WRD_p0_1627639 := WRD.over hF9 x_WRD_p0_1627639 (by decide)
                  have m_u_55 := FLD.over hF9 m_u_55 (by decide)
                  have m_u_57 := FLD.over hF9 m_u_57 (by decide)
                  obtain ⟨sg_62, q_sg_62⟩ : ∃ q9 : OS, sA sg_60 40 (Int32.toNatClampNeg v_61) (0 : Int32) = q9 := ⟨_, rfl⟩
                  have o_p0 : OV vw_M5 Ps ws p0 sg_62 := by rw [← q_sg_62]; exact OV.putA (V := vw_M5) (t := 52) hF9 hU9 o_p0 mo9 (by decide) (by decide)
                  refine lv_aload_n hx hb dX10_readBookLine_182 rfl (lv_at hl 5 rfl) ?_
                  refine tk_v (va_runV (As := []) (rest := []) ⟨hx, hb, hml, hown, hts⟩ (c_X10_go__5 l D cy z H.size Ps ws hw.1 p0 sg_62 h_p0 o_p0) (cwV 0 hts (gV tw_1298 tw_1300 ts_40 tw_15 tw_1301) rfl rfl rfl (by decide +kernel) ⟨Nat.le_of_ble_eq_true rfl, Nat.le_of_ble_eq_true rfl⟩) (tg_preV hw hK hSD hA (ci := 10) (q := (RX10, TX10, 49)) rfl h_p0 rfl) rfl rfl hl.1 rfl (lv_room (Nat.le_of_ble_eq_true rfl)) dX10_readBookLine_183 ⟨Nat.le_of_ble_eq_true rfl, Nat.le_of_ble_eq_true rfl⟩) hw hA ⟨by decide, by decide⟩ (fun ws H locs hp_v_63 hw hF9 => ?_)
                  have m_u_55 := FLD.over hF9 m_u_55 (by decide)
                  have m_u_57 := FLD.over hF9 m_u_57 (by decide)
                  have x_OL_p0_v_56 := AX.over hF9 x_OL_p0_v_56 (by decide)
                  have x_LE_p0_v_56_0_5_5 := AX.over hF9 x_LE_p0_v_56_0_5_5 (by decide)
                  have x_LE_p0_v_56_1_0_0 := AX.over hF9 x_LE_p0_v_56_1_0_0 (by decide)
                  have x_LE_p0_v_56_2_0_0 := AX.over hF9 x_LE_p0_v_56_2_0_0 (by decide)
                  obtain ⟨hfn, hp_v_63⟩ := hp_v_63
                  obtain ⟨sg_64, q_sg_64⟩ : ∃ q9 : OS, (f_X10_go__2 sg_62) = q9 := ⟨_, rfl⟩
                  have o_p0 : OV vw_M5 Ps ws p0 sg_64 := by rw [← q_sg_64]; exact hfn.1
                  refine lv_iload hx hb dX10_readBookLine_186 (lv_at hl 1 rfl) ?_
                  refine lv_if_eq (tgt := 213) hx hb dX10_readBookLine_188 (by decide) (fun _ => ?_) (fun c9 => absurd (by decide) c9)
                  refine lv_iload_n hx hb dX10_readBookLine_213 rfl (lv_at hl 2 rfl) ?_
                  refine lv_if_eq (tgt := 248) hx hb dX10_readBookLine_214 (by decide) (fun c_214 => ?_) (fun c_214 => ?_)
                  · refine lv_aload_n hx hb dX10_readBookLine_248 rfl (lv_at hl 5 rfl) ?_
                    refine lv_iload hx hb dX10_readBookLine_249 (lv_at hl 0 rfl) ?_
                    refine lv_iconst (v := 1) hx hb dX10_readBookLine_251 (by decide) ?_
                    refine lv_iadd hx hb dX10_readBookLine_252 (lv_topi (fun v_65 e_v_65 => ?_))
                    obtain ⟨t_v_65, r_v_65⟩ := tq_add (lo := 1) (hi := 118) r_v_56 rl_1 (by decide +kernel) e_v_65
                    have t_v_65 : v_65.toInt = v_56.toInt + 1 := t_v_65
                    have z9 : v_59 = v_65 := q_v_59.symm.trans (e_v_65.symm)
                    subst z9
                    refine lv_aload_n hx hb dX10_readBookLine_253 rfl (lv_at hl 5 rfl) ?_
                    refine tk_i (va_runV (As := []) (rest := [.int v_59, .ref p0]) ⟨hx, hb, hml, hown, hts⟩ (c_X10_readParcelName__1 l D cy z H.size Ps ws hw.1 p0 sg_64 h_p0 o_p0) (cwV 0 hts (gV tw_1719 tw_1721 ts_105 tw_15 tw_1722) rfl rfl rfl (by decide +kernel) ⟨Nat.le_of_ble_eq_true rfl, Nat.le_of_ble_eq_true rfl⟩) (tg_preV hw hK hSD hA (ci := 10) (q := (RX10, TX10, 49)) rfl h_p0 rfl) rfl rfl hl.1 rfl (lv_room (Nat.le_of_ble_eq_true rfl)) dX10_readBookLine_254 ⟨Nat.le_of_ble_eq_true rfl, Nat.le_of_ble_eq_true rfl⟩) hw hA ⟨by decide, by decide⟩ (fun v_66 ws H locs hp_v_66 hw hF9 => ?_)
                    have m_u_55 := FLD.over hF9 m_u_55 (by decide)
                    have m_u_57 := FLD.over hF9 m_u_57 (by decide)
                    have x_OL_p0_v_56 := AX.over hF9 x_OL_p0_v_56 (by decide)
                    have x_LE_p0_v_56_0_5_5 := AX.over hF9 x_LE_p0_v_56_0_5_5 (by decide)
                    have x_LE_p0_v_56_1_0_0 := AX.over hF9 x_LE_p0_v_56_1_0_0 (by decide)
                    have x_LE_p0_v_56_2_0_0 := AX.over hF9 x_LE_p0_v_56_2_0_0 (by decide)
                    obtain ⟨hfn, hp_v_66⟩ := hp_v_66
                    obtain ⟨sg_67, q_sg_67⟩ : ∃ q9 : OS, (f_X10_readParcelName__1 sg_64).1 = q9 := ⟨_, rfl⟩
                    have o_p0 : OV vw_M5 Ps ws p0 sg_67 := by rw [← q_sg_67]; exact hfn.1
                    have q_v_66 : (f_X10_readParcelName__1 sg_64).2 = v_66 := hfn.2.1
                    have r_v_66 : RI v_66 0 1 := hp_v_66.1
                    by_cases c9_v_66 : v_66 = 0
                    · have r_v_66 : RI v_66 0 0 := by rw [c9_v_66]; exact rl_0
                      refine tk_ir (va_runV (As := [.int v_59, .int v_66]) (rest := []) ⟨hx, hb, hml, hown, hts⟩ (c_X10_keep__8 l D cy z H.size Ps ws hw.1 p0 v_59 v_66 (fun f => OLp f v_56 ∧ (5 ≤ (f (Int32.toNatClampNeg v_56)).toInt ∧ (f (Int32.toNatClampNeg v_56)).toInt ≤ 5) ∧ (0 ≤ (f (Int32.toNatClampNeg v_56 + 1)).toInt ∧ (f (Int32.toNatClampNeg v_56 + 1)).toInt ≤ 0) ∧ (0 ≤ (f (Int32.toNatClampNeg v_56 + 2)).toInt ∧ (f (Int32.toNatClampNeg v_56 + 2)).toInt ≤ 0) ∧ True) (fun f => OLp f v_56 ∧ (5 ≤ (f (Int32.toNatClampNeg v_56)).toInt ∧ (f (Int32.toNatClampNeg v_56)).toInt ≤ 5) ∧ ((-2147483648) ≤ (f (Int32.toNatClampNeg v_56 + 1)).toInt ∧ (f (Int32.toNatClampNeg v_56 + 1)).toInt ≤ 2147483647) ∧ (0 ≤ (f (Int32.toNatClampNeg v_56 + 2)).toInt ∧ (f (Int32.toNatClampNeg v_56 + 2)).toInt ≤ 0) ∧ True) sg_67 h_p0 r_v_59 r_v_66 (AX.and hw x_OL_p0_v_56 (AX.and hw x_LE_p0_v_56_0_5_5 (AX.and hw x_LE_p0_v_56_1_0_0 (AX.and hw x_LE_p0_v_56_2_0_0 (lx_true hw h_p0))))) (fun f9 v9 hv9 H9 => ⟨(have h9 := H9.1; OL_upd h9 g_at (by have k1 := r_v_59.cl (by decide); have k2 := r_v_56.1; omega)), (have h9 := H9.2.1; by have j9 : Int32.toNatClampNeg v_59 = Int32.toNatClampNeg v_56 + 1 := (by have k1 := r_v_59.cl (by decide); have k2 := r_v_56.cl (by decide); omega); show _ ∧ _; rw [pk_un (by omega)]; exact h9), (have h9 := H9.2.2.1; by have j9 : Int32.toNatClampNeg v_59 = Int32.toNatClampNeg v_56 + 1 := (by have k1 := r_v_59.cl (by decide); have k2 := r_v_56.cl (by decide); omega); show _ ∧ _; rw [← j9, pk_us]; exact hv9), (have h9 := H9.2.2.2.1; by have j9 : Int32.toNatClampNeg v_59 = Int32.toNatClampNeg v_56 + 1 := (by have k1 := r_v_59.cl (by decide); have k2 := r_v_56.cl (by decide); omega); show _ ∧ _; rw [pk_un (by omega)]; exact h9), trivial⟩) o_p0) (cwV 2 hts (gV tw_1727 tw_1729 ts_107 tw_15 tw_1730) rfl rfl rfl (by decide +kernel) ⟨Nat.le_of_ble_eq_true rfl, Nat.le_of_ble_eq_true rfl⟩) (tg_preV hw hK hSD hA (ci := 10) (q := (RX10, TX10, 49)) rfl h_p0 rfl) rfl rfl hl.1 rfl (lv_room (Nat.le_of_ble_eq_true rfl)) dX10_readBookLine_257 ⟨Nat.le_of_ble_eq_true rfl, Nat.le_of_ble_eq_true rfl⟩) hw hA (fun v_68  H locs hp_v_68 hw => ?_)
                      obtain ⟨hfn, hp_v_68⟩ := hp_v_68
                      have q_v_68 : (f_X10_keep__6 v_59 v_66 sg_67) = v_68 := hfn.1
                      have r_v_68 : RI v_68 0 0 := hp_v_68.1
                      by_cases c9_v_68 : v_68 = 0
                      · have r_v_68 : RI v_68 0 0 := by rw [c9_v_68]; exact rl_0
                        have x_OL_p0_v_56 : AX 40 52 (fun f => OLp f v_56) Ps ws p0 := AX.imp ((hp_v_68.2.1 c9_v_68).1) (fun _ h9 => h9.1)
                        have x_LE_p0_v_56_0_5_5 : AX 40 52 (fun f => 5 ≤ (f (Int32.toNatClampNeg v_56)).toInt ∧ (f (Int32.toNatClampNeg v_56)).toInt ≤ 5) Ps ws p0 := AX.imp ((hp_v_68.2.1 c9_v_68).1) (fun _ h9 => h9.2.1)
                        have x_LE_p0_v_56_1_0_0 : AX 40 52 (fun f => 0 ≤ (f (Int32.toNatClampNeg v_56 + 1)).toInt ∧ (f (Int32.toNatClampNeg v_56 + 1)).toInt ≤ 0) Ps ws p0 := AX.imp ((hp_v_68.2.1 c9_v_68).1) (fun _ h9 => h9.2.2.1)
                        have x_LE_p0_v_56_2_0_0 : AX 40 52 (fun f => 0 ≤ (f (Int32.toNatClampNeg v_56 + 2)).toInt ∧ (f (Int32.toNatClampNeg v_56 + 2)).toInt ≤ 0) Ps ws p0 := AX.imp ((hp_v_68.2.1 c9_v_68).1) (fun _ h9 => h9.2.2.2.1)
                        refine lv_if_ne (tgt := 265) hx hb dX10_readBookLine_260 (by decide) (fun c_260 => ?_) (fun c_260 => ?_)
                        · exact absurd (r_v_68.eq.trans rl_0.eq.symm) ((ti_ne c_260))
                        · refine lv_iconst (v := 0) hx hb dX10_readBookLine_263 (by decide) ?_
                          simp only [f_X10_readBookLine__1, ↓reduceIte, q_v_1, eq_true c9_v_1, q_v_2, eq_false c9_v_2, q_v_54, eq_true c9_v_54, eq_true c_22, eq_false c_26, q_vu_55, eq_false c_93, q_v_56, eq_true c_117, eq_false c_125, q_sg_58, q_v_59, q_sg_60, q_v_61, q_sg_62, q_sg_64, eq_true c_214, q_sg_67, q_v_66, eq_true c9_v_66, q_v_68, eq_true c9_v_68, eq_true c_260] at hE
                          subst hQ
                          exact W.zret (v := 0) hx hb hr (rfl) (fun t ht hW => ⟨⟨0, ws, rfl, ⟨⟨⟨(by rw [hR, ← hE]; exact o_p0), (by rw [hR, ← hE]), trivial⟩, rl_0.to (by decide), (fun h0 => trivial), (fun h0 => absurd rfl h0)⟩, hw.1, hw.2.2.2.2.1⟩, by rw [ht]; exact hw.2.1, va_K.moved hW.alike hK, hw.2.2.1⟩, hw.2.2.2.1.F ht⟩) hw.2.2.2.1.2.2 dX10_readBookLine_264
                      · exact absurd (Int32.toInt_inj.mp (by rw [Int32.toInt_zero]; unfold RI at r_v_68; omega)) c9_v_68
                    · have r_v_66 : RI v_66 1 1 := rc_neL r_v_66 rl_0 (ti_ne c9_v_66) (by decide)
                      obtain ⟨v_69, m_v_69, r_v_69⟩ := ((hp_v_66.2.2 c9_v_66).1)
                      refine tk_i (va_runV (As := [.int v_59, .int v_66]) (rest := []) ⟨hx, hb, hml, hown, hts⟩ (c_X10_keep__10 l D cy z H.size Ps ws hw.1 p0 v_59 v_66 v_69 (fun f => OLp f v_56 ∧ (5 ≤ (f (Int32.toNatClampNeg v_56)).toInt ∧ (f (Int32.toNatClampNeg v_56)).toInt ≤ 5) ∧ (0 ≤ (f (Int32.toNatClampNeg v_56 + 1)).toInt ∧ (f (Int32.toNatClampNeg v_56 + 1)).toInt ≤ 0) ∧ (0 ≤ (f (Int32.toNatClampNeg v_56 + 2)).toInt ∧ (f (Int32.toNatClampNeg v_56 + 2)).toInt ≤ 0) ∧ True) (fun f => OLp f v_56 ∧ (5 ≤ (f (Int32.toNatClampNeg v_56)).toInt ∧ (f (Int32.toNatClampNeg v_56)).toInt ≤ 5) ∧ (0 ≤ (f (Int32.toNatClampNeg v_56 + 1)).toInt ∧ (f (Int32.toNatClampNeg v_56 + 1)).toInt ≤ 5) ∧ (0 ≤ (f (Int32.toNatClampNeg v_56 + 2)).toInt ∧ (f (Int32.toNatClampNeg v_56 + 2)).toInt ≤ 0) ∧ True) sg_67 h_p0 r_v_59 r_v_66 r_v_69 m_v_69 (AX.and hw x_OL_p0_v_56 (AX.and hw x_LE_p0_v_56_0_5_5 (AX.and hw x_LE_p0_v_56_1_0_0 (AX.and hw x_LE_p0_v_56_2_0_0 (lx_true hw h_p0))))) (fun f9 v9 hv9 H9 => ⟨(have h9 := H9.1; OL_upd h9 g_at (by have k1 := r_v_59.cl (by decide); have k2 := r_v_56.1; omega)), (have h9 := H9.2.1; by have j9 : Int32.toNatClampNeg v_59 = Int32.toNatClampNeg v_56 + 1 := (by have k1 := r_v_59.cl (by decide); have k2 := r_v_56.cl (by decide); omega); show _ ∧ _; rw [pk_un (by omega)]; exact h9), (have h9 := H9.2.2.1; by have j9 : Int32.toNatClampNeg v_59 = Int32.toNatClampNeg v_56 + 1 := (by have k1 := r_v_59.cl (by decide); have k2 := r_v_56.cl (by decide); omega); show _ ∧ _; rw [← j9, pk_us]; exact hv9), (have h9 := H9.2.2.2.1; by have j9 : Int32.toNatClampNeg v_59 = Int32.toNatClampNeg v_56 + 1 := (by have k1 := r_v_59.cl (by decide); have k2 := r_v_56.cl (by decide); omega); show _ ∧ _; rw [pk_un (by omega)]; exact h9), trivial⟩) o_p0) (cwV 2 hts (gV tw_1727 tw_1729 ts_107 tw_15 tw_1730) rfl rfl rfl (by decide +kernel) ⟨Nat.le_of_ble_eq_true rfl, Nat.le_of_ble_eq_true rfl⟩) (tg_preV hw hK hSD hA (ci := 10) (q := (RX10, TX10, 49)) rfl h_p0 rfl) rfl rfl hl.1 rfl (lv_room (Nat.le_of_ble_eq_true rfl)) dX10_readBookLine_257 ⟨Nat.le_of_ble_eq_true rfl, Nat.le_of_ble_eq_true rfl⟩) hw hA ⟨by decide, by decide⟩ (fun v_70 ws H locs hp_v_70 hw hF9 => ?_)
                      have m_u_55 := FLD.over hF9 m_u_55 (by decide)
                      have m_u_57 := FLD.over hF9 m_u_57 (by decide)
                      have m_v_69 := FLD.over hF9 m_v_69 (by decide)
                      obtain ⟨hfn, hp_v_70⟩ := hp_v_70
                      obtain ⟨sg_71, q_sg_71⟩ : ∃ q9 : OS, (f_X10_keep__7 v_59 v_66 sg_67).1 = q9 := ⟨_, rfl⟩
                      have o_p0 : OV vw_M5 Ps ws p0 sg_71 := by rw [← q_sg_71]; exact hfn.1
                      have q_v_70 : (f_X10_keep__7 v_59 v_66 sg_67).2 = v_70 := hfn.2.1
                      have r_v_70 : RI v_70 1 1 := hp_v_70.1
                      by_cases c9_v_70 : v_70 = 0
                      · exact absurd (ti_eq c9_v_70) (by unfold RI at r_v_70; rw [Int32.toInt_zero]; omega)
                      · obtain ⟨v_72, m_v_72, r_v_72⟩ := ((hp_v_70.2.2 c9_v_70).1)
                        have x_OL_p0_v_56 : AX 40 52 (fun f => OLp f v_56) Ps ws p0 := AX.imp ((hp_v_70.2.2 c9_v_70).2.1) (fun _ h9 => h9.1)
                        have x_LE_p0_v_56_0_5_5 : AX 40 52 (fun f => 5 ≤ (f (Int32.toNatClampNeg v_56)).toInt ∧ (f (Int32.toNatClampNeg v_56)).toInt ≤ 5) Ps ws p0 := AX.imp ((hp_v_70.2.2 c9_v_70).2.1) (fun _ h9 => h9.2.1)
                        have x_LE_p0_v_56_1_0_5 : AX 40 52 (fun f => 0 ≤ (f (Int32.toNatClampNeg v_56 + 1)).toInt ∧ (f (Int32.toNatClampNeg v_56 + 1)).toInt ≤ 5) Ps ws p0 := AX.imp ((hp_v_70.2.2 c9_v_70).2.1) (fun _ h9 => h9.2.2.1)
                        have x_LE_p0_v_56_2_0_0 : AX 40 52 (fun f => 0 ≤ (f (Int32.toNatClampNeg v_56 + 2)).toInt ∧ (f (Int32.toNatClampNeg v_56 + 2)).toInt ≤ 0) Ps ws p0 := AX.imp ((hp_v_70.2.2 c9_v_70).2.1) (fun _ h9 => h9.2.2.2.1)
                        refine lv_if_ne (tgt := 265) hx hb dX10_readBookLine_260 (by decide) (fun c_260 => ?_) (fun c_260 => ?_)
                        · refine lv_iload_n hx hb dX10_readBookLine_265 rfl (lv_at hl 4 rfl) ?_
                          refine lv_if_ne (tgt := 292) hx hb dX10_readBookLine_266 (by decide) (fun c_266 => ?_) (fun c_266 => ?_)
                          · exact absurd (r_v_1.eq.trans rl_0.eq.symm) ((ti_ne c_266))
                          · refine lv_aload_n hx hb dX10_readBookLine_269 rfl (lv_at hl 5 rfl) ?_
                            refine lv_iload hx hb dX10_readBookLine_270 (lv_at hl 0 rfl) ?_
                            refine lv_iconst (v := 2) hx hb dX10_readBookLine_272 (by decide) ?_
                            refine lv_iadd hx hb dX10_readBookLine_273 (lv_topi (fun v_73 e_v_73 => ?_))
                            obtain ⟨t_v_73, r_v_73⟩ := tq_add (lo := 2) (hi := 119) r_v_56 rl_2 (by decide +kernel) e_v_73
                            have t_v_73 : v_73.toInt = v_56.toInt + 2 := t_v_73
                            have z9 : v_61 = v_73 := q_v_61.symm.trans (e_v_73.symm)
                            subst z9
                            refine lv_aload_n hx hb dX10_readBookLine_274 rfl (lv_at hl 5 rfl) ?_
                            refine lv_bipush (v := 6) hx hb dX10_readBookLine_275 (by decide) ?_
                            refine lv_aload_n hx hb dX10_readBookLine_277 rfl (lv_at hl 5 rfl) ?_
                            refine tg_get (ci := 10) (ts := ty_MODEL) (C := RX10) (T := TX10) (N := 49) hx hb hts inX10 hown hK hw h_p0 rfl rfl 14 (by decide) (hts _ tw_1151) (fun _ h9 => h9) (ft := vR 34) rfl dX10_readBookLine_278 (fun u_74 hv_u_74 m_u_74 => ?_)
                            obtain ⟨vu_74, rfl, h_vu_74⟩ := hv_u_74
                            refine lv_iconst (v := 1) hx hb dX10_readBookLine_281 (by decide) ?_
                            refine tg_iald (lo := 0) (hi := 4) hx hb hK hw h_vu_74 rfl 1 1 rl_1 (by decide) (by decide +kernel) dX10_readBookLine_282 (fun v_75 r_v_75 m_v_75 o_v_75 => ?_)
                            have q_v_75 : sg_71.2.2.1 14 (Int32.toNatClampNeg (1 : Int32)) = v_75 := OV.eqA (V := vw_M5) (t := 34) hw.2.2.1 o_p0 m_u_74 m_v_75 (by decide)
                            have hw8 := hw
                            refine tk_i (va_runV (As := [.int 6, .int v_75]) (rest := [.int v_61, .ref p0]) ⟨hx, hb, hml, hown, hts⟩ (c_X10_readNamed__7 l D cy z H.size Ps ws hw.1 p0 6 v_75 sg_71 h_p0 rl_6 r_v_75 o_p0) (cwV 2 hts (gV tw_1723 tw_1725 ts_106 tw_15 tw_1726) rfl rfl rfl (by decide +kernel) ⟨Nat.le_of_ble_eq_true rfl, Nat.le_of_ble_eq_true rfl⟩) (tg_preV hw hK hSD hA (ci := 10) (q := (RX10, TX10, 49)) rfl h_p0 rfl) rfl rfl hl.1 rfl (lv_room (Nat.le_of_ble_eq_true rfl)) dX10_readBookLine_283 ⟨Nat.le_of_ble_eq_true rfl, Nat.le_of_ble_eq_true rfl⟩) hw hA ⟨by decide, by decide⟩ (fun v_76 ws H locs hp_v_76 hw hF9 => ?_)
                            have m_v_75 := AEL.over hw8 hF9 h_vu_74 m_v_75 (by decide)
                            have m_u_55 := FLD.over hF9 m_u_55 (by decide)
                            have m_u_57 := FLD.over hF9 m_u_57 (by decide)
                            have m_u_74 := FLD.over hF9 m_u_74 (by decide)
                            have x_OL_p0_v_56 := AX.over hF9 x_OL_p0_v_56 (by decide)
                            have x_LE_p0_v_56_0_5_5 := AX.over hF9 x_LE_p0_v_56_0_5_5 (by decide)
                            have x_LE_p0_v_56_1_0_5 := AX.over hF9 x_LE_p0_v_56_1_0_5 (by decide)
                            have x_LE_p0_v_56_2_0_0 := AX.over hF9 x_LE_p0_v_56_2_0_0 (by decide)
                            obtain ⟨hfn, hp_v_76⟩ := hp_v_76
                            obtain ⟨sg_77, q_sg_77⟩ : ∃ q9 : OS, (f_X10_readNamed__3 (6 : Int32) v_75 sg_71).1 = q9 := ⟨_, rfl⟩
                            have o_p0 : OV vw_M5 Ps ws p0 sg_77 := by rw [← q_sg_77]; exact hfn.1
                            have q_v_76 : (f_X10_readNamed__3 (6 : Int32) v_75 sg_71).2 = v_76 := hfn.2.1
                            have r_v_76 : RI v_76 0 1 := hp_v_76.1
                            by_cases c9_v_76 : v_76 = 0
                            · have r_v_76 : RI v_76 0 0 := by rw [c9_v_76]; exact rl_0
                              refine tk_ir (va_runV (As := [.int v_61, .int v_76]) (rest := []) ⟨hx, hb, hml, hown, hts⟩ (c_X10_keep__6 l D cy z H.size Ps ws hw.1 p0 v_61 v_76 (fun f => OLp f v_56 ∧ (5 ≤ (f (Int32.toNatClampNeg v_56)).toInt ∧ (f (Int32.toNatClampNeg v_56)).toInt ≤ 5) ∧ (0 ≤ (f (Int32.toNatClampNeg v_56 + 1)).toInt ∧ (f (Int32.toNatClampNeg v_56 + 1)).toInt ≤ 5) ∧ (0 ≤ (f (Int32.toNatClampNeg v_56 + 2)).toInt ∧ (f (Int32.toNatClampNeg v_56 + 2)).toInt ≤ 0) ∧ True) (fun f => OLp f v_56 ∧ (5 ≤ (f (Int32.toNatClampNeg v_56)).toInt ∧ (f (Int32.toNatClampNeg v_56)).toInt ≤ 5) ∧ (0 ≤ (f (Int32.toNatClampNeg v_56 + 1)).toInt ∧ (f (Int32.toNatClampNeg v_56 + 1)).toInt ≤ 5) ∧ ((-2147483648) ≤ (f (Int32.toNatClampNeg v_56 + 2)).toInt ∧ (f (Int32.toNatClampNeg v_56 + 2)).toInt ≤ 2147483647) ∧ True) sg_77 h_p0 r_v_61 r_v_76 (AX.and hw x_OL_p0_v_56 (AX.and hw x_LE_p0_v_56_0_5_5 (AX.and hw x_LE_p0_v_56_1_0_5 (AX.and hw x_LE_p0_v_56_2_0_0 (lx_true hw h_p0))))) (fun f9 v9 hv9 H9 => ⟨(have h9 := H9.1; OL_upd h9 g_at (by have k1 := r_v_61.cl (by decide); have k2 := r_v_56.1; omega)), (have h9 := H9.2.1; by have j9 : Int32.toNatClampNeg v_61 = Int32.toNatClampNeg v_56 + 2 := (by have k1 := r_v_61.cl (by decide); have k2 := r_v_56.cl (by decide); omega); show _ ∧ _; rw [pk_un (by omega)]; exact h9), (have h9 := H9.2.2.1; by have j9 : Int32.toNatClampNeg v_61 = Int32.toNatClampNeg v_56 + 2 := (by have k1 := r_v_61.cl (by decide); have k2 := r_v_56.cl (by decide); omega); show _ ∧ _; rw [pk_un (by omega)]; exact h9), (have h9 := H9.2.2.2.1; by have j9 : Int32.toNatClampNeg v_61 = Int32.toNatClampNeg v_56 + 2 := (by have k1 := r_v_61.cl (by decide); have k2 := r_v_56.cl (by decide); omega); show _ ∧ _; rw [← j9, pk_us]; exact hv9), trivial⟩) o_p0) (cwV 2 hts (gV tw_1727 tw_1729 ts_107 tw_15 tw_1730) rfl rfl rfl (by decide +kernel) ⟨Nat.le_of_ble_eq_true rfl, Nat.le_of_ble_eq_true rfl⟩) (tg_preV hw hK hSD hA (ci := 10) (q := (RX10, TX10, 49)) rfl h_p0 rfl) rfl rfl hl.1 rfl (lv_room (Nat.le_of_ble_eq_true rfl)) dX10_readBookLine_286 ⟨Nat.le_of_ble_eq_true rfl, Nat.le_of_ble_eq_true rfl⟩) hw hA (fun v_78  H locs hp_v_78 hw => ?_)
                              obtain ⟨hfn, hp_v_78⟩ := hp_v_78
                              have q_v_78 : (f_X10_keep__6 v_61 v_76 sg_77) = v_78 := hfn.1
                              have r_v_78 : RI v_78 0 0 := hp_v_78.1
                              by_cases c9_v_78 : v_78 = 0
                              · have r_v_78 : RI v_78 0 0 := by rw [c9_v_78]; exact rl_0
                                have x_OL_p0_v_56 : AX 40 52 (fun f => OLp f v_56) Ps ws p0 := AX.imp ((hp_v_78.2.1 c9_v_78).1) (fun _ h9 => h9.1)
                                have x_LE_p0_v_56_0_5_5 : AX 40 52 (fun f => 5 ≤ (f (Int32.toNatClampNeg v_56)).toInt ∧ (f (Int32.toNatClampNeg v_56)).toInt ≤ 5) Ps ws p0 := AX.imp ((hp_v_78.2.1 c9_v_78).1) (fun _ h9 => h9.2.1)
                                have x_LE_p0_v_56_1_0_5 : AX 40 52 (fun f => 0 ≤ (f (Int32.toNatClampNeg v_56 + 1)).toInt ∧ (f (Int32.toNatClampNeg v_56 + 1)).toInt ≤ 5) Ps ws p0 := AX.imp ((hp_v_78.2.1 c9_v_78).1) (fun _ h9 => h9.2.2.1)
                                have x_LE_p0_v_56_2_0_0 : AX 40 52 (fun f => 0 ≤ (f (Int32.toNatClampNeg v_56 + 2)).toInt ∧ (f (Int32.toNatClampNeg v_56 + 2)).toInt ≤ 0) Ps ws p0 := AX.imp ((hp_v_78.2.1 c9_v_78).1) (fun _ h9 => h9.2.2.2.1)
                                refine lv_if_eq (tgt := 303) hx hb dX10_readBookLine_289 (by decide) (fun c_289 => ?_) (fun c_289 => ?_)
                                · refine lv_iconst (v := 0) hx hb dX10_readBookLine_303 (by decide) ?_
                                  simp only [f_X10_readBookLine__1, ↓reduceIte, q_v_1, eq_true c9_v_1, q_v_2, eq_false c9_v_2, q_v_54, eq_true c9_v_54, eq_true c_22, eq_false c_26, q_vu_55, eq_false c_93, q_v_56, eq_true c_117, eq_false c_125, q_sg_58, q_v_59, q_sg_60, q_v_61, q_sg_62, q_sg_64, eq_true c_214, q_sg_67, q_v_66, eq_false c9_v_66, q_sg_71, q_v_70, eq_false c9_v_70, eq_false c_260, eq_true c_266, q_v_75, q_sg_77, q_v_76, eq_true c9_v_76, q_v_78, eq_true c9_v_78, eq_true c_289] at hE
                                  subst hQ
                                  exact W.zret (v := 0) hx hb hr (rfl) (fun t ht hW => ⟨⟨0, ws, rfl, ⟨⟨⟨(by rw [hR, ← hE]; exact o_p0), (by rw [hR, ← hE]), trivial⟩, rl_0.to (by decide), (fun h0 => trivial), (fun h0 => absurd rfl h0)⟩, hw.1, hw.2.2.2.2.1⟩, by rw [ht]; exact hw.2.1, va_K.moved hW.alike hK, hw.2.2.1⟩, hw.2.2.2.1.F ht⟩) hw.2.2.2.1.2.2 dX10_readBookLine_304
                                · exact absurd (r_v_78.eq.trans rl_0.eq.symm) ((ti_ne c_289))
                              · exact absurd (Int32.toInt_inj.mp (by rw [Int32.toInt_zero]; unfold RI at r_v_78; omega)) c9_v_78
                            · have r_v_76 : RI v_76 1 1 := rc_neL r_v_76 rl_0 (ti_ne c9_v_76) (by decide)
                              have r_v_75 : RI v_75 1 4 := ((hp_v_76.2.2 c9_v_76).1)
                              obtain ⟨v_79, m_v_79, r_v_79⟩ := ((hp_v_76.2.2 c9_v_76).2.1)
                              have hw8 := hw
                              refine tk_i (va_runV (As := [.int v_61, .int v_76]) (rest := []) ⟨hx, hb, hml, hown, hts⟩ (c_X10_keep__11 l D cy z H.size Ps ws hw.1 p0 v_61 v_76 v_79 (fun f => OLp f v_56 ∧ (5 ≤ (f (Int32.toNatClampNeg v_56)).toInt ∧ (f (Int32.toNatClampNeg v_56)).toInt ≤ 5) ∧ (0 ≤ (f (Int32.toNatClampNeg v_56 + 1)).toInt ∧ (f (Int32.toNatClampNeg v_56 + 1)).toInt ≤ 5) ∧ (0 ≤ (f (Int32.toNatClampNeg v_56 + 2)).toInt ∧ (f (Int32.toNatClampNeg v_56 + 2)).toInt ≤ 0) ∧ True) (fun f => OLp f v_56 ∧ (5 ≤ (f (Int32.toNatClampNeg v_56)).toInt ∧ (f (Int32.toNatClampNeg v_56)).toInt ≤ 5) ∧ (0 ≤ (f (Int32.toNatClampNeg v_56 + 1)).toInt ∧ (f (Int32.toNatClampNeg v_56 + 1)).toInt ≤ 5) ∧ (0 ≤ (f (Int32.toNatClampNeg v_56 + 2)).toInt ∧ (f (Int32.toNatClampNeg v_56 + 2)).toInt ≤ 3) ∧ True) sg_77 h_p0 r_v_61 r_v_76 r_v_79 m_v_79 (AX.and hw x_OL_p0_v_56 (AX.and hw x_LE_p0_v_56_0_5_5 (AX.and hw x_LE_p0_v_56_1_0_5 (AX.and hw x_LE_p0_v_56_2_0_0 (lx_true hw h_p0))))) (fun f9 v9 hv9 H9 => ⟨(have h9 := H9.1; OL_upd h9 g_at (by have k1 := r_v_61.cl (by decide); have k2 := r_v_56.1; omega)), (have h9 := H9.2.1; by have j9 : Int32.toNatClampNeg v_61 = Int32.toNatClampNeg v_56 + 2 := (by have k1 := r_v_61.cl (by decide); have k2 := r_v_56.cl (by decide); omega); show _ ∧ _; rw [pk_un (by omega)]; exact h9), (have h9 := H9.2.2.1; by have j9 : Int32.toNatClampNeg v_61 = Int32.toNatClampNeg v_56 + 2 := (by have k1 := r_v_61.cl (by decide); have k2 := r_v_56.cl (by decide); omega); show _ ∧ _; rw [pk_un (by omega)]; exact h9), (have h9 := H9.2.2.2.1; by have j9 : Int32.toNatClampNeg v_61 = Int32.toNatClampNeg v_56 + 2 := (by have k1 := r_v_61.cl (by decide); have k2 := r_v_56.cl (by decide); omega); show _ ∧ _; rw [← j9, pk_us]; exact hv9), trivial⟩) o_p0) (cwV 2 hts (gV tw_1727 tw_1729 ts_107 tw_15 tw_1730) rfl rfl rfl (by decide +kernel) ⟨Nat.le_of_ble_eq_true rfl, Nat.le_of_ble_eq_true rfl⟩) (tg_preV hw hK hSD hA (ci := 10) (q := (RX10, TX10, 49)) rfl h_p0 rfl) rfl rfl hl.1 rfl (lv_room (Nat.le_of_ble_eq_true rfl)) dX10_readBookLine_286 ⟨Nat.le_of_ble_eq_true rfl, Nat.le_of_ble_eq_true rfl⟩) hw hA ⟨by decide, by decide⟩ (fun v_80 ws H locs hp_v_80 hw hF9 => ?_)
                              have m_v_75 := AEL.over hw8 hF9 h_vu_74 m_v_75 (by decide)
                              have m_u_55 := FLD.over hF9 m_u_55 (by decide)
                              have m_u_57 := FLD.over hF9 m_u_57 (by decide)
                              have m_u_74 := FLD.over hF9 m_u_74 (by decide)
                              have m_v_79 := FLD.over hF9 m_v_79 (by decide)
                              obtain ⟨hfn, hp_v_80⟩ := hp_v_80
                              obtain ⟨sg_81, q_sg_81⟩ : ∃ q9 : OS, (f_X10_keep__7 v_61 v_76 sg_77).1 = q9 := ⟨_, rfl⟩
                              have o_p0 : OV vw_M5 Ps ws p0 sg_81 := by rw [← q_sg_81]; exact hfn.1
                              have q_v_80 : (f_X10_keep__7 v_61 v_76 sg_77).2 = v_80 := hfn.2.1
                              have r_v_80 : RI v_80 1 1 := hp_v_80.1
                              by_cases c9_v_80 : v_80 = 0
                              · exact absurd (ti_eq c9_v_80) (by unfold RI at r_v_80; rw [Int32.toInt_zero]; omega)
                              · obtain ⟨v_82, m_v_82, r_v_82⟩ := ((hp_v_80.2.2 c9_v_80).1)
                                have x_OL_p0_v_56 : AX 40 52 (fun f => OLp f v_56) Ps ws p0 := AX.imp ((hp_v_80.2.2 c9_v_80).2.1) (fun _ h9 => h9.1)
                                have x_LE_p0_v_56_0_5_5 : AX 40 52 (fun f => 5 ≤ (f (Int32.toNatClampNeg v_56)).toInt ∧ (f (Int32.toNatClampNeg v_56)).toInt ≤ 5) Ps ws p0 := AX.imp ((hp_v_80.2.2 c9_v_80).2.1) (fun _ h9 => h9.2.1)
                                have x_LE_p0_v_56_1_0_5 : AX 40 52 (fun f => 0 ≤ (f (Int32.toNatClampNeg v_56 + 1)).toInt ∧ (f (Int32.toNatClampNeg v_56 + 1)).toInt ≤ 5) Ps ws p0 := AX.imp ((hp_v_80.2.2 c9_v_80).2.1) (fun _ h9 => h9.2.2.1)
                                have x_LE_p0_v_56_2_0_3 : AX 40 52 (fun f => 0 ≤ (f (Int32.toNatClampNeg v_56 + 2)).toInt ∧ (f (Int32.toNatClampNeg v_56 + 2)).toInt ≤ 3) Ps ws p0 := AX.imp ((hp_v_80.2.2 c9_v_80).2.1) (fun _ h9 => h9.2.2.2.1)
                                refine lv_if_eq (tgt := 303) hx hb dX10_readBookLine_289 (by decide) (fun c_289 => ?_) (fun c_289 => ?_)
                                · have r_v_80 : RI v_80 1 0 := rc_eq1 r_v_80 rl_0 (ti_eq c_289) (by decide)
                                  exact (r_v_80.no (by decide)).elim
                                · refine lv_aload_n hx hb dX10_readBookLine_292 rfl (lv_at hl 5 rfl) ?_
                                  have hw8 := hw
                                  refine tk_i (va_runV (As := []) (rest := []) ⟨hx, hb, hml, hown, hts⟩ (c_X10_readEnd__3 l D cy z H.size Ps ws hw.1 p0 sg_81 h_p0 o_p0) (cwV 0 hts (gV tw_1409 tw_1411 ts_62 tw_15 tw_1412) rfl rfl rfl (by decide +kernel) ⟨Nat.le_of_ble_eq_true rfl, Nat.le_of_ble_eq_true rfl⟩) (tg_preV hw hK hSD hA (ci := 10) (q := (RX10, TX10, 49)) rfl h_p0 rfl) rfl rfl hl.1 rfl (lv_room (Nat.le_of_ble_eq_true rfl)) dX10_readBookLine_293 ⟨Nat.le_of_ble_eq_true rfl, Nat.le_of_ble_eq_true rfl⟩) hw hA ⟨by decide, by decide⟩ (fun v_83 ws H locs hp_v_83 hw hF9 => ?_)
                                  have m_v_75 := AEL.over hw8 hF9 h_vu_74 m_v_75 (by decide)
                                  have m_u_55 := FLD.over hF9 m_u_55 (by decide)
                                  have m_u_57 := FLD.over hF9 m_u_57 (by decide)
                                  have m_u_74 := FLD.over hF9 m_u_74 (by decide)
                                  have m_v_82 := FLD.over hF9 m_v_82 (by decide)
                                  have x_OL_p0_v_56 := AX.over hF9 x_OL_p0_v_56 (by decide)
                                  have x_LE_p0_v_56_0_5_5 := AX.over hF9 x_LE_p0_v_56_0_5_5 (by decide)
                                  have x_LE_p0_v_56_1_0_5 := AX.over hF9 x_LE_p0_v_56_1_0_5 (by decide)
                                  have x_LE_p0_v_56_2_0_3 := AX.over hF9 x_LE_p0_v_56_2_0_3 (by decide)
                                  obtain ⟨hfn, hp_v_83⟩ := hp_v_83
                                  obtain ⟨sg_84, q_sg_84⟩ : ∃ q9 : OS, (f_X10_readEnd__2 sg_81).1 = q9 := ⟨_, rfl⟩
                                  have o_p0 : OV vw_M5 Ps ws p0 sg_84 := by rw [← q_sg_84]; exact hfn.1
                                  have q_v_83 : (f_X10_readEnd__2 sg_81).2 = v_83 := hfn.2.1
                                  have r_v_83 : RI v_83 0 1 := hp_v_83.1
                                  refine lv_if_eq (tgt := 303) hx hb dX10_readBookLine_296 (by decide) (fun c_296 => ?_) (fun c_296 => ?_)
                                  · have r_v_83 : RI v_83 0 0 := rc_eq1 r_v_83 rl_0 (ti_eq c_296) (by decide)
                                    refine lv_iconst (v := 0) hx hb dX10_readBookLine_303 (by decide) ?_
                                    simp only [f_X10_readBookLine__1, ↓reduceIte, q_v_1, eq_true c9_v_1, q_v_2, eq_false c9_v_2, q_v_54, eq_true c9_v_54, eq_true c_22, eq_false c_26, q_vu_55, eq_false c_93, q_v_56, eq_true c_117, eq_false c_125, q_sg_58, q_v_59, q_sg_60, q_v_61, q_sg_62, q_sg_64, eq_true c_214, q_sg_67, q_v_66, eq_false c9_v_66, q_sg_71, q_v_70, eq_false c9_v_70, eq_false c_260, eq_true c_266, q_v_75, q_sg_77, q_v_76, eq_false c9_v_76, q_sg_81, q_v_80, eq_false c9_v_80, eq_false c_289, q_sg_84, q_v_83, eq_true c_296] at hE
                                    subst hQ
                                    exact W.zret (v := 0) hx hb hr (rfl) (fun t ht hW => ⟨⟨0, ws, rfl, ⟨⟨⟨(by rw [hR, ← hE]; exact o_p0), (by rw [hR, ← hE]), trivial⟩, rl_0.to (by decide), (fun h0 => trivial), (fun h0 => absurd rfl h0)⟩, hw.1, hw.2.2.2.2.1⟩, by rw [ht]; exact hw.2.1, va_K.moved hW.alike hK, hw.2.2.1⟩, hw.2.2.2.1.F ht⟩) hw.2.2.2.1.2.2 dX10_readBookLine_304
                                  · have r_v_83 : RI v_83 1 1 := rc_neL r_v_83 rl_0 (ti_ne c_296) (by decide)
                                    have x_L9 := AX.and hw x_LE_p0_v_56_0_5_5 (AX.and hw x_LE_p0_v_56_1_0_5 x_LE_p0_v_56_2_0_3)
                                    have x_GL_p0_v_56 : AX 40 52 (fun f => GLk f (Int32.toNatClampNeg v_56)) Ps ws p0 := AX.imp x_L9 (fun f9 h9 => ⟨⟨by have k1 := h9.1.1; omega, by have k1 := h9.1.2; omega⟩, by have k1 := h9.1.1; have k2 := h9.2.1.2; omega, by have k3 := h9.2.2.2; omega⟩)
                                    have x_LNG_p0 : LNG Ps ws p0 := LNG.mk m_u_55 (by have k1 := t_v_56; omega) r_vu_55.1 (AX.and hw x_OL_p0_v_56 x_GL_p0_v_56)
                                    refine lv_iconst (v := 1) hx hb dX10_readBookLine_299 (by decide) ?_
                                    refine lv_goto (tgt := 304) hx hb dX10_readBookLine_300 (by decide) ?_
                                    simp only [f_X10_readBookLine__1, ↓reduceIte, q_v_1, eq_true c9_v_1, q_v_2, eq_false c9_v_2, q_v_54, eq_true c9_v_54, eq_true c_22, eq_false c_26, q_vu_55, eq_false c_93, q_v_56, eq_true c_117, eq_false c_125, q_sg_58, q_v_59, q_sg_60, q_v_61, q_sg_62, q_sg_64, eq_true c_214, q_sg_67, q_v_66, eq_false c9_v_66, q_sg_71, q_v_70, eq_false c9_v_70, eq_false c_260, eq_true c_266, q_v_75, q_sg_77, q_v_76, eq_false c9_v_76, q_sg_81, q_v_80, eq_false c9_v_80, eq_false c_289, q_sg_84, q_v_83, eq_false c_296] at hE
                                    subst hQ
                                    exact W.zret (v := 1) hx hb hr (rfl) (fun t ht hW => ⟨⟨1, ws, rfl, ⟨⟨⟨(by rw [hR, ← hE]; exact o_p0), (by rw [hR, ← hE]), trivial⟩, rl_1.to (by decide), (fun _ => trivial), (fun h0 => ⟨⟨_, m_u_55, r_vu_55⟩, x_LNG_p0, trivial⟩)⟩, hw.1, hw.2.2.2.2.1⟩, by rw [ht]; exact hw.2.1, va_K.moved hW.alike hK, hw.2.2.1⟩, hw.2.2.2.1.F ht⟩) hw.2.2.2.1.2.2 dX10_readBookLine_304
                        · have r_v_70 : RI v_70 1 0 := rc_eq1 r_v_70 rl_0 (ti_eq c_260) (by decide)
                          exact (r_v_70.no (by decide)).elim
                  · exact absurd (r_v_54.eq.trans rl_0.eq.symm) ((ti_ne c_214))
              · exact absurd (r_v_1.eq.trans rl_0.eq.symm) ((ti_ne c_117))
            · have r_vu_55 : RI vu_55 40 40 := rc_eq1 r_vu_55 rl_40 (ti_eq c_93) (by decide)
              refine lv_aload_n hx hb dX10_readBookLine_96 rfl (lv_at hl 4 rfl) ?_
              refine lv_iconst (v := 4) hx hb dX10_readBookLine_97 (by decide) ?_
              refine tk_i (va_runV (As := [.int 4]) (rest := []) ⟨hx, hb, hml, hown, hts⟩ (c_X10_bad__3 l D cy z H.size Ps w0 hw.1 p0 4 s0 h_p0 (rl_4.to (by decide)) o_p0) (cwV 1 hts (gV tw_1336 tw_1338 ts_46 tw_15 tw_1339) rfl rfl rfl (by decide +kernel) ⟨Nat.le_of_ble_eq_true rfl, Nat.le_of_ble_eq_true rfl⟩) (tg_preV hw hK hSD hA (ci := 10) (q := (RX10, TX10, 49)) rfl h_p0 rfl) rfl rfl hl.1 rfl (lv_room (Nat.le_of_ble_eq_true rfl)) dX10_readBookLine_98 ⟨Nat.le_of_ble_eq_true rfl, Nat.le_of_ble_eq_true rfl⟩) hw hA ⟨by decide, by decide⟩ (fun v_85 ws H locs hp_v_85 hw hF9 => ?_)
              have m_u_55 := FLD.over hF9 m_u_55 (by decide)
              have x_LNS_p0 := LNS.over hF9 x_LNS_p0 (by decide)
              have x_WRD_p0_1627639 := WRD.over hF9 x_WRD_p0_1627639 (by decide)
              obtain ⟨hfn, hp_v_85⟩ := hp_v_85
              obtain ⟨sg_86, q_sg_86⟩ : ∃ q9 : OS, (f_X10_bad__1 (4 : Int32) s0).1 = q9 := ⟨_, rfl⟩
              have o_p0 : OV vw_M5 Ps ws p0 sg_86 := by rw [← q_sg_86]; exact hfn.1
              have q_v_85 : (f_X10_bad__1 (4 : Int32) s0).2 = v_85 := hfn.2.1
              have r_v_85 : RI v_85 0 0 := hp_v_85.1
              simp only [f_X10_readBookLine__1, ↓reduceIte, q_v_1, eq_true c9_v_1, q_v_2, eq_false c9_v_2, q_v_54, eq_true c9_v_54, eq_true c_22, eq_false c_26, q_vu_55, eq_true c_93, q_sg_86, q_v_85] at hE
              subst hQ
              exact W.zret (v := v_85) hx hb hr (tq_nz (r_v_85.to (by decide))) (fun t ht hW => ⟨⟨v_85, ws, rfl, ⟨⟨⟨(by rw [hR, ← hE]; exact o_p0), (by rw [hR, ← hE]), trivial⟩, r_v_85.to (by decide), (fun h0 => trivial), (fun h0 => absurd (Int32.toInt_inj.mp (by have h8 := r_v_85; unfold RI at h8; rw [Int32.toInt_zero]; omega)) h0)⟩, hw.1, hw.2.2.2.2.1⟩, by rw [ht]; exact hw.2.1, va_K.moved hW.alike hK, hw.2.2.1⟩, hw.2.2.2.1.F ht⟩) hw.2.2.2.1.2.2 dX10_readBookLine_101
          · have r_v_2 : RI v_2 1 0 := rc_eq1 r_v_2 rl_0 (ti_eq c_26) (by decide)
            exact (r_v_2.no (by decide)).elim
      · have r_v_54 : RI v_54 1 1 := rc_neL r_v_54 rl_0 (ti_ne c9_v_54) (by decide)
        have x_WRD_p0_2968 := ((hp_v_54.2.2 c9_v_54).1)
        exact (WRD.no hw x_WRD_p0_2968 x_WRD_p0_1627639 (by decide)).elim
  · have r_v_1 : RI v_1 1 1 := rc_neL r_v_1 rl_0 (ti_ne c9_v_1) (by decide)
    have x_WRD_p0_307058 := ((hp_v_1.2.2 c9_v_1).1)
    refine lv_istore_n (lv' := [(1, .int v_1), (0, .ref p0)]) hx hb dX10_readBookLine_6 rfl hl (by decide) rfl (fun ls hl => ?_)
    refine lv_aload_n hx hb dX10_readBookLine_7 rfl (lv_at hl 1 rfl) ?_
    refine lv_bipush (v := 14) hx hb dX10_readBookLine_8 (by decide) ?_
    refine tk_ir (va_runV (As := [.int 14]) (rest := []) ⟨hx, hb, hml, hown, hts⟩ (c_X10_isWord__7 l D cy z H.size Ps w0 hw.1 p0 14 s0 h_p0 rl_14 o_p0) (cwV 1 hts (gV tw_1318 tw_1320 ts_43 tw_15 tw_1321) rfl rfl rfl (by decide +kernel) ⟨Nat.le_of_ble_eq_true rfl, Nat.le_of_ble_eq_true rfl⟩) (tg_preV hw hK hSD hA (ci := 10) (q := (RX10, TX10, 49)) rfl h_p0 rfl) rfl rfl hl.1 rfl (lv_room (Nat.le_of_ble_eq_true rfl)) dX10_readBookLine_10 ⟨Nat.le_of_ble_eq_true rfl, Nat.le_of_ble_eq_true rfl⟩) hw hA (fun v_87  H locs hp_v_87 hw => ?_)
    obtain ⟨hfn, hp_v_87⟩ := hp_v_87
    have q_v_87 : (f_X10_isWord__7 (14 : Int32) s0) = v_87 := hfn.1
    have r_v_87 : RI v_87 0 1 := hp_v_87.1
    by_cases c9_v_87 : v_87 = 0
    · have r_v_87 : RI v_87 0 0 := by rw [c9_v_87]; exact rl_0
      refine lv_istore_n (lv' := [(2, .int v_87), (1, .int v_1), (0, .ref p0)]) hx hb dX10_readBookLine_13 rfl hl (by decide) rfl (fun ls hl => ?_)
      refine lv_aload_n hx hb dX10_readBookLine_14 rfl (lv_at hl 2 rfl) ?_
      refine lv_bipush (v := 15) hx hb dX10_readBookLine_15 (by decide) ?_
      refine tk_ir (va_runV (As := [.int 15]) (rest := []) ⟨hx, hb, hml, hown, hts⟩ (c_X10_isWord__8 l D cy z H.size Ps w0 hw.1 p0 15 s0 h_p0 rl_15 o_p0) (cwV 1 hts (gV tw_1318 tw_1320 ts_43 tw_15 tw_1321) rfl rfl rfl (by decide +kernel) ⟨Nat.le_of_ble_eq_true rfl, Nat.le_of_ble_eq_true rfl⟩) (tg_preV hw hK hSD hA (ci := 10) (q := (RX10, TX10, 49)) rfl h_p0 rfl) rfl rfl hl.1 rfl (lv_room (Nat.le_of_ble_eq_true rfl)) dX10_readBookLine_17 ⟨Nat.le_of_ble_eq_true rfl, Nat.le_of_ble_eq_true rfl⟩) hw hA (fun v_88  H locs hp_v_88 hw => ?_)
      obtain ⟨hfn, hp_v_88⟩ := hp_v_88
      have q_v_88 : (f_X10_isWord__8 (15 : Int32) s0) = v_88 := hfn.1
      have r_v_88 : RI v_88 0 1 := hp_v_88.1
      by_cases c9_v_88 : v_88 = 0
      · have r_v_88 : RI v_88 0 0 := by rw [c9_v_88]; exact rl_0
        refine lv_istore_n (lv' := [(3, .int v_88), (2, .int v_87), (1, .int v_1), (0, .ref p0)]) hx hb dX10_readBookLine_20 rfl hl (by decide) rfl (fun ls hl => ?_)
        refine lv_iload_n hx hb dX10_readBookLine_21 rfl (lv_at hl 2 rfl) ?_
        refine lv_if_ne (tgt := 37) hx hb dX10_readBookLine_22 (by decide) (fun c_22 => ?_) (fun c_22 => ?_)
        · refine lv_iconst (v := 0) hx hb dX10_readBookLine_37 (by decide) ?_
          refine lv_istore (lv' := [(4, .int 0), (3, .int v_88), (2, .int v_87), (1, .int v_1), (0, .ref p0)]) hx hb dX10_readBookLine_38 hl (by decide) rfl (fun ls hl => ?_)
          refine lv_iload hx hb dX10_readBookLine_40 (lv_at hl 0 rfl) ?_
          refine lv_if_eq (tgt := 87) hx hb dX10_readBookLine_42 (by decide) (fun _ => ?_) (fun c9 => absurd (by decide) c9)
          refine lv_aload_n hx hb dX10_readBookLine_87 rfl (lv_at hl 4 rfl) ?_
          refine tg_get (ci := 10) (ts := ty_MODEL) (C := RX10) (T := TX10) (N := 49) hx hb hts inX10 hown hK hw h_p0 rfl rfl 42 (by decide) (hts _ tw_1179) (fun _ h9 => h9) (ft := vI 0 40) rfl dX10_readBookLine_88 (fun u_89 hv_u_89 m_u_89 => ?_)
          obtain ⟨vu_89, rfl, r_vu_89⟩ := hv_u_89
          have q_vu_89 : s0.1 42 = vu_89 := OV.eqI (V := vw_M5) hw.2.2.1 o_p0 m_u_89 (by decide)
          refine lv_bipush (v := 40) hx hb dX10_readBookLine_91 (by decide) ?_
          refine lv_icmp_ne (tgt := 102) hx hb dX10_readBookLine_93 (by decide) (fun c_93 => ?_) (fun c_93 => ?_)
          · have r_vu_89 : RI vu_89 0 39 := rc_neU r_vu_89 rl_40 (ti_ne c_93) (by decide)
            refine lv_iconst (v := 3) hx hb dX10_readBookLine_102 (by decide) ?_
            refine lv_aload_n hx hb dX10_readBookLine_103 rfl (lv_at hl 4 rfl) ?_
            refine tg_mem (ci := 10) (C := RX10) (T := TX10) (N := 49) hx hb hts inX10 hown hK hw 42 m_u_89 rfl (by decide) (hts _ tw_1179) (fun _ h9 => h9) dX10_readBookLine_104 ?_
            refine lv_imul hx hb dX10_readBookLine_107 (lv_topi (fun v_90 e_v_90 => ?_))
            obtain ⟨t_v_90, r_v_90⟩ := tq_mul (lo := 0) (hi := 117) rl_3 r_vu_89 (by decide +kernel) e_v_90
            have t_v_90 : v_90.toInt = 3 * vu_89.toInt := t_v_90
            have q_v_90 : (3 : Int32) * vu_89 = v_90 := e_v_90.symm
            refine lv_istore (lv' := [(5, .int v_90), (4, .int 0), (3, .int v_88), (2, .int v_87), (1, .int v_1), (0, .ref p0)]) hx hb dX10_readBookLine_108 hl (by decide) rfl (fun ls hl => ?_)
            have x_OL_p0_v_90 : AX 40 52 (fun f => OLp f v_90) Ps w0 p0 := LNS.ol hw x_LNS_p0 m_u_89 (by have k1 := t_v_90; omega)
            have x_MUL3_v_90 : (∃ n : Int, Int32.toInt v_90 = 3 * n) := ⟨vu_89.toInt, by have k1 := t_v_90; omega⟩
            have g_at := x_MUL3_v_90
            have x_LE_p0_v_90_0_0_60 : AX 40 52 (fun f => 0 ≤ (f (Int32.toNatClampNeg v_90)).toInt ∧ (f (Int32.toNatClampNeg v_90)).toInt ≤ 60) Ps w0 p0 := AX.imp (ax_of (k := 40) (t := 52) hw h_p0 rfl (fun _ => rfl)) (fun f9 h9 => h9.2 _ (by have k1 := r_v_90.cl (by decide); have k2 := r_v_90.2; omega))
            have x_LE_p0_v_90_1_0_60 : AX 40 52 (fun f => 0 ≤ (f (Int32.toNatClampNeg v_90 + 1)).toInt ∧ (f (Int32.toNatClampNeg v_90 + 1)).toInt ≤ 60) Ps w0 p0 := AX.imp (ax_of (k := 40) (t := 52) hw h_p0 rfl (fun _ => rfl)) (fun f9 h9 => h9.2 _ (by have k1 := r_v_90.cl (by decide); have k2 := r_v_90.2; omega))
            have x_LE_p0_v_90_2_0_60 : AX 40 52 (fun f => 0 ≤ (f (Int32.toNatClampNeg v_90 + 2)).toInt ∧ (f (Int32.toNatClampNeg v_90 + 2)).toInt ≤ 60) Ps w0 p0 := AX.imp (ax_of (k := 40) (t := 52) hw h_p0 rfl (fun _ => rfl)) (fun f9 h9 => h9.2 _ (by have k1 := r_v_90.cl (by decide); have k2 := r_v_90.2; omega))
            refine lv_aload_n hx hb dX10_readBookLine_110 rfl (lv_at hl 5 rfl) ?_
            refine tg_get (ci := 10) (ts := ty_MODEL) (C := RX10) (T := TX10) (N := 49) hx hb hts inX10 hown hK hw h_p0 rfl rfl 40 (by decide) (hts _ tw_1177) (fun _ h9 => h9) (ft := vR 52) rfl dX10_readBookLine_111 (fun u_91 hv_u_91 m_u_91 => ?_)
            obtain ⟨vu_91, rfl, h_vu_91⟩ := hv_u_91
            refine lv_iload hx hb dX10_readBookLine_114 (lv_at hl 0 rfl) ?_
            refine lv_iload_n hx hb dX10_readBookLine_116 rfl (lv_at hl 4 rfl) ?_
            refine lv_if_eq (tgt := 124) hx hb dX10_readBookLine_117 (by decide) (fun c_117 => ?_) (fun c_117 => ?_)
            · have r_v_1 : RI v_1 1 0 := rc_eq1 r_v_1 rl_0 (ti_eq c_117) (by decide)
              exact (r_v_1.no (by decide)).elim
            · refine lv_iconst (v := 4) hx hb dX10_readBookLine_120 (by decide) ?_
              refine lv_goto (tgt := 134) hx hb dX10_readBookLine_121 (by decide) ?_
              have mo9 := m_u_91
              refine tg_iast hx hb hK hw h_vu_91 rfl 0 117 r_v_90 (by decide) rl_4 (by exact fun _ _ _ => by decide) (fun _ _ _ _ _ => trivial) (by decide) dX10_readBookLine_134 (fun ws H locs hw hF9 hU9 => ?_)
              have x_OL_p0_v_90 : AX 40 52 (fun f => OLp f v_90) Ps ws p0 := AX.ast hF9 hU9 x_OL_p0_v_90 m_u_91 (fun f9 h9 => OL_upd h9 g_at (by have k1 := r_v_90.cl (by decide); have k2 := r_v_90.1; omega))
              have x_LE_p0_v_90_0_4_4 : AX 40 52 (fun f => 4 ≤ (f (Int32.toNatClampNeg v_90)).toInt ∧ (f (Int32.toNatClampNeg v_90)).toInt ≤ 4) Ps ws p0 := AX.ast hF9 hU9 x_LE_p0_v_90_0_0_60 m_u_91 (fun f9 h9 => by show _ ∧ _; rw [pk_us]; exact rl_4)
              have x_LE_p0_v_90_1_0_60 : AX 40 52 (fun f => 0 ≤ (f (Int32.toNatClampNeg v_90 + 1)).toInt ∧ (f (Int32.toNatClampNeg v_90 + 1)).toInt ≤ 60) Ps ws p0 := AX.ast hF9 hU9 x_LE_p0_v_90_1_0_60 m_u_91 (fun f9 h9 => by have j9 : Int32.toNatClampNeg v_90 = Int32.toNatClampNeg v_90 + 0 := (by have k1 := r_v_90.cl (by decide); have k2 := r_v_90.cl (by decide); omega); show _ ∧ _; rw [pk_un (by omega)]; exact h9)
              have x_LE_p0_v_90_2_0_60 : AX 40 52 (fun f => 0 ≤ (f (Int32.toNatClampNeg v_90 + 2)).toInt ∧ (f (Int32.toNatClampNeg v_90 + 2)).toInt ≤ 60) Ps ws p0 := AX.ast hF9 hU9 x_LE_p0_v_90_2_0_60 m_u_91 (fun f9 h9 => by have j9 : Int32.toNatClampNeg v_90 = Int32.toNatClampNeg v_90 + 0 := (by have k1 := r_v_90.cl (by decide); have k2 := r_v_90.cl (by decide); omega); show _ ∧ _; rw [pk_un (by omega)]; exact h9)
              have x_WRD_p0_307058 := WRD.over hF9 x_WRD_p0_307058 (by decide)
              have m_u_89 := FLD.over hF9 m_u_89 (by decide)
              have m_u_91 := FLD.over hF9 m_u_91 (by decide)
              obtain ⟨sg_92, q_sg_92⟩ : ∃ q9 : OS, sA s0 40 (Int32.toNatClampNeg v_90) (4 : Int32) = q9 := ⟨_, rfl⟩
              have o_p0 : OV vw_M5 Ps ws p0 sg_92 := by rw [← q_sg_92]; exact OV.putA (V := vw_M5) (t := 52) hF9 hU9 o_p0 mo9 (by decide) (by decide)
              refine lv_aload_n hx hb dX10_readBookLine_135 rfl (lv_at hl 5 rfl) ?_
              refine tg_mem (ci := 10) (C := RX10) (T := TX10) (N := 49) hx hb hts inX10 hown hK hw 40 m_u_91 rfl (by decide) (hts _ tw_1177) (fun _ h9 => h9) dX10_readBookLine_136 ?_
              refine lv_iload hx hb dX10_readBookLine_139 (lv_at hl 0 rfl) ?_
              refine lv_iconst (v := 1) hx hb dX10_readBookLine_141 (by decide) ?_
              refine lv_iadd hx hb dX10_readBookLine_142 (lv_topi (fun v_93 e_v_93 => ?_))
              obtain ⟨t_v_93, r_v_93⟩ := tq_add (lo := 1) (hi := 118) r_v_90 rl_1 (by decide +kernel) e_v_93
              have t_v_93 : v_93.toInt = v_90.toInt + 1 := t_v_93
              have q_v_93 : v_90 + (1 : Int32) = v_93 := e_v_93.symm
              refine lv_iload hx hb dX10_readBookLine_143 (lv_at hl 1 rfl) ?_
              refine lv_if_eq (tgt := 170) hx hb dX10_readBookLine_145 (by decide) (fun _ => ?_) (fun c9 => absurd (by decide) c9)
              refine lv_iconst (v := 0) hx hb dX10_readBookLine_170 (by decide) ?_
              have mo9 := m_u_91
              refine tg_iast hx hb hK hw h_vu_91 rfl 1 118 r_v_93 (by decide) rl_0 (by exact fun _ _ _ => by decide) (fun _ _ _ _ _ => trivial) (by decide) dX10_readBookLine_171 (fun ws H locs hw hF9 hU9 => ?_)
              have x_OL_p0_v_90 : AX 40 52 (fun f => OLp f v_90) Ps ws p0 := AX.ast hF9 hU9 x_OL_p0_v_90 m_u_91 (fun f9 h9 => OL_upd h9 g_at (by have k1 := r_v_93.cl (by decide); have k2 := r_v_90.1; omega))
              have x_LE_p0_v_90_0_4_4 : AX 40 52 (fun f => 4 ≤ (f (Int32.toNatClampNeg v_90)).toInt ∧ (f (Int32.toNatClampNeg v_90)).toInt ≤ 4) Ps ws p0 := AX.ast hF9 hU9 x_LE_p0_v_90_0_4_4 m_u_91 (fun f9 h9 => by have j9 : Int32.toNatClampNeg v_93 = Int32.toNatClampNeg v_90 + 1 := (by have k1 := r_v_93.cl (by decide); have k2 := r_v_90.cl (by decide); omega); show _ ∧ _; rw [pk_un (by omega)]; exact h9)
              have x_LE_p0_v_90_1_0_0 : AX 40 52 (fun f => 0 ≤ (f (Int32.toNatClampNeg v_90 + 1)).toInt ∧ (f (Int32.toNatClampNeg v_90 + 1)).toInt ≤ 0) Ps ws p0 := AX.ast hF9 hU9 x_LE_p0_v_90_1_0_60 m_u_91 (fun f9 h9 => by have j9 : Int32.toNatClampNeg v_93 = Int32.toNatClampNeg v_90 + 1 := (by have k1 := r_v_93.cl (by decide); have k2 := r_v_90.cl (by decide); omega); show _ ∧ _; rw [← j9, pk_us]; exact rl_0)
              have x_LE_p0_v_90_2_0_60 : AX 40 52 (fun f => 0 ≤ (f (Int32.toNatClampNeg v_90 + 2)).toInt ∧ (f (Int32.toNatClampNeg v_90 + 2)).toInt ≤ 60) Ps ws p0 := AX.ast hF9 hU9 x_LE_p0_v_90_2_0_60 m_u_91 (fun f9 h9 => by have j9 : Int32.toNatClampNeg v_93 = Int32.toNatClampNeg v_90 + 1 := (by have k1 := r_v_93.cl (by decide); have k2 := r_v_90.cl (by decide); omega); show _ ∧ _; rw [pk_un (by omega)]; exact h9)
              have x_WRD_p0_307058 := WRD.over hF9 x_WRD_p0_307058 (by decide)
              have m_u_89 := FLD.over hF9 m_u_89 (by decide)
              have m_u_91 := FLD.over hF9 m_u_91 (by decide)
              obtain ⟨sg_94, q_sg_94⟩ : ∃ q9 : OS, sA sg_92 40 (Int32.toNatClampNeg v_93) (0 : Int32) = q9 := ⟨_, rfl⟩
              have o_p0 : OV vw_M5 Ps ws p0 sg_94 := by rw [← q_sg_94]; exact OV.putA (V := vw_M5) (t := 52) hF9 hU9 o_p0 mo9 (by decide) (by decide)
              refine lv_aload_n hx hb dX10_readBookLine_172 rfl (lv_at hl 5 rfl) ?_
              refine tg_mem (ci := 10) (C := RX10) (T := TX10) (N := 49) hx hb hts inX10 hown hK hw 40 m_u_91 rfl (by decide) (hts _ tw_1177) (fun _ h9 => h9) dX10_readBookLine_173 ?_
              refine lv_iload hx hb dX10_readBookLine_176 (lv_at hl 0 rfl) ?_
              refine lv_iconst (v := 2) hx hb dX10_readBookLine_178 (by decide) ?_
              refine lv_iadd hx hb dX10_readBookLine_179 (lv_topi (fun v_95 e_v_95 => ?_))
              obtain ⟨t_v_95, r_v_95⟩ := tq_add (lo := 2) (hi := 119) r_v_90 rl_2 (by decide +kernel) e_v_95
              have t_v_95 : v_95.toInt = v_90.toInt + 2 := t_v_95
              have q_v_95 : v_90 + (2 : Int32) = v_95 := e_v_95.symm
              refine lv_iconst (v := 0) hx hb dX10_readBookLine_180 (by decide) ?_
              have mo9 := m_u_91
              refine tg_iast hx hb hK hw h_vu_91 rfl 2 119 r_v_95 (by decide) rl_0 (by exact fun _ _ _ => by decide) (fun _ _ _ _ _ => trivial) (by decide) dX10_readBookLine_181 (fun ws H locs hw hF9 hU9 => ?_)
              have x_OL_p0_v_90 : AX 40 52 (fun f => OLp f v_90) Ps ws p0 := AX.ast hF9 hU9 x_OL_p0_v_90 m_u_91 (fun f9 h9 => OL_upd h9 g_at (by have k1 := r_v_95.cl (by decide); have k2 := r_v_90.1; omega))
              have x_LE_p0_v_90_0_4_4 : AX 40 52 (fun f => 4 ≤ (f (Int32.toNatClampNeg v_90)).toInt ∧ (f (Int32.toNatClampNeg v_90)).toInt ≤ 4) Ps ws p0 := AX.ast hF9 hU9 x_LE_p0_v_90_0_4_4 m_u_91 (fun f9 h9 => by have j9 : Int32.toNatClampNeg v_95 = Int32.toNatClampNeg v_90 + 2 := (by have k1 := r_v_95.cl (by decide); have k2 := r_v_90.cl (by decide); omega); show _ ∧ _; rw [pk_un (by omega)]; exact h9)
              have x_LE_p0_v_90_1_0_0 : AX 40 52 (fun f => 0 ≤ (f (Int32.toNatClampNeg v_90 + 1)).toInt ∧ (f (Int32.toNatClampNeg v_90 + 1)).toInt ≤ 0) Ps ws p0 := AX.ast hF9 hU9 x_LE_p0_v_90_1_0_0 m_u_91 (fun f9 h9 => by have j9 : Int32.toNatClampNeg v_95 = Int32.toNatClampNeg v_90 + 2 := (by have k1 := r_v_95.cl (by decide); have k2 := r_v_90.cl (by decide); omega); show _ ∧ _; rw [pk_un (by omega)]; exact h9)
              have x_LE_p0_v_90_2_0_0 : AX 40 52 (fun f => 0 ≤ (f (Int32.toNatClampNeg v_90 + 2)).toInt ∧ (f (Int32.toNatClampNeg v_90 + 2)).toInt ≤ 0) Ps ws p0 := AX.ast hF9 hU9 x_LE_p0_v_90_2_0_60 m_u_91 (fun f9 h9 => by have j9 : Int32.toNatClampNeg v_95 = Int32.toNatClampNeg v_90 + 2 := (by have k1 := r_v_95.cl (by decide); have k2 := r_v_90.cl (by decide); omega); show _ ∧ _; rw [← j9, pk_us]; exact rl_0)
              have x_WRD_p0_307058 := WRD.over hF9 x_WRD_p0_307058 (by decide)
              have m_u_89 := FLD.over hF9 m_u_89 (by decide)
              have m_u_91 := FLD.over hF9 m_u_91 (by decide)
              obtain ⟨sg_96, q_sg_96⟩ : ∃ q9 : OS, sA sg_94 40 (Int32.toNatClampNeg v_95) (0 : Int32) = q9 := ⟨_, rfl⟩
              have o_p0 : OV vw_M5 Ps ws p0 sg_96 := by rw [← q_sg_96]; exact OV.putA (V := vw_M5) (t := 52) hF9 hU9 o_p0 mo9 (by decide) (by decide)
              refine lv_aload_n hx hb dX10_readBookLine_182 rfl (lv_at hl 5 rfl) ?_
              refine tk_v (va_runV (As := []) (rest := []) ⟨hx, hb, hml, hown, hts⟩ (c_X10_go__5 l D cy z H.size Ps ws hw.1 p0 sg_96 h_p0 o_p0) (cwV 0 hts (gV tw_1298 tw_1300 ts_40 tw_15 tw_1301) rfl rfl rfl (by decide +kernel) ⟨Nat.le_of_ble_eq_true rfl, Nat.le_of_ble_eq_true rfl⟩) (tg_preV hw hK hSD hA (ci := 10) (q := (RX10, TX10, 49)) rfl h_p0 rfl) rfl rfl hl.1 rfl (lv_room (Nat.le_of_ble_eq_true rfl)) dX10_readBookLine_183 ⟨Nat.le_of_ble_eq_true rfl, Nat.le_of_ble_eq_true rfl⟩) hw hA ⟨by decide, by decide⟩ (fun ws H locs hp_v_97 hw hF9 => ?_)
              have m_u_89 := FLD.over hF9 m_u_89 (by decide)
              have m_u_91 := FLD.over hF9 m_u_91 (by decide)
              have x_OL_p0_v_90 := AX.over hF9 x_OL_p0_v_90 (by decide)
              have x_LE_p0_v_90_0_4_4 := AX.over hF9 x_LE_p0_v_90_0_4_4 (by decide)
              have x_LE_p0_v_90_1_0_0 := AX.over hF9 x_LE_p0_v_90_1_0_0 (by decide)
              have x_LE_p0_v_90_2_0_0 := AX.over hF9 x_LE_p0_v_90_2_0_0 (by decide)
              obtain ⟨hfn, hp_v_97⟩ := hp_v_97
              obtain ⟨sg_98, q_sg_98⟩ : ∃ q9 : OS, (f_X10_go__2 sg_96) = q9 := ⟨_, rfl⟩
              have o_p0 : OV vw_M5 Ps ws p0 sg_98 := by rw [← q_sg_98]; exact hfn.1
              refine lv_iload hx hb dX10_readBookLine_186 (lv_at hl 1 rfl) ?_
              refine lv_if_eq (tgt := 213) hx hb dX10_readBookLine_188 (by decide) (fun _ => ?_) (fun c9 => absurd (by decide) c9)
              refine lv_iload_n hx hb dX10_readBookLine_213 rfl (lv_at hl 2 rfl) ?_
              refine lv_if_eq (tgt := 248) hx hb dX10_readBookLine_214 (by decide) (fun c_214 => ?_) (fun c_214 => ?_)
              · refine lv_aload_n hx hb dX10_readBookLine_248 rfl (lv_at hl 5 rfl) ?_
                refine lv_iload hx hb dX10_readBookLine_249 (lv_at hl 0 rfl) ?_
                refine lv_iconst (v := 1) hx hb dX10_readBookLine_251 (by decide) ?_
                refine lv_iadd hx hb dX10_readBookLine_252 (lv_topi (fun v_99 e_v_99 => ?_))
                obtain ⟨t_v_99, r_v_99⟩ := tq_add (lo := 1) (hi := 118) r_v_90 rl_1 (by decide +kernel) e_v_99
                have t_v_99 : v_99.toInt = v_90.toInt + 1 := t_v_99
                have z9 : v_93 = v_99 := q_v_93.symm.trans (e_v_99.symm)
                subst z9
                refine lv_aload_n hx hb dX10_readBookLine_253 rfl (lv_at hl 5 rfl) ?_
                refine tk_i (va_runV (As := []) (rest := [.int v_93, .ref p0]) ⟨hx, hb, hml, hown, hts⟩ (c_X10_readParcelName__1 l D cy z H.size Ps ws hw.1 p0 sg_98 h_p0 o_p0) (cwV 0 hts (gV tw_1719 tw_1721 ts_105 tw_15 tw_1722) rfl rfl rfl (by decide +kernel) ⟨Nat.le_of_ble_eq_true rfl, Nat.le_of_ble_eq_true rfl⟩) (tg_preV hw hK hSD hA (ci := 10) (q := (RX10, TX10, 49)) rfl h_p0 rfl) rfl rfl hl.1 rfl (lv_room (Nat.le_of_ble_eq_true rfl)) dX10_readBookLine_254 ⟨Nat.le_of_ble_eq_true rfl, Nat.le_of_ble_eq_true rfl⟩) hw hA ⟨by decide, by decide⟩ (fun v_100 ws H locs hp_v_100 hw hF9 => ?_)
                have m_u_89 := FLD.over hF9 m_u_89 (by decide)
                have m_u_91 := FLD.over hF9 m_u_91 (by decide)
                have x_OL_p0_v_90 := AX.over hF9 x_OL_p0_v_90 (by decide)
                have x_LE_p0_v_90_0_4_4 := AX.over hF9 x_LE_p0_v_90_0_4_4 (by decide)
                have x_LE_p0_v_90_1_0_0 := AX.over hF9 x_LE_p0_v_90_1_0_0 (by decide)
                have x_LE_p0_v_90_2_0_0 := AX.over hF9 x_LE_p0_v_90_2_0_0 (by decide)
                obtain ⟨hfn, hp_v_100⟩ := hp_v_100
                obtain ⟨sg_101, q_sg_101⟩ : ∃ q9 : OS, (f_X10_readParcelName__1 sg_98).1 = q9 := ⟨_, rfl⟩
                have o_p0 : OV vw_M5 Ps ws p0 sg_101 := by rw [← q_sg_101]; exact hfn.1
                have q_v_100 : (f_X10_readParcelName__1 sg_98).2 = v_100 := hfn.2.1
                have r_v_100 : RI v_100 0 1 := hp_v_100.1
                by_cases c9_v_100 : v_100 = 0
                · have r_v_100 : RI v_100 0 0 := by rw [c9_v_100]; exact rl_0
                  refine tk_ir (va_runV (As := [.int v_93, .int v_100]) (rest := []) ⟨hx, hb, hml, hown, hts⟩ (c_X10_keep__8 l D cy z H.size Ps ws hw.1 p0 v_93 v_100 (fun f => OLp f v_90 ∧ (4 ≤ (f (Int32.toNatClampNeg v_90)).toInt ∧ (f (Int32.toNatClampNeg v_90)).toInt ≤ 4) ∧ (0 ≤ (f (Int32.toNatClampNeg v_90 + 1)).toInt ∧ (f (Int32.toNatClampNeg v_90 + 1)).toInt ≤ 0) ∧ (0 ≤ (f (Int32.toNatClampNeg v_90 + 2)).toInt ∧ (f (Int32.toNatClampNeg v_90 + 2)).toInt ≤ 0) ∧ True) (fun f => OLp f v_90 ∧ (4 ≤ (f (Int32.toNatClampNeg v_90)).toInt ∧ (f (Int32.toNatClampNeg v_90)).toInt ≤ 4) ∧ ((-2147483648) ≤ (f (Int32.toNatClampNeg v_90 + 1)).toInt ∧ (f (Int32.toNatClampNeg v_90 + 1)).toInt ≤ 2147483647) ∧ (0 ≤ (f (Int32.toNatClampNeg v_90 + 2)).toInt ∧ (f (Int32.toNatClampNeg v_90 + 2)).toInt ≤ 0) ∧ True) sg_101 h_p0 r_v_93 r_v_100 (AX.and hw x_OL_p0_v_90 (AX.and hw x_LE_p0_v_90_0_4_4 (AX.and hw x_LE_p0_v_90_1_0_0 (AX.and hw x_LE_p0_v_90_2_0_0 (lx_true hw h_p0))))) (fun f9 v9 hv9 H9 => ⟨(have h9 := H9.1; OL_upd h9 g_at (by have k1 := r_v_93.cl (by decide); have k2 := r_v_90.1; omega)), (have h9 := H9.2.1; by have j9 : Int32.toNatClampNeg v_93 = Int32.toNatClampNeg v_90 + 1 := (by have k1 := r_v_93.cl (by decide); have k2 := r_v_90.cl (by decide); omega); show _ ∧ _; rw [pk_un (by omega)]; exact h9), (have h9 := H9.2.2.1; by have j9 : Int32.toNatClampNeg v_93 = Int32.toNatClampNeg v_90 + 1 := (by have k1 := r_v_93.cl (by decide); have k2 := r_v_90.cl (by decide); omega); show _ ∧ _; rw [← j9, pk_us]; exact hv9), (have h9 := H9.2.2.2.1; by have j9 : Int32.toNatClampNeg v_93 = Int32.toNatClampNeg v_90 + 1 := (by have k1 := r_v_93.cl (by decide); have k2 := r_v_90.cl (by decide); omega); show _ ∧ _; rw [pk_un (by omega)]; exact h9), trivial⟩) o_p0) (cwV 2 hts (gV tw_1727 tw_1729 ts_107 tw_15 tw_1730) rfl rfl rfl (by decide +kernel) ⟨Nat.le_of_ble_eq_true rfl, Nat.le_of_ble_eq_true rfl⟩) (tg_preV hw hK hSD hA (ci := 10) (q := (RX10, TX10, 49)) rfl h_p0 rfl) rfl rfl hl.1 rfl (lv_room (Nat.le_of_ble_eq_true rfl)) dX10_readBookLine_257 ⟨Nat.le_of_ble_eq_true rfl, Nat.le_of_ble_eq_true rfl⟩) hw hA (fun v_102  H locs hp_v_102 hw => ?_)
                  obtain ⟨hfn, hp_v_102⟩ := hp_v_102
                  have q_v_102 : (f_X10_keep__6 v_93 v_100 sg_101) = v_102 := hfn.1
                  have r_v_102 : RI v_102 0 0 := hp_v_102.1
                  by_cases c9_v_102 : v_102 = 0
                  · have r_v_102 : RI v_102 0 0 := by rw [c9_v_102]; exact rl_0
                    have x_OL_p0_v_90 : AX 40 52 (fun f => OLp f v_90) Ps ws p0 := AX.imp ((hp_v_102.2.1 c9_v_102).1) (fun _ h9 => h9.1)
                    have x_LE_p0_v_90_0_4_4 : AX 40 52 (fun f => 4 ≤ (f (Int32.toNatClampNeg v_90)).toInt ∧ (f (Int32.toNatClampNeg v_90)).toInt ≤ 4) Ps ws p0 := AX.imp ((hp_v_102.2.1 c9_v_102).1) (fun _ h9 => h9.2.1)
                    have x_LE_p0_v_90_1_0_0 : AX 40 52 (fun f => 0 ≤ (f (Int32.toNatClampNeg v_90 + 1)).toInt ∧ (f (Int32.toNatClampNeg v_90 + 1)).toInt ≤ 0) Ps ws p0 := AX.imp ((hp_v_102.2.1 c9_v_102).1) (fun _ h9 => h9.2.2.1)
                    have x_LE_p0_v_90_2_0_0 : AX 40 52 (fun f => 0 ≤ (f (Int32.toNatClampNeg v_90 + 2)).toInt ∧ (f (Int32.toNatClampNeg v_90 + 2)).toInt ≤ 0) Ps ws p0 := AX.imp ((hp_v_102.2.1 c9_v_102).1) (fun _ h9 => h9.2.2.2.1)
                    refine lv_if_ne (tgt := 265) hx hb dX10_readBookLine_260 (by decide) (fun c_260 => ?_) (fun c_260 => ?_)
                    · exact absurd (r_v_102.eq.trans rl_0.eq.symm) ((ti_ne c_260))
                    · refine lv_iconst (v := 0) hx hb dX10_readBookLine_263 (by decide) ?_
                      simp only [f_X10_readBookLine__1, ↓reduceIte, q_v_1, eq_false c9_v_1, q_v_87, eq_true c9_v_87, q_v_88, eq_true c9_v_88, eq_false c_22, q_vu_89, eq_false c_93, q_v_90, eq_false c_117, q_sg_92, q_v_93, q_sg_94, q_v_95, q_sg_96, q_sg_98, eq_true c_214, q_sg_101, q_v_100, eq_true c9_v_100, q_v_102, eq_true c9_v_102, eq_true c_260] at hE
                      subst hQ
                      exact W.zret (v := 0) hx hb hr (rfl) (fun t ht hW => ⟨⟨0, ws, rfl, ⟨⟨⟨(by rw [hR, ← hE]; exact o_p0), (by rw [hR, ← hE]), trivial⟩, rl_0.to (by decide), (fun h0 => trivial), (fun h0 => absurd rfl h0)⟩, hw.1, hw.2.2.2.2.1⟩, by rw [ht]; exact hw.2.1, va_K.moved hW.alike hK, hw.2.2.1⟩, hw.2.2.2.1.F ht⟩) hw.2.2.2.1.2.2 dX10_readBookLine_264
                  · exact absurd (Int32.toInt_inj.mp (by rw [Int32.toInt_zero]; unfold RI at r_v_102; omega)) c9_v_102
                · have r_v_100 : RI v_100 1 1 := rc_neL r_v_100 rl_0 (ti_ne c9_v_100) (by decide)
                  obtain ⟨v_103, m_v_103, r_v_103⟩ := ((hp_v_100.2.2 c9_v_100).1)
                  refine tk_i (va_runV (As := [.int v_93, .int v_100]) (rest := []) ⟨hx, hb, hml, hown, hts⟩ (c_X10_keep__10 l D cy z H.size Ps ws hw.1 p0 v_93 v_100 v_103 (fun f => OLp f v_90 ∧ (4 ≤ (f (Int32.toNatClampNeg v_90)).toInt ∧ (f (Int32.toNatClampNeg v_90)).toInt ≤ 4) ∧ (0 ≤ (f (Int32.toNatClampNeg v_90 + 1)).toInt ∧ (f (Int32.toNatClampNeg v_90 + 1)).toInt ≤ 0) ∧ (0 ≤ (f (Int32.toNatClampNeg v_90 + 2)).toInt ∧ (f (Int32.toNatClampNeg v_90 + 2)).toInt ≤ 0) ∧ True) (fun f => OLp f v_90 ∧ (4 ≤ (f (Int32.toNatClampNeg v_90)).toInt ∧ (f (Int32.toNatClampNeg v_90)).toInt ≤ 4) ∧ (0 ≤ (f (Int32.toNatClampNeg v_90 + 1)).toInt ∧ (f (Int32.toNatClampNeg v_90 + 1)).toInt ≤ 5) ∧ (0 ≤ (f (Int32.toNatClampNeg v_90 + 2)).toInt ∧ (f (Int32.toNatClampNeg v_90 + 2)).toInt ≤ 0) ∧ True) sg_101 h_p0 r_v_93 r_v_100 r_v_103 m_v_103 (AX.and hw x_OL_p0_v_90 (AX.and hw x_LE_p0_v_90_0_4_4 (AX.and hw x_LE_p0_v_90_1_0_0 (AX.and hw x_LE_p0_v_90_2_0_0 (lx_true hw h_p0))))) (fun f9 v9 hv9 H9 => ⟨(have h9 := H9.1; OL_upd h9 g_at (by have k1 := r_v_93.cl (by decide); have k2 := r_v_90.1; omega)), (have h9 := H9.2.1; by have j9 : Int32.toNatClampNeg v_93 = Int32.toNatClampNeg v_90 + 1 := (by have k1 := r_v_93.cl (by decide); have k2 := r_v_90.cl (by decide); omega); show _ ∧ _; rw [pk_un (by omega)]; exact h9), (have h9 := H9.2.2.1; by have j9 : Int32.toNatClampNeg v_93 = Int32.toNatClampNeg v_90 + 1 := (by have k1 := r_v_93.cl (by decide); have k2 := r_v_90.cl (by decide); omega); show _ ∧ _; rw [← j9, pk_us]; exact hv9), (have h9 := H9.2.2.2.1; by have j9 : Int32.toNatClampNeg v_93 = Int32.toNatClampNeg v_90 + 1 := (by have k1 := r_v_93.cl (by decide); have k2 := r_v_90.cl (by decide); omega); show _ ∧ _; rw [pk_un (by omega)]; exact h9), trivial⟩) o_p0) (cwV 2 hts (gV tw_1727 tw_1729 ts_107 tw_15 tw_1730) rfl rfl rfl (by decide +kernel) ⟨Nat.le_of_ble_eq_true rfl, Nat.le_of_ble_eq_true rfl⟩) (tg_preV hw hK hSD hA (ci := 10) (q := (RX10, TX10, 49)) rfl h_p0 rfl) rfl rfl hl.1 rfl (lv_room (Nat.le_of_ble_eq_true rfl)) dX10_readBookLine_257 ⟨Nat.le_of_ble_eq_true rfl, Nat.le_of_ble_eq_true rfl⟩) hw hA ⟨by decide, by decide⟩ (fun v_104 ws H locs hp_v_104 hw hF9 => ?_)
                  have m_u_89 := FLD.over hF9 m_u_89 (by decide)
                  have m_u_91 := FLD.over hF9 m_u_91 (by decide)
                  have m_v_103 := FLD.over hF9 m_v_103 (by decide)
                  obtain ⟨hfn, hp_v_104⟩ := hp_v_104
                  obtain ⟨sg_105, q_sg_105⟩ : ∃ q9 : OS, (f_X10_keep__7 v_93 v_100 sg_101).1 = q9 := ⟨_, rfl⟩
                  have o_p0 : OV vw_M5 Ps ws p0 sg_105 := by rw [← q_sg_105]; exact hfn.1
                  have q_v_104 : (f_X10_keep__7 v_93 v_100 sg_101).2 = v_104 := hfn.2.1
                  have r_v_104 : RI v_104 1 1 := hp_v_104.1
                  by_cases c9_v_104 : v_104 = 0
                  · exact absurd (ti_eq c9_v_104) (by unfold RI at r_v_104; rw [Int32.toInt_zero]; omega)
                  · obtain ⟨v_106, m_v_106, r_v_106⟩ := ((hp_v_104.2.2 c9_v_104).1)
                    have x_OL_p0_v_90 : AX 40 52 (fun f => OLp f v_90) Ps ws p0 := AX.imp ((hp_v_104.2.2 c9_v_104).2.1) (fun _ h9 => h9.1)
                    have x_LE_p0_v_90_0_4_4 : AX 40 52 (fun f => 4 ≤ (f (Int32.toNatClampNeg v_90)).toInt ∧ (f (Int32.toNatClampNeg v_90)).toInt ≤ 4) Ps ws p0 := AX.imp ((hp_v_104.2.2 c9_v_104).2.1) (fun _ h9 => h9.2.1)
                    have x_LE_p0_v_90_1_0_5 : AX 40 52 (fun f => 0 ≤ (f (Int32.toNatClampNeg v_90 + 1)).toInt ∧ (f (Int32.toNatClampNeg v_90 + 1)).toInt ≤ 5) Ps ws p0 := AX.imp ((hp_v_104.2.2 c9_v_104).2.1) (fun _ h9 => h9.2.2.1)
                    have x_LE_p0_v_90_2_0_0 : AX 40 52 (fun f => 0 ≤ (f (Int32.toNatClampNeg v_90 + 2)).toInt ∧ (f (Int32.toNatClampNeg v_90 + 2)).toInt ≤ 0) Ps ws p0 := AX.imp ((hp_v_104.2.2 c9_v_104).2.1) (fun _ h9 => h9.2.2.2.1)
                    refine lv_if_ne (tgt := 265) hx hb dX10_readBookLine_260 (by decide) (fun c_260 => ?_) (fun c_260 => ?_)
                    · refine lv_iload_n hx hb dX10_readBookLine_265 rfl (lv_at hl 4 rfl) ?_
                      refine lv_if_ne (tgt := 292) hx hb dX10_readBookLine_266 (by decide) (fun c_266 => ?_) (fun c_266 => ?_)
                      · refine lv_aload_n hx hb dX10_readBookLine_292 rfl (lv_at hl 5 rfl) ?_
                        refine tk_i (va_runV (As := []) (rest := []) ⟨hx, hb, hml, hown, hts⟩ (c_X10_readEnd__3 l D cy z H.size Ps ws hw.1 p0 sg_105 h_p0 o_p0) (cwV 0 hts (gV tw_1409 tw_1411 ts_62 tw_15 tw_1412) rfl rfl rfl (by decide +kernel) ⟨Nat.le_of_ble_eq_true rfl, Nat.le_of_ble_eq_true rfl⟩) (tg_preV hw hK hSD hA (ci := 10) (q := (RX10, TX10, 49)) rfl h_p0 rfl) rfl rfl hl.1 rfl (lv_room (Nat.le_of_ble_eq_true rfl)) dX10_readBookLine_293 ⟨Nat.le_of_ble_eq_true rfl, Nat.le_of_ble_eq_true rfl⟩) hw hA ⟨by decide, by decide⟩ (fun v_107 ws H locs hp_v_107 hw hF9 => ?_)
                        have m_u_89 := FLD.over hF9 m_u_89 (by decide)
                        have m_u_91 := FLD.over hF9 m_u_91 (by decide)
                        have m_v_106 := FLD.over hF9 m_v_106 (by decide)
                        have x_OL_p0_v_90 := AX.over hF9 x_OL_p0_v_90 (by decide)
                        have x_LE_p0_v_90_0_4_4 := AX.over hF9 x_LE_p0_v_90_0_4_4 (by decide)
                        have x_LE_p0_v_90_1_0_5 := AX.over hF9 x_LE_p0_v_90_1_0_5 (by decide)
                        have x_LE_p0_v_90_2_0_0 := AX.over hF9 x_LE_p0_v_90_2_0_0 (by decide)
                        obtain ⟨hfn, hp_v_107⟩ := hp_v_107
                        obtain ⟨sg_108, q_sg_108⟩ : ∃ q9 : OS, (f_X10_readEnd__2 sg_105).1 = q9 := ⟨_, rfl⟩
                        have o_p0 : OV vw_M5 Ps ws p0 sg_108 := by rw [← q_sg_108]; exact hfn.1
                        have q_v_107 : (f_X10_readEnd__2 sg_105).2 = v_107 := hfn.2.1
                        have r_v_107 : RI v_107 0 1 := hp_v_107.1
                        refine lv_if_eq (tgt := 303) hx hb dX10_readBookLine_296 (by decide) (fun c_296 => ?_) (fun c_296 => ?_)
                        · have r_v_107 : RI v_107 0 0 := rc_eq1 r_v_107 rl_0 (ti_eq c_296) (by decide)
                          refine lv_iconst (v := 0) hx hb dX10_readBookLine_303 (by decide) ?_
                          simp only [f_X10_readBookLine__1, ↓reduceIte, q_v_1, eq_false c9_v_1, q_v_87, eq_true c9_v_87, q_v_88, eq_true c9_v_88, eq_false c_22, q_vu_89, eq_false c_93, q_v_90, eq_false c_117, q_sg_92, q_v_93, q_sg_94, q_v_95, q_sg_96, q_sg_98, eq_true c_214, q_sg_101, q_v_100, eq_false c9_v_100, q_sg_105, q_v_104, eq_false c9_v_104, eq_false c_260, eq_false c_266, q_sg_108, q_v_107, eq_true c_296] at hE
                          subst hQ
                          exact W.zret (v := 0) hx hb hr (rfl) (fun t ht hW => ⟨⟨0, ws, rfl, ⟨⟨⟨(by rw [hR, ← hE]; exact o_p0), (by rw [hR, ← hE]), trivial⟩, rl_0.to (by decide), (fun h0 => trivial), (fun h0 => absurd rfl h0)⟩, hw.1, hw.2.2.2.2.1⟩, by rw [ht]; exact hw.2.1, va_K.moved hW.alike hK, hw.2.2.1⟩, hw.2.2.2.1.F ht⟩) hw.2.2.2.1.2.2 dX10_readBookLine_304
                        · have r_v_107 : RI v_107 1 1 := rc_neL r_v_107 rl_0 (ti_ne c_296) (by decide)
                          have x_L9 := AX.and hw x_LE_p0_v_90_0_4_4 (AX.and hw x_LE_p0_v_90_1_0_5 x_LE_p0_v_90_2_0_0)
                          have x_GL_p0_v_90 : AX 40 52 (fun f => GLk f (Int32.toNatClampNeg v_90)) Ps ws p0 := AX.imp x_L9 (fun f9 h9 => ⟨⟨by have k1 := h9.1.1; omega, by have k1 := h9.1.2; omega⟩, by have k1 := h9.1.1; have k2 := h9.2.1.2; omega, by have k3 := h9.2.2.2; omega⟩)
                          have x_LNG_p0 : LNG Ps ws p0 := LNG.mk m_u_89 (by have k1 := t_v_90; omega) r_vu_89.1 (AX.and hw x_OL_p0_v_90 x_GL_p0_v_90)
                          refine lv_iconst (v := 1) hx hb dX10_readBookLine_299 (by decide) ?_
                          refine lv_goto (tgt := 304) hx hb dX10_readBookLine_300 (by decide) ?_
                          simp only [f_X10_readBookLine__1, ↓reduceIte, q_v_1, eq_false c9_v_1, q_v_87, eq_true c9_v_87, q_v_88, eq_true c9_v_88, eq_false c_22, q_vu_89, eq_false c_93, q_v_90, eq_false c_117, q_sg_92, q_v_93, q_sg_94, q_v_95, q_sg_96, q_sg_98, eq_true c_214, q_sg_101, q_v_100, eq_false c9_v_100, q_sg_105, q_v_104, eq_false c9_v_104, eq_false c_260, eq_false c_266, q_sg_108, q_v_107, eq_false c_296] at hE
                          subst hQ
                          exact W.zret (v := 1) hx hb hr (rfl) (fun t ht hW => ⟨⟨1, ws, rfl, ⟨⟨⟨(by rw [hR, ← hE]; exact o_p0), (by rw [hR, ← hE]), trivial⟩, rl_1.to (by decide), (fun _ => trivial), (fun h0 => ⟨⟨_, m_u_89, r_vu_89⟩, x_LNG_p0, trivial⟩)⟩, hw.1, hw.2.2.2.2.1⟩, by rw [ht]; exact hw.2.1, va_K.moved hW.alike hK, hw.2.2.1⟩, hw.2.2.2.1.F ht⟩) hw.2.2.2.1.2.2 dX10_readBookLine_304
                      · have r_v_1 : RI v_1 1 0 := rc_eq1 r_v_1 rl_0 (ti_eq c_266) (by decide)
                        exact (r_v_1.no (by decide)).elim
                    · have r_v_104 : RI v_104 1 0 := rc_eq1 r_v_104 rl_0 (ti_eq c_260) (by decide)
                      exact (r_v_104.no (by decide)).elim
              · exact absurd (r_v_88.eq.trans rl_0.eq.symm) ((ti_ne c_214))
          · have r_vu_89 : RI vu_89 40 40 := rc_eq1 r_vu_89 rl_40 (ti_eq c_93) (by decide)
            refine lv_aload_n hx hb dX10_readBookLine_96 rfl (lv_at hl 4 rfl) ?_
            refine lv_iconst (v := 4) hx hb dX10_readBookLine_97 (by decide) ?_
            refine tk_i (va_runV (As := [.int 4]) (rest := []) ⟨hx, hb, hml, hown, hts⟩ (c_X10_bad__3 l D cy z H.size Ps w0 hw.1 p0 4 s0 h_p0 (rl_4.to (by decide)) o_p0) (cwV 1 hts (gV tw_1336 tw_1338 ts_46 tw_15 tw_1339) rfl rfl rfl (by decide +kernel) ⟨Nat.le_of_ble_eq_true rfl, Nat.le_of_ble_eq_true rfl⟩) (tg_preV hw hK hSD hA (ci := 10) (q := (RX10, TX10, 49)) rfl h_p0 rfl) rfl rfl hl.1 rfl (lv_room (Nat.le_of_ble_eq_true rfl)) dX10_readBookLine_98 ⟨Nat.le_of_ble_eq_true rfl, Nat.le_of_ble_eq_true rfl⟩) hw hA ⟨by decide, by decide⟩ (fun v_109 ws H locs hp_v_109 hw hF9 => ?_)
            have m_u_89 := FLD.over hF9 m_u_89 (by decide)
            have x_LNS_p0 := LNS.over hF9 x_LNS_p0 (by decide)
            have x_WRD_p0_307058 := WRD.over hF9 x_WRD_p0_307058 (by decide)
            obtain ⟨hfn, hp_v_109⟩ := hp_v_109
            obtain ⟨sg_110, q_sg_110⟩ : ∃ q9 : OS, (f_X10_bad__1 (4 : Int32) s0).1 = q9 := ⟨_, rfl⟩
            have o_p0 : OV vw_M5 Ps ws p0 sg_110 := by rw [← q_sg_110]; exact hfn.1
            have q_v_109 : (f_X10_bad__1 (4 : Int32) s0).2 = v_109 := hfn.2.1
            have r_v_109 : RI v_109 0 0 := hp_v_109.1
            simp only [f_X10_readBookLine__1, ↓reduceIte, q_v_1, eq_false c9_v_1, q_v_87, eq_true c9_v_87, q_v_88, eq_true c9_v_88, eq_false c_22, q_vu_89, eq_true c_93, q_sg_110, q_v_109] at hE
            subst hQ
            exact W.zret (v := v_109) hx hb hr (tq_nz (r_v_109.to (by decide))) (fun t ht hW => ⟨⟨v_109, ws, rfl, ⟨⟨⟨(by rw [hR, ← hE]; exact o_p0), (by rw [hR, ← hE]), trivial⟩, r_v_109.to (by decide), (fun h0 => trivial), (fun h0 => absurd (Int32.toInt_inj.mp (by have h8 := r_v_109; unfold RI at h8; rw [Int32.toInt_zero]; omega)) h0)⟩, hw.1, hw.2.2.2.2.1⟩, by rw [ht]; exact hw.2.1, va_K.moved hW.alike hK, hw.2.2.1⟩, hw.2.2.2.1.F ht⟩) hw.2.2.2.1.2.2 dX10_readBookLine_101
        · have r_v_1 : RI v_1 1 0 := rc_eq1 r_v_1 rl_0 (ti_eq c_22) (by decide)
          exact (r_v_1.no (by decide)).elim
      · have r_v_88 : RI v_88 1 1 := rc_neL r_v_88 rl_0 (ti_ne c9_v_88) (by decide)
        have x_WRD_p0_2968 := ((hp_v_88.2.2 c9_v_88).1)
        exact (WRD.no hw x_WRD_p0_2968 x_WRD_p0_307058 (by decide)).elim
    · have r_v_87 : RI v_87 1 1 := rc_neL r_v_87 rl_0 (ti_ne c9_v_87) (by decide)
      have x_WRD_p0_1627639 := ((hp_v_87.2.2 c9_v_87).1)
      exact (WRD.no hw x_WRD_p0_1627639 x_WRD_p0_307058 (by decide)).elim
