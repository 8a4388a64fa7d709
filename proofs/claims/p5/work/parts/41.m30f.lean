abbrev wr_X10_post__1 : List (Nat × Nat) := [(10, 0), (10, 2), (10, 3), (10, 4), (10, 5), (10, 6), (10, 7), (10, 8), (10, 9), (10, 10), (10, 11), (10, 12), (10, 13), (10, 25)]
abbrev wa_X10_post__1 : List Nat := [34, 35, 41, 42, 45]
set_option maxHeartbeats 4000000 in
set_option maxRecDepth 100000 in
theorem c_X10_post__1 (l : Launch) (D : va_G) (cy : Nat → ClassId) (z : Nat → Nat) (sz : Nat) (Ps : PSI) (w0 : va_W) (hT : HT cy GG Ps w0) (p0 : Nat) (s0 : OS) (h_p0 : (p0, 55) ∈ Ps) (o_p0 : OV vw_MODEL Ps w0 p0 s0) : Met l yX10_post (Cond.code yX10_post cX10_post 3 (some .int) :: gT) ({ frames := 9, cells := 0, slots := 0, locals := 1800 } : Room) (va_Pc [.ref p0] (PRE D cy z w0 sz)) (va_Qi (fun (r : Int32) (u : va_W) => ((OV vw_MODEL Ps u p0 ((f_X10_post__1 s0).1) ∧ (f_X10_post__1 s0).2 = r ∧ True) ∧ (RI r (-2147483648) 2147483647 ∧ (r = 0 → True) ∧ (¬ r = 0 → True))) ∧ HT cy GG Ps u ∧ FR wr_X10_post__1 wa_X10_post__1 Ps w0 u) (BB D cy (va_A w0 sz) (fun (u : va_W) => u)) (va_A w0 sz)) 0 0 (va_A w0 sz) := by
  refine Met.ofW (cc := cX10_post) (maxL := 3) (ret := (some .int)) (by decide) rfl ?_
  intro p e s m args below meth c s₁ B hml hv
  obtain ⟨rfl, hsz, hP, hK, hD0, hSD⟩ := hv
  have hx := B.exec
  have hb := B.bytes
  have hr := B.returns
  have hlocks := B.notSynchronized
  have hts : ∀ w ∈ gT, w.before _ s = true := fun w h => atoms_spec (ws := Cond.code yX10_post cX10_post 3 (some .int) :: gT) B.pre w (List.mem_cons_of_mem _ h)
  have hown : s.vm.findClass RX10 = some m.cls := findClass_of_methodNamed B.named
  subst hsz
  have hD := hD0.self (sz := s.heap.size)
  generalize hAe : va_A w0 s.heap.size = A at hD hSD ⊢
  have hA : ∀ q : Nat, s.heap.size ≤ q → A q := fun q h => by rw [← hAe]; exact Or.inr h
  have hl := lv_entry ([.ref p0]) (n := 3) (Nat.le_of_ble_eq_true rfl)
  rw [lg_entry_eq]
  generalize (lg_sl ([.ref p0]) ++ List.replicate (3 - (lg_sl ([.ref p0])).length) Slot.unset).toArray = ls at hl ⊢
  have hl : lv_has ls 3 [(0, .ref p0)] := hl
  refine nameQ (fun Q hQ => ?_)
  have hw : WD D cy GG A s wr_X10_post__1 wa_X10_post__1 Ps w0 Ps w0 s.heap [] := ⟨hT, hP, hD, va_S.rf, FR.rf, hT.1, [], (List.append_nil _).symm⟩
  obtain ⟨R9, hR⟩ : ∃ q9 : OS × Int32, f_X10_post__1 s0 = q9 := ⟨_, rfl⟩
  have hE := hR
  have B113 : ∀ (nf : Nat) (x1 : Int32) (x2 : Int32) (z0_2 : Int32) (z0_7 : Int32) (s0 : OS) (ws : va_W) (H : Heap) (locs : List Loc) (ls : Array Slot), 24 - x2.toInt < (nf : Int) → RI x1 (-2147483648) 2147483647 → RI x2 0 24 → RI z0_2 0 0 → FLD ws p0 10 2 (.int z0_2) → RI z0_7 0 0 → FLD ws p0 10 7 (.int z0_7) → AX 15 35 (fun f => RH2p f) Ps ws p0 → OV vw_MODEL Ps ws p0 s0 → f_X10_post__1_113 nf x1 x2 s0 = R9 → WD D cy GG A s wr_X10_post__1 wa_X10_post__1 Ps w0 Ps ws H locs → lv_has ls 3 [(0, .ref p0), (1, .int x1), (2, .int x2)] → W p l e (headSpec (Cond.code yX10_post cX10_post 3 (some .int) :: gT) ({ frames := 9, cells := 0, slots := 0, locals := 1800 } : Room)).room s m ([.ref p0] : List Value).toArray below meth c H locs 0 0 Q (F0 m 113 ls []) := by
    intro nf113
    induction nf113 with
    | zero =>
      intro x1 x2 z0_2 z0_7 s0 ws H locs ls hn113 r_x1 r_x2 r_z0_2 m_z0_2 r_z0_7 m_z0_7 x_RH_p0 o_p0 hE hw hl
      exact absurd hn113 (by have q0 := r_x2.1; have u0 := r_x2.2; omega)
    | succ nf113 ih113 =>
      intro x1 x2 z0_2 z0_7 s0 ws H locs ls hn113 r_x1 r_x2 r_z0_2 m_z0_2 r_z0_7 m_z0_7 x_RH_p0 o_p0 hE hw hl
      have q_z0_2 : s0.1 2 = z0_2 := OV.eqI (V := vw_MODEL) hw.2.2.1 o_p0 m_z0_2 (by decide)
      have q_z0_7 : s0.1 7 = z0_7 := OV.eqI (V := vw_MODEL) hw.2.2.1 o_p0 m_z0_7 (by decide)
      refine lv_iload_n hx hb dX10_post_113 rfl (lv_at hl 2 rfl) ?_
      refine lv_bipush (v := 24) hx hb dX10_post_114 (by decide) ?_
      refine lv_icmp_ge (tgt := 137) hx hb dX10_post_116 (by decide) (fun c_116 => ?_) (fun c_116 => ?_)
      · have r_x2 : RI x2 24 24 := rc_le2 rl_24 r_x2 (ti_le c_116) (by decide)
        refine lv_aload_n hx hb dX10_post_137 rfl (lv_at hl 0 rfl) ?_
        refine tk_v (va_runV (As := []) (rest := []) ⟨hx, hb, hml, hown, hts⟩ (c_X10_startSo l D cy z H.size Ps ws hw.1 p0 h_p0) (cwV 0 hts (gV tw_1417 tw_1419 ts_64 tw_15 tw_1420) rfl rfl rfl (by decide +kernel) ⟨Nat.le_of_ble_eq_true rfl, Nat.le_of_ble_eq_true rfl⟩) (tg_preV hw hK hSD hA (ci := 10) (q := (RX10, TX10, 49)) rfl h_p0 rfl) rfl rfl hl.1 rfl (lv_room (Nat.le_of_ble_eq_true rfl)) dX10_post_138 ⟨Nat.le_of_ble_eq_true rfl, Nat.le_of_ble_eq_true rfl⟩) hw hA ⟨by decide, by decide⟩ (fun ws H locs hp_v_1 hw hF9 => ?_)
        have m_z0_2 := FLD.over hF9 m_z0_2 (by decide)
        have m_z0_7 := FLD.over hF9 m_z0_7 (by decide)
        have x_RH_p0 := AX.over hF9 x_RH_p0 (by decide)
        have o_p0 := OV.over (V := vw_MODEL) hF9 o_p0 (by decide)
        refine lv_aload_n hx hb dX10_post_141 rfl (lv_at hl 0 rfl) ?_
        refine lv_iconst (v := 0) hx hb dX10_post_142 (by decide) ?_
        refine tg_put (ci := 10) (ts := ty_MODEL) (v := .int 0) (ty := .int) (C := RX10) (T := TX10) (N := 49) hx hb hts inX10 tyX10 tyX10_ok nmX10 hown hK hw h_p0 rfl rfl 25 (by decide) (hts _ tw_1162) (fun _ h9 => h9) rfl (by decide +kernel) rfl rfl (ft := vI 0 8) rfl ⟨_, rfl, (rl_0.to (by decide))⟩ (by decide) dX10_post_143 (fun ws H locs hw n_k_2 hF9 => ?_)
        have m_z0_2 := FLD.over hF9 m_z0_2 (by decide)
        have m_z0_7 := FLD.over hF9 m_z0_7 (by decide)
        have x_RH_p0 := AX.over hF9 x_RH_p0 (by decide)
        obtain ⟨sg_3, q_sg_3⟩ : ∃ q9 : OS, sI s0 25 (0 : Int32) = q9 := ⟨_, rfl⟩
        have o_p0 : OV vw_MODEL Ps ws p0 sg_3 := by rw [← q_sg_3]; exact OV.putI (V := vw_MODEL) hF9 n_k_2 o_p0 (by decide)
        refine lv_iload_n hx hb dX10_post_146 rfl (lv_at hl 1 rfl) ?_
        simp only [f_X10_post__1_113, ↓reduceIte, q_z0_2, q_z0_7, eq_true c_116, q_sg_3] at hE
        subst hQ
        exact W.iret (v := x1) hx hb hr (fun t ht hW => ⟨⟨x1, ws, rfl, ⟨⟨⟨(by rw [hR, ← hE]; exact o_p0), (by rw [hR, ← hE]), trivial⟩, r_x1.to (by decide), (fun h0 => trivial), (fun h0 => trivial)⟩, hw.1, hw.2.2.2.2.1⟩, by rw [ht]; exact hw.2.1, va_K.moved hW.alike hK, hw.2.2.1⟩, hw.2.2.2.1.F ht⟩) hw.2.2.2.1.2.2 dX10_post_147
      · have r_x2 : RI x2 0 23 := rc_lt1 r_x2 rl_24 (ti_nle c_116) (by decide)
        refine lv_aload_n hx hb dX10_post_119 rfl (lv_at hl 0 rfl) ?_
        refine tg_get (ci := 10) (ts := ty_MODEL) (C := RX10) (T := TX10) (N := 49) hx hb hts inX10 hown hK hw h_p0 rfl rfl 20 (by decide) (hts _ tw_1157) (fun _ h9 => h9) (ft := vR 41) rfl dX10_post_120 (fun u_4 hv_u_4 m_u_4 => ?_)
        obtain ⟨vu_4, rfl, h_vu_4⟩ := hv_u_4
        refine lv_iload_n hx hb dX10_post_123 rfl (lv_at hl 2 rfl) ?_
        refine lv_aload_n hx hb dX10_post_124 rfl (lv_at hl 0 rfl) ?_
        refine tg_get (ci := 10) (ts := ty_MODEL) (C := RX10) (T := TX10) (N := 49) hx hb hts inX10 hown hK hw h_p0 rfl rfl 21 (by decide) (hts _ tw_1158) (fun _ h9 => h9) (ft := vR 42) rfl dX10_post_125 (fun u_5 hv_u_5 m_u_5 => ?_)
        obtain ⟨vu_5, rfl, h_vu_5⟩ := hv_u_5
        refine lv_iload_n hx hb dX10_post_128 rfl (lv_at hl 2 rfl) ?_
        refine tg_laldE hx hb hK hw h_vu_5 rfl r_x2 (by decide) dX10_post_129 (fun w_6 r_w_6 l_w_6 => ?_)
        have q_w_6 : s0.2.2.2 21 (Int32.toNatClampNeg x2) = w_6 := OV.eqB (V := vw_MODEL) (t := 42) hw.2.2.1 o_p0 m_u_5 l_w_6 (by decide)
        refine tg_lastE hx hb hK hw h_vu_4 rfl r_x2 (by decide) r_w_6 (by decide) (by decide) dX10_post_130 (fun ws H locs hw hF9 hU9 => ?_)
        have x_RH_p0 := AX.over hF9 x_RH_p0 (by decide)
        have m_z0_2 := FLD.over hF9 m_z0_2 (by decide)
        have m_z0_7 := FLD.over hF9 m_z0_7 (by decide)
        have m_u_4 := FLD.over hF9 m_u_4 (by decide)
        have m_u_5 := FLD.over hF9 m_u_5 (by decide)
        have o_p0 := OV.over (V := vw_MODEL) hF9 o_p0 (by decide)
        obtain ⟨v_7, e_v_7⟩ : ∃ q9 : Int32, q9 = x2 + Int32.ofInt 1 := ⟨_, rfl⟩
        obtain ⟨t_v_7, r_v_7⟩ := tq_add (lo := 1) (hi := 24) r_x2 (show RI (Int32.ofInt 1) 1 1 by unfold RI; decide +kernel) (by decide +kernel) e_v_7
        have t_v_7 : v_7.toInt = x2.toInt + 1 := t_v_7
        refine lv_iinc (v := v_7) (lv' := [(2, .int v_7), (0, .ref p0), (1, .int x1)]) hx hb dX10_post_131 hl (k := 2) rfl e_v_7.symm (by decide) rfl (fun ls hl => ?_)
        have q_v_7 : x2 + (1 : Int32) = v_7 := by rw [e_v_7, show Int32.ofInt 1 = (1 : Int32) by decide]
        refine lv_goto (tgt := 113) hx hb dX10_post_134 (by decide) ?_
        simp only [f_X10_post__1_113, ↓reduceIte, q_z0_2, q_z0_7, eq_false c_116, q_w_6, q_v_7] at hE
        exact ih113 x1 v_7 z0_2 z0_7 s0 ws _ _ ls (by have q0 := r_v_7.1; have u0 := r_v_7.2; have o0 := r_x2.1; have p0 := r_x2.2; omega) r_x1 (r_v_7.to (by decide)) r_z0_2 m_z0_2 r_z0_7 m_z0_7 x_RH_p0 o_p0 hE hw (lv_sub hl [1, 2, 0] rfl)
  have B87 : ∀ (nf : Nat) (x1 : Int32) (x2 : Int32) (z0_2 : Int32) (z0_7 : Int32) (za14 : Nat) (za15 : Nat) (s0 : OS) (ws : va_W) (H : Heap) (locs : List Loc) (ls : Array Slot), 84 - x2.toInt < (nf : Int) → RI x1 (-2147483648) 2147483647 → RI x2 0 84 → RI z0_2 0 0 → FLD ws p0 10 2 (.int z0_2) → RI z0_7 0 0 → FLD ws p0 10 7 (.int z0_7) → AX 15 35 (fun f => RH2p f) Ps ws p0 → (za14, 34) ∈ Ps → FLD ws p0 10 14 (.ref za14) → (za15, 35) ∈ Ps → FLD ws p0 10 15 (.ref za15) → AX2 14 34 15 35 (fun f g => CRp x2 f g) Ps ws p0 → OV vw_MODEL Ps ws p0 s0 → f_X10_post__1_87 nf x1 x2 s0 = R9 → WD D cy (GX za14) A s wr_X10_post__1 wa_X10_post__1 Ps w0 Ps ws H locs → lv_has ls 3 [(0, .ref p0), (1, .int x1), (2, .int x2)] → W p l e (headSpec (Cond.code yX10_post cX10_post 3 (some .int) :: gT) ({ frames := 9, cells := 0, slots := 0, locals := 1800 } : Room)).room s m ([.ref p0] : List Value).toArray below meth c H locs 0 0 Q (F0 m 87 ls []) := by
    intro nf87
    induction nf87 with
    | zero =>
      intro x1 x2 z0_2 z0_7 za14 za15 s0 ws H locs ls hn87 r_x1 r_x2 r_z0_2 m_z0_2 r_z0_7 m_z0_7 x_RH_p0 h_za14 m_za14 h_za15 m_za15 x_CPR_p0__2 o_p0 hE hw hl
      exact absurd hn87 (by have q0 := r_x2.1; have u0 := r_x2.2; omega)
    | succ nf87 ih87 =>
      intro x1 x2 z0_2 z0_7 za14 za15 s0 ws H locs ls hn87 r_x1 r_x2 r_z0_2 m_z0_2 r_z0_7 m_z0_7 x_RH_p0 h_za14 m_za14 h_za15 m_za15 x_CPR_p0__2 o_p0 hE hw hl
      have q_z0_2 : s0.1 2 = z0_2 := OV.eqI (V := vw_MODEL) hw.2.2.1 o_p0 m_z0_2 (by decide)
      have q_z0_7 : s0.1 7 = z0_7 := OV.eqI (V := vw_MODEL) hw.2.2.1 o_p0 m_z0_7 (by decide)
      refine lv_iload_n hx hb dX10_post_87 rfl (lv_at hl 2 rfl) ?_
      refine lv_bipush (v := 84) hx hb dX10_post_88 (by decide) ?_
      refine lv_icmp_ge (tgt := 111) hx hb dX10_post_90 (by decide) (fun c_90 => ?_) (fun c_90 => ?_)
      · have r_x2 : RI x2 84 84 := rc_le2 rl_84 r_x2 (ti_le c_90) (by decide)
        have hw := WD.back hw h_za14 rfl (fun f9 q9 => by obtain ⟨g9, e9⟩ := AX2.arr hw x_CPR_p0__2 m_za14 f9 q9; exact CR_end e9 (r_x2.to (by decide)))
        refine lv_iconst (v := 0) hx hb dX10_post_111 (by decide) ?_
        refine lv_istore_n (lv' := [(2, .int 0), (0, .ref p0), (1, .int x1)]) hx hb dX10_post_112 rfl hl (by decide) rfl (fun ls hl => ?_)
        simp only [f_X10_post__1_87, ↓reduceIte, q_z0_2, q_z0_7, eq_true c_90] at hE
        exact B113 4294967298 x1 0 z0_2 z0_7 s0 ws _ _ ls (by have q0 := rl_0.1; have u0 := rl_0.2; omega) r_x1 (rl_0.to (by decide)) r_z0_2 m_z0_2 r_z0_7 m_z0_7 x_RH_p0 o_p0 hE hw (lv_sub hl [1, 2, 0] rfl)
      · have r_x2 : RI x2 0 83 := rc_lt1 r_x2 rl_84 (ti_nle c_90) (by decide)
        refine lv_aload_n hx hb dX10_post_93 rfl (lv_at hl 0 rfl) ?_
        refine tg_mem (ci := 10) (C := RX10) (T := TX10) (N := 49) hx hb hts inX10 hown hK hw 14 m_za14 rfl (by decide) (hts _ tw_1151) (fun _ h9 => h9) dX10_post_94 ?_
        refine lv_iload_n hx hb dX10_post_97 rfl (lv_at hl 2 rfl) ?_
        refine lv_aload_n hx hb dX10_post_98 rfl (lv_at hl 0 rfl) ?_
        refine tg_mem (ci := 10) (C := RX10) (T := TX10) (N := 49) hx hb hts inX10 hown hK hw 15 m_za15 rfl (by decide) (hts _ tw_1152) (fun _ h9 => h9) dX10_post_99 ?_
        refine lv_iload_n hx hb dX10_post_102 rfl (lv_at hl 2 rfl) ?_
        refine tg_iald (lo := (-2147483648)) (hi := 2147483647) hx hb hK hw h_za15 rfl 0 83 r_x2 (by decide) (by decide +kernel) dX10_post_103 (fun v_8 r_v_8 m_v_8 o_v_8 => ?_)
        have q_v_8 : s0.2.2.1 15 (Int32.toNatClampNeg x2) = v_8 := OV.eqA (V := vw_MODEL) (t := 35) hw.2.2.1 o_p0 m_za15 m_v_8 (by decide)
        have x_CPRV_p0_x2_x2_v_8 : AX2 14 34 15 35 (fun f g => CRp x2 f g ∧ g (Int32.toNatClampNeg x2) = v_8) Ps ws p0 := AX2.el hw x_CPR_p0__2 m_za15 m_v_8
        have hw8 := hw
        have e_9 : x2.toNatClampNeg = x2.toNatClampNeg := by have k1 := r_x2.cl (by decide); have k2 := r_x2.cl (by decide); have b10 := r_x1.1; have b20 := r_x1.2; have b11 := r_x2.1; have b21 := r_x2.2; have b12 := r_z0_2.1; have b22 := r_z0_2.2; have b13 := r_z0_7.1; have b23 := r_z0_7.2; have b14 := r_v_8.1; have b24 := r_v_8.2; omega
        refine tg_iasto hx hb hK hw h_za14 rfl 0 83 r_x2 (by decide) (show RI _ (canon (x2.toNatClampNeg)).1 (canon (x2.toNatClampNeg)).2 by rw [← e_9]; exact o_v_8) (fun _ _ _ _ _ => Or.inl rfl) (by decide) dX10_post_104 (fun ws H locs hw hF9 hU9 => ?_)
        have x_CPRT_p0_x2 : AX2 14 34 15 35 (fun f g => ∀ k9 : Int32, k9.toInt = Int32.toInt x2 + 1 → CRp  k9 f g) Ps ws p0 := AX2.ast hF9 hU9 x_CPRV_p0_x2_x2_v_8 m_za14 (by decide) (fun f9 g9 h9 => fun k9 e9 => CR_step h9 (r_x2.to (by decide)) rfl e9)
        have m_v_8 := AEL.over hw8 hF9 h_za15 m_v_8 (by decide)
        have x_RH_p0 := AX.over hF9 x_RH_p0 (by decide)
        have m_z0_2 := FLD.over hF9 m_z0_2 (by decide)
        have m_z0_7 := FLD.over hF9 m_z0_7 (by decide)
        have m_za14 := FLD.over hF9 m_za14 (by decide)
        have m_za15 := FLD.over hF9 m_za15 (by decide)
        have o_p0 := OV.over (V := vw_MODEL) hF9 o_p0 (by decide)
        obtain ⟨v_10, e_v_10⟩ : ∃ q9 : Int32, q9 = x2 + Int32.ofInt 1 := ⟨_, rfl⟩
        obtain ⟨t_v_10, r_v_10⟩ := tq_add (lo := 1) (hi := 84) r_x2 (show RI (Int32.ofInt 1) 1 1 by unfold RI; decide +kernel) (by decide +kernel) e_v_10
        have t_v_10 : v_10.toInt = x2.toInt + 1 := t_v_10
        refine lv_iinc (v := v_10) (lv' := [(2, .int v_10), (0, .ref p0), (1, .int x1)]) hx hb dX10_post_105 hl (k := 2) rfl e_v_10.symm (by decide) rfl (fun ls hl => ?_)
        have q_v_10 : x2 + (1 : Int32) = v_10 := by rw [e_v_10, show Int32.ofInt 1 = (1 : Int32) by decide]
        refine lv_goto (tgt := 87) hx hb dX10_post_108 (by decide) ?_
        simp only [f_X10_post__1_87, ↓reduceIte, q_z0_2, q_z0_7, eq_false c_90, q_v_8, q_v_10] at hE
        have x_CPR_p0_v_10 : AX2 14 34 15 35 (fun f g => CRp v_10 f g) Ps ws p0 := AX2.imp x_CPRT_p0_x2 (fun f9 g9 h9 => h9 _ t_v_10)
        exact ih87 x1 v_10 z0_2 z0_7 za14 za15 s0 ws _ _ ls (by have q0 := r_v_10.1; have u0 := r_v_10.2; have o0 := r_x2.1; have p0 := r_x2.2; omega) r_x1 (r_v_10.to (by decide)) r_z0_2 m_z0_2 r_z0_7 m_z0_7 x_RH_p0 h_za14 m_za14 h_za15 m_za15 x_CPR_p0_v_10 o_p0 hE hw (lv_sub hl [1, 2, 0] rfl)
  have B51 : ∀ (nf : Nat) (x1 : Int32) (z0_2 : Int32) (gz : Int) (s0 : OS) (ws : va_W) (H : Heap) (locs : List Loc) (ls : Array Slot), 941 - gz < (nf : Int) → RI x1 (-2147483648) 2147483647 → RI z0_2 0 0 → FLD ws p0 10 2 (.int z0_2) → AX 15 35 (fun f => RH2p f) Ps ws p0 → TOP ws p0 (gz) → OV vw_MODEL Ps ws p0 s0 → f_X10_post__1_51 nf x1 s0 = R9 → WD D cy GG A s wr_X10_post__1 wa_X10_post__1 Ps w0 Ps ws H locs → lv_has ls 3 [(0, .ref p0), (1, .int x1)] → W p l e (headSpec (Cond.code yX10_post cX10_post 3 (some .int) :: gT) ({ frames := 9, cells := 0, slots := 0, locals := 1800 } : Room)).room s m ([.ref p0] : List Value).toArray below meth c H locs 0 0 Q (F0 m 51 ls []) := by
    intro nf51
    induction nf51 with
    | zero =>
      intro x1 z0_2 gz s0 ws H locs ls hn51 r_x1 r_z0_2 m_z0_2 x_RH_p0 x_TO_p0_gz o_p0 hE hw hl
      exact absurd hn51 (by obtain ⟨_, _, q9, u9⟩ := x_TO_p0_gz; omega)
    | succ nf51 ih51 =>
      intro x1 z0_2 gz s0 ws H locs ls hn51 r_x1 r_z0_2 m_z0_2 x_RH_p0 x_TO_p0_gz o_p0 hE hw hl
      have q_z0_2 : s0.1 2 = z0_2 := OV.eqI (V := vw_MODEL) hw.2.2.1 o_p0 m_z0_2 (by decide)
      refine lv_aload_n hx hb dX10_post_51 rfl (lv_at hl 0 rfl) ?_
      refine tg_get (ci := 10) (ts := ty_MODEL) (C := RX10) (T := TX10) (N := 49) hx hb hts inX10 hown hK hw h_p0 rfl rfl 7 (by decide) (hts _ tw_1144) (fun _ h9 => h9) (ft := vI (-2147483648) 2147483647) rfl dX10_post_52 (fun u_11 hv_u_11 m_u_11 => ?_)
      obtain ⟨vu_11, rfl, r_vu_11⟩ := hv_u_11
      have q_vu_11 : s0.1 7 = vu_11 := OV.eqI (V := vw_MODEL) hw.2.2.1 o_p0 m_u_11 (by decide)
      refine lv_if_eq (tgt := 85) hx hb dX10_post_55 (by decide) (fun c_55 => ?_) (fun c_55 => ?_)
      · have r_vu_11 : RI vu_11 0 0 := rc_eq1 r_vu_11 rl_0 (ti_eq c_55) (by decide)
        refine lv_iconst (v := 0) hx hb dX10_post_85 (by decide) ?_
        refine lv_istore_n (lv' := [(2, .int 0), (0, .ref p0), (1, .int x1)]) hx hb dX10_post_86 rfl hl (by decide) rfl (fun ls hl => ?_)
        simp only [f_X10_post__1_51, ↓reduceIte, q_z0_2, q_vu_11, eq_true c_55] at hE
        obtain ⟨b_12, m_b_12, h_b_12⟩ := tg_fldR (k := 14) (ci := 10) (ts := ty_MODEL) (u := 34) hw h_p0 rfl rfl
        obtain ⟨b_13, m_b_13, h_b_13⟩ := tg_fldR (k := 15) (ci := 10) (ts := ty_MODEL) (u := 35) hw h_p0 rfl rfl
        have x_CPR_p0_0 : AX2 14 34 15 35 (fun f g => CRp 0 f g) Ps ws p0 := AX2.imp (AX.two (ax_of (k := 14) (t := 34) hw h_p0 rfl (fun _ => rfl)) x_RH_p0) (fun f9 g9 h9 => ⟨h9.1.1.2, h9.2, fun j9 q9 => absurd q9 (by rw [Int32.toInt_zero]; omega)⟩)
        have hw := WD.weak b_12 hw
        exact B87 4294967298 x1 0 z0_2 vu_11 b_12 b_13 s0 ws _ _ ls (by have q0 := rl_0.1; have u0 := rl_0.2; omega) r_x1 (rl_0.to (by decide)) r_z0_2 m_z0_2 r_vu_11 m_u_11 x_RH_p0 h_b_12 m_b_12 h_b_13 m_b_13 x_CPR_p0_0 o_p0 hE hw (lv_sub hl [1, 2, 0] rfl)
      · refine lv_aload_n hx hb dX10_post_58 rfl (lv_at hl 0 rfl) ?_
        refine tk_i (va_runV (As := []) (rest := []) ⟨hx, hb, hml, hown, hts⟩ (c_X10_readLine__1 l D cy z H.size Ps ws hw.1 p0 (gz) s0 h_p0 x_TO_p0_gz x_RH_p0 o_p0) (cwV 0 hts (gV tw_1314 tw_1316 ts_42 tw_15 tw_1317) rfl rfl rfl (by decide +kernel) ⟨Nat.le_of_ble_eq_true rfl, Nat.le_of_ble_eq_true rfl⟩) (tg_preV hw hK hSD hA (ci := 10) (q := (RX10, TX10, 49)) rfl h_p0 rfl) rfl rfl hl.1 rfl (lv_room (Nat.le_of_ble_eq_true rfl)) dX10_post_59 ⟨Nat.le_of_ble_eq_true rfl, Nat.le_of_ble_eq_true rfl⟩) hw hA ⟨by decide, by decide⟩ (fun v_14 ws H locs hp_v_14 hw hF9 => ?_)
        have m_z0_2 := FLD.over hF9 m_z0_2 (by decide)
        obtain ⟨hfn, hp_v_14⟩ := hp_v_14
        obtain ⟨sg_15, q_sg_15⟩ : ∃ q9 : OS, (f_X10_readLine__1 s0).1 = q9 := ⟨_, rfl⟩
        have o_p0 : OV vw_MODEL Ps ws p0 sg_15 := by rw [← q_sg_15]; exact hfn.1
        have q_v_14 : (f_X10_readLine__1 s0).2 = v_14 := hfn.2.1
        have r_v_14 : RI v_14 0 1 := hp_v_14.1
        by_cases c9_v_14 : v_14 = 0
        · have r_v_14 : RI v_14 0 0 := by rw [c9_v_14]; exact rl_0
          refine lv_if_eq (tgt := 72) hx hb dX10_post_62 (by decide) (fun c_62 => ?_) (fun c_62 => ?_)
          · refine lv_iconst (v := (-1)) hx hb dX10_post_72 (by decide) ?_
            refine lv_aload_n hx hb dX10_post_73 rfl (lv_at hl 0 rfl) ?_
            refine tg_get (ci := 10) (ts := ty_MODEL) (C := RX10) (T := TX10) (N := 49) hx hb hts inX10 hown hK hw h_p0 rfl rfl 11 (by decide) (hts _ tw_1148) (fun _ h9 => h9) (ft := vI (-2147483648) 2147483647) rfl dX10_post_74 (fun u_16 hv_u_16 m_u_16 => ?_)
            obtain ⟨vu_16, rfl, r_vu_16⟩ := hv_u_16
            have q_vu_16 : sg_15.1 11 = vu_16 := OV.eqI (V := vw_MODEL) hw.2.2.1 o_p0 m_u_16 (by decide)
            refine lv_isub hx hb dX10_post_77 (lv_topi (fun v_17 e_v_17 => ?_))
            obtain ⟨t_v_17, r_v_17⟩ := tq_sub (lo := (-2147483648)) (hi := 2147483647) rl_m1 r_vu_16 (by decide +kernel) e_v_17
            have t_v_17 : v_17.toInt = (-1) - vu_16.toInt := t_v_17
            have q_v_17 : ((-1) : Int32) - vu_16 = v_17 := e_v_17.symm
            simp only [f_X10_post__1_51, ↓reduceIte, q_z0_2, q_vu_11, eq_false c_55, q_sg_15, q_v_14, eq_true c9_v_14, eq_true c_62, q_vu_16, q_v_17] at hE
            subst hQ
            exact W.iret (v := v_17) hx hb hr (fun t ht hW => ⟨⟨v_17, ws, rfl, ⟨⟨⟨(by rw [hR, ← hE]; exact o_p0), (by rw [hR, ← hE]), trivial⟩, r_v_17.to (by decide), (fun h0 => trivial), (fun h0 => trivial)⟩, hw.1, hw.2.2.2.2.1⟩, by rw [ht]; exact hw.2.1, va_K.moved hW.alike hK, hw.2.2.1⟩, hw.2.2.2.1.F ht⟩) hw.2.2.2.1.2.2 dX10_post_78
          · exact absurd (r_v_14.eq.trans rl_0.eq.symm) ((ti_ne c_62))
        · have r_v_14 : RI v_14 1 1 := rc_neL r_v_14 rl_0 (ti_ne c9_v_14) (by decide)
          have x_TOK_p0_gz := ((hp_v_14.2.2 c9_v_14).1)
          have x_RH_p0 := ((hp_v_14.2.2 c9_v_14).2.1)
          refine lv_if_eq (tgt := 72) hx hb dX10_post_62 (by decide) (fun c_62 => ?_) (fun c_62 => ?_)
          · have r_v_14 : RI v_14 1 0 := rc_eq1 r_v_14 rl_0 (ti_eq c_62) (by decide)
            exact (r_v_14.no (by decide)).elim
          · refine lv_aload_n hx hb dX10_post_65 rfl (lv_at hl 0 rfl) ?_
            refine tk_i (va_runV (As := []) (rest := []) ⟨hx, hb, hml, hown, hts⟩ (c_X10_readEnd__2 l D cy z H.size Ps ws hw.1 p0 (gz) sg_15 h_p0 x_TOK_p0_gz o_p0) (cwV 0 hts (gV tw_1409 tw_1411 ts_62 tw_15 tw_1412) rfl rfl rfl (by decide +kernel) ⟨Nat.le_of_ble_eq_true rfl, Nat.le_of_ble_eq_true rfl⟩) (tg_preV hw hK hSD hA (ci := 10) (q := (RX10, TX10, 49)) rfl h_p0 rfl) rfl rfl hl.1 rfl (lv_room (Nat.le_of_ble_eq_true rfl)) dX10_post_66 ⟨Nat.le_of_ble_eq_true rfl, Nat.le_of_ble_eq_true rfl⟩) hw hA ⟨by decide, by decide⟩ (fun v_18 ws H locs hp_v_18 hw hF9 => ?_)
            have m_z0_2 := FLD.over hF9 m_z0_2 (by decide)
            have x_RH_p0 := AX.over hF9 x_RH_p0 (by decide)
            obtain ⟨hfn, hp_v_18⟩ := hp_v_18
            obtain ⟨sg_19, q_sg_19⟩ : ∃ q9 : OS, (f_X10_readEnd__2 sg_15).1 = q9 := ⟨_, rfl⟩
            have o_p0 : OV vw_MODEL Ps ws p0 sg_19 := by rw [← q_sg_19]; exact hfn.1
            have q_v_18 : (f_X10_readEnd__2 sg_15).2 = v_18 := hfn.2.1
            have r_v_18 : RI v_18 0 1 := hp_v_18.1
            by_cases c9_v_18 : v_18 = 0
            · have r_v_18 : RI v_18 0 0 := by rw [c9_v_18]; exact rl_0
              refine lv_if_ne (tgt := 79) hx hb dX10_post_69 (by decide) (fun c_69 => ?_) (fun c_69 => ?_)
              · exact absurd (r_v_18.eq.trans rl_0.eq.symm) ((ti_ne c_69))
              · refine lv_iconst (v := (-1)) hx hb dX10_post_72 (by decide) ?_
                refine lv_aload_n hx hb dX10_post_73 rfl (lv_at hl 0 rfl) ?_
                refine tg_get (ci := 10) (ts := ty_MODEL) (C := RX10) (T := TX10) (N := 49) hx hb hts inX10 hown hK hw h_p0 rfl rfl 11 (by decide) (hts _ tw_1148) (fun _ h9 => h9) (ft := vI (-2147483648) 2147483647) rfl dX10_post_74 (fun u_20 hv_u_20 m_u_20 => ?_)
                obtain ⟨vu_20, rfl, r_vu_20⟩ := hv_u_20
                have q_vu_20 : sg_19.1 11 = vu_20 := OV.eqI (V := vw_MODEL) hw.2.2.1 o_p0 m_u_20 (by decide)
                refine lv_isub hx hb dX10_post_77 (lv_topi (fun v_21 e_v_21 => ?_))
                obtain ⟨t_v_21, r_v_21⟩ := tq_sub (lo := (-2147483648)) (hi := 2147483647) rl_m1 r_vu_20 (by decide +kernel) e_v_21
                have t_v_21 : v_21.toInt = (-1) - vu_20.toInt := t_v_21
                have q_v_21 : ((-1) : Int32) - vu_20 = v_21 := e_v_21.symm
                simp only [f_X10_post__1_51, ↓reduceIte, q_z0_2, q_vu_11, eq_false c_55, q_sg_15, q_v_14, eq_false c9_v_14, eq_false c_62, q_sg_19, q_v_18, eq_true c9_v_18, eq_true c_69, q_vu_20, q_v_21] at hE
                subst hQ
                exact W.iret (v := v_21) hx hb hr (fun t ht hW => ⟨⟨v_21, ws, rfl, ⟨⟨⟨(by rw [hR, ← hE]; exact o_p0), (by rw [hR, ← hE]), trivial⟩, r_v_21.to (by decide), (fun h0 => trivial), (fun h0 => trivial)⟩, hw.1, hw.2.2.2.2.1⟩, by rw [ht]; exact hw.2.1, va_K.moved hW.alike hK, hw.2.2.1⟩, hw.2.2.2.1.F ht⟩) hw.2.2.2.1.2.2 dX10_post_78
            · have r_v_18 : RI v_18 1 1 := rc_neL r_v_18 rl_0 (ti_ne c9_v_18) (by decide)
              have x_TOK_p0_gz_1 := ((hp_v_18.2.2 c9_v_18).1)
              refine lv_if_ne (tgt := 79) hx hb dX10_post_69 (by decide) (fun c_69 => ?_) (fun c_69 => ?_)
              · have x_TO_p0_gz_1 : TOP ws p0 (gz+1) := TKP.top x_TOK_p0_gz_1
                obtain ⟨v_22, e_v_22⟩ : ∃ q9 : Int32, q9 = x1 + Int32.ofInt 1 := ⟨_, rfl⟩
                have r_v_22 := ri_any v_22
                refine lv_iinc (v := v_22) (lv' := [(1, .int v_22), (0, .ref p0)]) hx hb dX10_post_79 hl (k := 1) rfl e_v_22.symm (by decide) rfl (fun ls hl => ?_)
                have q_v_22 : x1 + (1 : Int32) = v_22 := by rw [e_v_22, show Int32.ofInt 1 = (1 : Int32) by decide]
                refine lv_goto (tgt := 51) hx hb dX10_post_82 (by decide) ?_
                simp only [f_X10_post__1_51, ↓reduceIte, q_z0_2, q_vu_11, eq_false c_55, q_sg_15, q_v_14, eq_false c9_v_14, eq_false c_62, q_sg_19, q_v_18, eq_false c9_v_18, eq_false c_69, q_v_22] at hE
                exact ih51 v_22 z0_2 (gz+1) sg_19 ws _ _ ls (by omega) r_v_22 r_z0_2 m_z0_2 x_RH_p0 x_TO_p0_gz_1 o_p0 hE hw (lv_sub hl [1, 0] rfl)
              · have r_v_18 : RI v_18 1 0 := rc_eq1 r_v_18 rl_0 (ti_eq c_69) (by decide)
                exact (r_v_18.no (by decide)).elim
  have B9 : ∀ (nf : Nat) (x1 : Int32) (z0_2 : Int32) (s0 : OS) (ws : va_W) (H : Heap) (locs : List Loc) (ls : Array Slot), 84 - x1.toInt < (nf : Int) → RI x1 0 84 → RI z0_2 0 0 → FLD ws p0 10 2 (.int z0_2) → AX 15 35 (fun f => ∀ j : Nat, (j : Int) < Int32.toInt x1 → f j = 0) Ps ws p0 → OV vw_MODEL Ps ws p0 s0 → f_X10_post__1_9 nf x1 s0 = R9 → WD D cy GG A s wr_X10_post__1 wa_X10_post__1 Ps w0 Ps ws H locs → lv_has ls 3 [(0, .ref p0), (1, .int x1)] → W p l e (headSpec (Cond.code yX10_post cX10_post 3 (some .int) :: gT) ({ frames := 9, cells := 0, slots := 0, locals := 1800 } : Room)).room s m ([.ref p0] : List Value).toArray below meth c H locs 0 0 Q (F0 m 9 ls []) := by
    intro nf9
    induction nf9 with
    | zero =>
      intro x1 z0_2 s0 ws H locs ls hn9 r_x1 r_z0_2 m_z0_2 x_ZR_p0__1 o_p0 hE hw hl
      exact absurd hn9 (by have q0 := r_x1.1; have u0 := r_x1.2; omega)
    | succ nf9 ih9 =>
      intro x1 z0_2 s0 ws H locs ls hn9 r_x1 r_z0_2 m_z0_2 x_ZR_p0__1 o_p0 hE hw hl
      have q_z0_2 : s0.1 2 = z0_2 := OV.eqI (V := vw_MODEL) hw.2.2.1 o_p0 m_z0_2 (by decide)
      refine lv_iload_n hx hb dX10_post_9 rfl (lv_at hl 1 rfl) ?_
      refine lv_bipush (v := 84) hx hb dX10_post_10 (by decide) ?_
      refine lv_icmp_ge (tgt := 28) hx hb dX10_post_12 (by decide) (fun c_12 => ?_) (fun c_12 => ?_)
      · have r_x1 : RI x1 84 84 := rc_le2 rl_84 r_x1 (ti_le c_12) (by decide)
        refine lv_aload_n hx hb dX10_post_28 rfl (lv_at hl 0 rfl) ?_
        refine tg_get (ci := 10) (ts := ty_MODEL) (C := RX10) (T := TX10) (N := 49) hx hb hts inX10 hown hK hw h_p0 rfl rfl 24 (by decide) (hts _ tw_1161) (fun _ h9 => h9) (ft := vR 45) rfl dX10_post_29 (fun u_23 hv_u_23 m_u_23 => ?_)
        obtain ⟨vu_23, rfl, h_vu_23⟩ := hv_u_23
        refine lv_iconst (v := 0) hx hb dX10_post_32 (by decide) ?_
        refine lv_iconst (v := 0) hx hb dX10_post_33 (by decide) ?_
        have mo9 := m_u_23
        refine tg_zastE hx hb hK hw h_vu_23 rfl 0 0 rl_0 (by decide) (by decide) dX10_post_34 (fun ws H locs hw hF9 hU9 => ?_)
        have x_ZR_p0__1 := AX.over hF9 x_ZR_p0__1 (by decide)
        have m_z0_2 := FLD.over hF9 m_z0_2 (by decide)
        have m_u_23 := FLD.over hF9 m_u_23 (by decide)
        obtain ⟨sg_24, q_sg_24⟩ : ∃ q9 : OS, sA s0 24 (Int32.toNatClampNeg (0 : Int32)) (vp_nar .boolean (0 : Int32)) = q9 := ⟨_, rfl⟩
        have o_p0 : OV vw_MODEL Ps ws p0 sg_24 := by rw [← q_sg_24]; exact OV.putA (V := vw_MODEL) (t := 45) hF9 hU9 o_p0 mo9 (by decide) (by decide)
        refine lv_aload_n hx hb dX10_post_35 rfl (lv_at hl 0 rfl) ?_
        refine tg_mem (ci := 10) (C := RX10) (T := TX10) (N := 49) hx hb hts inX10 hown hK hw 24 m_u_23 rfl (by decide) (hts _ tw_1161) (fun _ h9 => h9) dX10_post_36 ?_
        refine lv_iconst (v := 1) hx hb dX10_post_39 (by decide) ?_
        refine lv_iconst (v := 0) hx hb dX10_post_40 (by decide) ?_
        have mo9 := m_u_23
        refine tg_zastE hx hb hK hw h_vu_23 rfl 1 1 rl_1 (by decide) (by decide) dX10_post_41 (fun ws H locs hw hF9 hU9 => ?_)
        have x_ZR_p0__1 := AX.over hF9 x_ZR_p0__1 (by decide)
        have m_z0_2 := FLD.over hF9 m_z0_2 (by decide)
        have m_u_23 := FLD.over hF9 m_u_23 (by decide)
        obtain ⟨sg_25, q_sg_25⟩ : ∃ q9 : OS, sA sg_24 24 (Int32.toNatClampNeg (1 : Int32)) (vp_nar .boolean (0 : Int32)) = q9 := ⟨_, rfl⟩
        have o_p0 : OV vw_MODEL Ps ws p0 sg_25 := by rw [← q_sg_25]; exact OV.putA (V := vw_MODEL) (t := 45) hF9 hU9 o_p0 mo9 (by decide) (by decide)
        refine lv_aload_n hx hb dX10_post_42 rfl (lv_at hl 0 rfl) ?_
        refine tg_get (ci := 10) (ts := ty_MODEL) (C := RX10) (T := TX10) (N := 49) hx hb hts inX10 hown hK hw h_p0 rfl rfl 15 (by decide) (hts _ tw_1152) (fun _ h9 => h9) (ft := vR 35) rfl dX10_post_43 (fun u_26 hv_u_26 m_u_26 => ?_)
        obtain ⟨vu_26, rfl, h_vu_26⟩ := hv_u_26
        refine lv_iconst (v := 5) hx hb dX10_post_46 (by decide) ?_
        refine lv_iconst (v := 5) hx hb dX10_post_47 (by decide) ?_
        have x_RHI_p0 : AX 15 35 (fun f => f 0 = 0 ∧ f 3 = 0) Ps ws p0 := AX.imp x_ZR_p0__1 (fun f9 h9 => ⟨h9 0 (by have k1 := r_x1.1; omega), h9 3 (by have k1 := r_x1.1; omega)⟩)
        have mo9 := m_u_26
        refine tg_iast hx hb hK hw h_vu_26 rfl 5 5 rl_5 (by decide) rl_5 (by decide +kernel) (fun _ _ _ _ _ => trivial) (by decide) dX10_post_48 (fun ws H locs hw hF9 hU9 => ?_)
        have x_RH_p0 : AX 15 35 (fun f => RH2p f) Ps ws p0 := AX.ast hF9 hU9 x_RHI_p0 m_u_26 (fun f9 h9 => RH_init h9.1 h9.2 (Int.le_trans (by decide) rl_5.1))
        have m_z0_2 := FLD.over hF9 m_z0_2 (by decide)
        have m_u_23 := FLD.over hF9 m_u_23 (by decide)
        have m_u_26 := FLD.over hF9 m_u_26 (by decide)
        obtain ⟨sg_27, q_sg_27⟩ : ∃ q9 : OS, sA sg_25 15 (Int32.toNatClampNeg (5 : Int32)) (5 : Int32) = q9 := ⟨_, rfl⟩
        have o_p0 : OV vw_MODEL Ps ws p0 sg_27 := by rw [← q_sg_27]; exact OV.putA (V := vw_MODEL) (t := 35) hF9 hU9 o_p0 mo9 (by decide) (by decide)
        refine lv_iconst (v := 0) hx hb dX10_post_49 (by decide) ?_
        refine lv_istore_n (lv' := [(1, .int 0), (0, .ref p0)]) hx hb dX10_post_50 rfl hl (by decide) rfl (fun ls hl => ?_)
        simp only [f_X10_post__1_9, ↓reduceIte, q_z0_2, eq_true c_12, q_sg_24, q_sg_25, q_sg_27] at hE
        obtain ⟨v_28, m_v_28, r_v_28⟩ := tg_fld (k := 5) (ci := 10) (ts := ty_MODEL) (lo := 0) (hi := 940) hw h_p0 rfl rfl
        have x_TO_p0_0 : TOP ws p0 (0) := ⟨v_28, m_v_28, r_v_28.1, r_v_28.2⟩
        exact B51 4294967298 0 z0_2 (0) sg_27 ws _ _ ls (by omega) (rl_0.to (by decide)) r_z0_2 m_z0_2 x_RH_p0 x_TO_p0_0 o_p0 hE hw (lv_sub hl [1, 0] rfl)
      · have r_x1 : RI x1 0 83 := rc_lt1 r_x1 rl_84 (ti_nle c_12) (by decide)
        refine lv_aload_n hx hb dX10_post_15 rfl (lv_at hl 0 rfl) ?_
        refine tg_get (ci := 10) (ts := ty_MODEL) (C := RX10) (T := TX10) (N := 49) hx hb hts inX10 hown hK hw h_p0 rfl rfl 15 (by decide) (hts _ tw_1152) (fun _ h9 => h9) (ft := vR 35) rfl dX10_post_16 (fun u_29 hv_u_29 m_u_29 => ?_)
        obtain ⟨vu_29, rfl, h_vu_29⟩ := hv_u_29
        refine lv_iload_n hx hb dX10_post_19 rfl (lv_at hl 1 rfl) ?_
        refine lv_iconst (v := 0) hx hb dX10_post_20 (by decide) ?_
        have mo9 := m_u_29
        refine tg_iast hx hb hK hw h_vu_29 rfl 0 83 r_x1 (by decide) rl_0 (by decide +kernel) (fun _ _ _ _ _ => trivial) (by decide) dX10_post_21 (fun ws H locs hw hF9 hU9 => ?_)
        have x_ZS_p0_x1 : AX 15 35 (fun f => ∀ j : Nat, (j : Int) < Int32.toInt x1 + 1 → f j = 0) Ps ws p0 := AX.ast hF9 hU9 x_ZR_p0__1 m_u_29 (fun f9 h9 => fun j9 q9 => (Decidable.em (j9 = Int32.toNatClampNeg x1)).elim (fun e9 => by rw [e9, pk_us]) (fun e9 => by rw [pk_un e9]; exact h9 j9 (by have k4 := r_x1.cl (by decide); omega)))
        have m_z0_2 := FLD.over hF9 m_z0_2 (by decide)
        have m_u_29 := FLD.over hF9 m_u_29 (by decide)
        obtain ⟨sg_30, q_sg_30⟩ : ∃ q9 : OS, sA s0 15 (Int32.toNatClampNeg x1) (0 : Int32) = q9 := ⟨_, rfl⟩
        have o_p0 : OV vw_MODEL Ps ws p0 sg_30 := by rw [← q_sg_30]; exact OV.putA (V := vw_MODEL) (t := 35) hF9 hU9 o_p0 mo9 (by decide) (by decide)
        obtain ⟨v_31, e_v_31⟩ : ∃ q9 : Int32, q9 = x1 + Int32.ofInt 1 := ⟨_, rfl⟩
        obtain ⟨t_v_31, r_v_31⟩ := tq_add (lo := 1) (hi := 84) r_x1 (show RI (Int32.ofInt 1) 1 1 by unfold RI; decide +kernel) (by decide +kernel) e_v_31
        have t_v_31 : v_31.toInt = x1.toInt + 1 := t_v_31
        refine lv_iinc (v := v_31) (lv' := [(1, .int v_31), (0, .ref p0)]) hx hb dX10_post_22 hl (k := 1) rfl e_v_31.symm (by decide) rfl (fun ls hl => ?_)
        have q_v_31 : x1 + (1 : Int32) = v_31 := by rw [e_v_31, show Int32.ofInt 1 = (1 : Int32) by decide]
        refine lv_goto (tgt := 9) hx hb dX10_post_25 (by decide) ?_
        simp only [f_X10_post__1_9, ↓reduceIte, q_z0_2, eq_false c_12, q_sg_30, q_v_31] at hE
        have x_ZR_p0_v_31 : AX 15 35 (fun f => ∀ j : Nat, (j : Int) < Int32.toInt v_31 → f j = 0) Ps ws p0 := AX.imp x_ZS_p0_x1 (fun f9 h9 => fun j9 q9 => h9 j9 (by have k1 := t_v_31; omega))
        exact ih9 v_31 z0_2 sg_30 ws _ _ ls (by have q0 := r_v_31.1; have u0 := r_v_31.2; have o0 := r_x1.1; have p0 := r_x1.2; omega) (r_v_31.to (by decide)) r_z0_2 m_z0_2 x_ZR_p0_v_31 o_p0 hE hw (lv_sub hl [1, 0] rfl)
  refine lv_aload_n hx hb dX10_post_0 rfl (lv_at hl 0 rfl) ?_
  refine lv_sipush (v := 900) hx hb dX10_post_1 (by decide) ?_
  refine tk_v (va_runV (As := [.int 900]) (rest := []) ⟨hx, hb, hml, hown, hts⟩ (c_X10_begin__4 l D cy z s.heap.size Ps w0 hw.1 p0 900 s0 h_p0 rl_900 o_p0) (cwV 1 hts (gV tw_1290 tw_1292 ts_38 tw_15 tw_1293) rfl rfl rfl (by decide +kernel) ⟨Nat.le_of_ble_eq_true rfl, Nat.le_of_ble_eq_true rfl⟩) (tg_preV hw hK hSD hA (ci := 10) (q := (RX10, TX10, 49)) rfl h_p0 rfl) rfl rfl hl.1 rfl (lv_room (Nat.le_of_ble_eq_true rfl)) dX10_post_4 ⟨Nat.le_of_ble_eq_true rfl, Nat.le_of_ble_eq_true rfl⟩) hw hA ⟨by decide, by decide⟩ (fun ws H locs hp_v_32 hw hF9 => ?_)
  obtain ⟨hfn, hp_v_32⟩ := hp_v_32
  obtain ⟨sg_33, q_sg_33⟩ : ∃ q9 : OS, (f_X10_begin__4 (900 : Int32) s0) = q9 := ⟨_, rfl⟩
  have o_p0 : OV vw_MODEL Ps ws p0 sg_33 := by rw [← q_sg_33]; exact hfn.1
  obtain ⟨v_34, m_v_34, r_v_34⟩ := (hp_v_32.1)
  refine lv_iconst (v := 0) hx hb dX10_post_7 (by decide) ?_
  refine lv_istore_n (lv' := [(1, .int 0), (0, .ref p0)]) hx hb dX10_post_8 rfl hl (by decide) rfl (fun ls hl => ?_)
  simp only [f_X10_post__1, ↓reduceIte, q_sg_33] at hE
  have x_ZR_p0_0 : AX 15 35 (fun f => ∀ j : Nat, (j : Int) < Int32.toInt 0 → f j = 0) Ps ws p0 := AX.imp (rx_true hw h_p0) (fun f9 _ => fun j9 q9 => absurd q9 (by rw [Int32.toInt_zero]; omega))
  exact B9 4294967298 0 v_34 sg_33 ws _ _ ls (by have q0 := rl_0.1; have u0 := rl_0.2; omega) (rl_0.to (by decide)) r_v_34 m_v_34 x_ZR_p0_0 o_p0 hE hw (lv_sub hl [1, 0] rfl)
abbrev wr_X7_refuse__4 : List (Nat × Nat) := [(7, 10), (7, 11)]
abbrev wa_X7_refuse__4 : List Nat := []
set_option maxHeartbeats 4000000 in
set_option maxRecDepth 100000 in
theorem c_X7_refuse__4 (l : Launch) (D : va_G) (cy : Nat → ClassId) (z : Nat → Nat) (sz : Nat) (Ps : PSI) (w0 : va_W) (hT : HT cy GG Ps w0) (p0 : Nat) (p1 : Int32) (s0 : OS) (h_p0 : (p0, 26) ∈ Ps) (r_p1 : RI p1 1 4) (o_p0 : OV vw_TAPE Ps w0 p0 s0) : Met l yX7_refuse (Cond.code yX7_refuse cX7_refuse 2 none :: gT) ({ frames := 0, cells := 0, slots := 0, locals := 200 } : Room) (va_Pc [.ref p0, .int p1] (PRE D cy z w0 sz)) (va_Qv (fun (u : va_W) => ((OV vw_TAPE Ps u p0 ((f_X7_refuse__4 p1 s0)) ∧ True) ∧ ((∃ v9 : Int32, FLD u p0 7 10 (.int v9) ∧ RI v9 1 4) ∧ True)) ∧ HT cy GG Ps u ∧ FR wr_X7_refuse__4 wa_X7_refuse__4 Ps w0 u) (BB D cy (va_A w0 sz) (fun (u : va_W) => u)) (va_A w0 sz)) 0 0 (va_A w0 sz) := by
  refine Met.ofW (cc := cX7_refuse) (maxL := 2) (ret := none) (by decide) rfl ?_
  intro p e s m args below meth c s₁ B hml hv
  obtain ⟨rfl, hsz, hP, hK, hD0, hSD⟩ := hv
  have hx := B.exec
  have hb := B.bytes
  have hr := B.returns
  have hlocks := B.notSynchronized
  have hts : ∀ w ∈ gT, w.before _ s = true := fun w h => atoms_spec (ws := Cond.code yX7_refuse cX7_refuse 2 none :: gT) B.pre w (List.mem_cons_of_mem _ h)
  have hown : s.vm.findClass RX7 = some m.cls := findClass_of_methodNamed B.named
  subst hsz
  have hD := hD0.self (sz := s.heap.size)
  generalize hAe : va_A w0 s.heap.size = A at hD hSD ⊢
  have hA : ∀ q : Nat, s.heap.size ≤ q → A q := fun q h => by rw [← hAe]; exact Or.inr h
  have hl := lv_entry ([.ref p0, .int p1]) (n := 2) (Nat.le_of_ble_eq_true rfl)
  rw [lg_entry_eq]
  generalize (lg_sl ([.ref p0, .int p1]) ++ List.replicate (2 - (lg_sl ([.ref p0, .int p1])).length) Slot.unset).toArray = ls at hl ⊢
  have hl : lv_has ls 2 [(0, .ref p0), (1, .int p1)] := hl
  refine nameQ (fun Q hQ => ?_)
  have hw : WD D cy GG A s wr_X7_refuse__4 wa_X7_refuse__4 Ps w0 Ps w0 s.heap [] := ⟨hT, hP, hD, va_S.rf, FR.rf, hT.1, [], (List.append_nil _).symm⟩
  obtain ⟨R9, hR⟩ : ∃ q9 : OS, f_X7_refuse__4 p1 s0 = q9 := ⟨_, rfl⟩
  have hE := hR
  refine lv_aload_n hx hb dX7_refuse_0 rfl (lv_at hl 0 rfl) ?_
  refine tg_get (ci := 7) (ts := ty_TAPE) (C := RX7) (T := TX7) (N := 12) hx hb hts inX7 hown hK hw h_p0 rfl rfl 10 (by decide) (hts _ tw_104) (fun _ h9 => h9) (ft := vI 0 4) rfl dX7_refuse_1 (fun u_1 hv_u_1 m_u_1 => ?_)
  obtain ⟨vu_1, rfl, r_vu_1⟩ := hv_u_1
  have q_vu_1 : s0.1 10 = vu_1 := OV.eqI (V := vw_TAPE) hw.2.2.1 o_p0 m_u_1 (by decide)
  refine lv_if_ne (tgt := 20) hx hb dX7_refuse_4 (by decide) (fun c_4 => ?_) (fun c_4 => ?_)
  · have r_vu_1 : RI vu_1 1 4 := rc_neL r_vu_1 rl_0 (ti_ne c_4) (by decide)
    simp only [f_X7_refuse__4, ↓reduceIte, q_vu_1, eq_false c_4] at hE
    subst hQ
    exact W.vret hx hb hr (fun t ht hW => ⟨⟨w0, rfl, ⟨⟨⟨(by rw [hR, ← hE]; exact o_p0), trivial⟩, ⟨⟨_, m_u_1, r_vu_1⟩, trivial⟩⟩, hw.1, hw.2.2.2.2.1⟩, by rw [ht]; exact hw.2.1, va_K.moved hW.alike hK, hw.2.2.1⟩, hw.2.2.2.1.F ht⟩) hw.2.2.2.1.2.2 dX7_refuse_20
  · have r_vu_1 : RI vu_1 0 0 := rc_eq1 r_vu_1 rl_0 (ti_eq c_4) (by decide)
    refine lv_aload_n hx hb dX7_refuse_7 rfl (lv_at hl 0 rfl) ?_
    refine lv_iload_n hx hb dX7_refuse_8 rfl (lv_at hl 1 rfl) ?_
    refine tg_put (ci := 7) (ts := ty_TAPE) (v := .int p1) (ty := .int) (C := RX7) (T := TX7) (N := 12) hx hb hts inX7 tyX7 tyX7_ok nmX7 hown hK hw h_p0 rfl rfl 10 (by decide) (hts _ tw_104) (fun _ h9 => h9) rfl (by decide +kernel) rfl rfl (ft := vI 0 4) rfl ⟨_, rfl, (r_p1.to (by decide))⟩ (by decide) dX7_refuse_9 (fun ws H locs hw n_k_2 hF9 => ?_)
    obtain ⟨sg_3, q_sg_3⟩ : ∃ q9 : OS, sI s0 10 p1 = q9 := ⟨_, rfl⟩
    have o_p0 : OV vw_TAPE Ps ws p0 sg_3 := by rw [← q_sg_3]; exact OV.putI (V := vw_TAPE) hF9 n_k_2 o_p0 (by decide)
    refine lv_aload_n hx hb dX7_refuse_12 rfl (lv_at hl 0 rfl) ?_
    refine lv_aload_n hx hb dX7_refuse_13 rfl (lv_at hl 0 rfl) ?_
    refine tg_get (ci := 7) (ts := ty_TAPE) (C := RX7) (T := TX7) (N := 12) hx hb hts inX7 hown hK hw h_p0 rfl rfl 5 (by decide) (hts _ tw_93) (fun _ h9 => h9) (ft := vI 0 940) rfl dX7_refuse_14 (fun u_4 hv_u_4 m_u_4 => ?_)
    obtain ⟨vu_4, rfl, r_vu_4⟩ := hv_u_4
    have q_vu_4 : sg_3.1 5 = vu_4 := OV.eqI (V := vw_TAPE) hw.2.2.1 o_p0 m_u_4 (by decide)
    refine tg_put (ci := 7) (ts := ty_TAPE) (v := .int vu_4) (ty := .int) (C := RX7) (T := TX7) (N := 12) hx hb hts inX7 tyX7 tyX7_ok nmX7 hown hK hw h_p0 rfl rfl 11 (by decide) (hts _ tw_108) (fun _ h9 => h9) rfl (by decide +kernel) rfl rfl (ft := vI (-2147483648) 2147483647) rfl ⟨_, rfl, (r_vu_4.to (by decide))⟩ (by decide) dX7_refuse_17 (fun ws H locs hw n_k_5 hF9 => ?_)
    have n_k_2 := FLD.over hF9 n_k_2 (by decide)
    have m_u_4 := FLD.over hF9 m_u_4 (by decide)
    obtain ⟨sg_6, q_sg_6⟩ : ∃ q9 : OS, sI sg_3 11 vu_4 = q9 := ⟨_, rfl⟩
    have o_p0 : OV vw_TAPE Ps ws p0 sg_6 := by rw [← q_sg_6]; exact OV.putI (V := vw_TAPE) hF9 n_k_5 o_p0 (by decide)
    simp only [f_X7_refuse__4, ↓reduceIte, q_vu_1, eq_true c_4, q_sg_3, q_vu_4, q_sg_6] at hE
    subst hQ
    exact W.vret hx hb hr (fun t ht hW => ⟨⟨ws, rfl, ⟨⟨⟨(by rw [hR, ← hE]; exact o_p0), trivial⟩, ⟨⟨_, n_k_2, r_p1⟩, trivial⟩⟩, hw.1, hw.2.2.2.2.1⟩, by rw [ht]; exact hw.2.1, va_K.moved hW.alike hK, hw.2.2.1⟩, hw.2.2.2.1.F ht⟩) hw.2.2.2.1.2.2 dX7_refuse_20
abbrev wr_X7_goesOn__3 : List (Nat × Nat) := [(7, 10), (7, 11)]
abbrev wa_X7_goesOn__3 : List Nat := []
set_option maxHeartbeats 4000000 in
set_option maxRecDepth 100000 in
theorem c_X7_goesOn__3 (l : Launch) (D : va_G) (cy : Nat → ClassId) (z : Nat → Nat) (sz : Nat) (Ps : PSI) (w0 : va_W) (hT : HT cy GG Ps w0) (p0 : Nat) (s0 : OS) (h_p0 : (p0, 26) ∈ Ps) (o_p0 : OV vw_TAPE Ps w0 p0 s0) : Met l yX7_goesOn (Cond.code yX7_goesOn cX7_goesOn 1 (some .boolean) :: gT) ({ frames := 2, cells := 0, slots := 0, locals := 400 } : Room) (va_Pc [.ref p0] (PRE D cy z w0 sz)) (va_Qi (fun (r : Int32) (u : va_W) => ((OV vw_TAPE Ps u p0 ((f_X7_goesOn__3 s0).1) ∧ (f_X7_goesOn__3 s0).2 = r ∧ True) ∧ (RI r 0 1 ∧ (r = 0 → True) ∧ (¬ r = 0 → (∃ v9 : Int32, FLD u p0 7 10 (.int v9) ∧ RI v9 0 0) ∧ True))) ∧ HT cy GG Ps u ∧ FR wr_X7_goesOn__3 wa_X7_goesOn__3 Ps w0 u) (BB D cy (va_A w0 sz) (fun (u : va_W) => u)) (va_A w0 sz)) 0 0 (va_A w0 sz) := by
  refine Met.ofW (cc := cX7_goesOn) (maxL := 1) (ret := (some .boolean)) (by decide) rfl ?_
  intro p e s m args below meth c s₁ B hml hv
  obtain ⟨rfl, hsz, hP, hK, hD0, hSD⟩ := hv
  have hx := B.exec
  have hb := B.bytes
  have hr := B.returns
  have hlocks := B.notSynchronized
  have hts : ∀ w ∈ gT, w.before _ s = true := fun w h => atoms_spec (ws := Cond.code yX7_goesOn cX7_goesOn 1 (some .boolean) :: gT) B.pre w (List.mem_cons_of_mem _ h)
  have hown : s.vm.findClass RX7 = some m.cls := findClass_of_methodNamed B.named
  subst hsz
  have hD := hD0.self (sz := s.heap.size)
  generalize hAe : va_A w0 s.heap.size = A at hD hSD ⊢
  have hA : ∀ q : Nat, s.heap.size ≤ q → A q := fun q h => by rw [← hAe]; exact Or.inr h
  have hl := lv_entry ([.ref p0]) (n := 1) (Nat.le_of_ble_eq_true rfl)
  rw [lg_entry_eq]
  generalize (lg_sl ([.ref p0]) ++ List.replicate (1 - (lg_sl ([.ref p0])).length) Slot.unset).toArray = ls at hl ⊢
  have hl : lv_has ls 1 [(0, .ref p0)] := hl
  refine nameQ (fun Q hQ => ?_)
  have hw : WD D cy GG A s wr_X7_goesOn__3 wa_X7_goesOn__3 Ps w0 Ps w0 s.heap [] := ⟨hT, hP, hD, va_S.rf, FR.rf, hT.1, [], (List.append_nil _).symm⟩
  obtain ⟨R9, hR⟩ : ∃ q9 : OS × Int32, f_X7_goesOn__3 s0 = q9 := ⟨_, rfl⟩
  have hE := hR
  have B19 : ∀ (s0 : OS) (ws : va_W) (H : Heap) (locs : List Loc) (ls : Array Slot), OV vw_TAPE Ps ws p0 s0 → f_X7_goesOn__3_19 s0 = R9 → WD D cy GG A s wr_X7_goesOn__3 wa_X7_goesOn__3 Ps w0 Ps ws H locs → lv_has ls 1 [(0, .ref p0)] → W p l e (headSpec (Cond.code yX7_goesOn cX7_goesOn 1 (some .boolean) :: gT) ({ frames := 2, cells := 0, slots := 0, locals := 400 } : Room)).room s m ([.ref p0] : List Value).toArray below meth c H locs 0 0 Q (F0 m 19 ls []) := by
    intro s0 ws H locs ls o_p0 hE hw hl
    refine lv_aload_n hx hb dX7_goesOn_19 rfl (lv_at hl 0 rfl) ?_
    refine tg_get (ci := 7) (ts := ty_TAPE) (C := RX7) (T := TX7) (N := 12) hx hb hts inX7 hown hK hw h_p0 rfl rfl 10 (by decide) (hts _ tw_104) (fun _ h9 => h9) (ft := vI 0 4) rfl dX7_goesOn_20 (fun u_1 hv_u_1 m_u_1 => ?_)
    obtain ⟨vu_1, rfl, r_vu_1⟩ := hv_u_1
    have q_vu_1 : s0.1 10 = vu_1 := OV.eqI (V := vw_TAPE) hw.2.2.1 o_p0 m_u_1 (by decide)
    refine lv_if_ne (tgt := 37) hx hb dX7_goesOn_23 (by decide) (fun c_23 => ?_) (fun c_23 => ?_)
    · have r_vu_1 : RI vu_1 1 4 := rc_neL r_vu_1 rl_0 (ti_ne c_23) (by decide)
      refine lv_iconst (v := 0) hx hb dX7_goesOn_37 (by decide) ?_
      simp only [f_X7_goesOn__3_19, ↓reduceIte, q_vu_1, eq_false c_23] at hE
      subst hQ
      exact W.zret (v := 0) hx hb hr (rfl) (fun t ht hW => ⟨⟨0, ws, rfl, ⟨⟨⟨(by rw [hR, ← hE]; exact o_p0), (by rw [hR, ← hE]), trivial⟩, rl_0.to (by decide), (fun h0 => trivial), (fun h0 => absurd rfl h0)⟩, hw.1, hw.2.2.2.2.1⟩, by rw [ht]; exact hw.2.1, va_K.moved hW.alike hK, hw.2.2.1⟩, hw.2.2.2.1.F ht⟩) hw.2.2.2.1.2.2 dX7_goesOn_38
    · have r_vu_1 : RI vu_1 0 0 := rc_eq1 r_vu_1 rl_0 (ti_eq c_23) (by decide)
      refine lv_aload_n hx hb dX7_goesOn_26 rfl (lv_at hl 0 rfl) ?_
      refine tg_get (ci := 7) (ts := ty_TAPE) (C := RX7) (T := TX7) (N := 12) hx hb hts inX7 hown hK hw h_p0 rfl rfl 7 (by decide) (hts _ tw_98) (fun _ h9 => h9) (ft := vI (-2147483648) 2147483647) rfl dX7_goesOn_27 (fun u_2 hv_u_2 m_u_2 => ?_)
      obtain ⟨vu_2, rfl, r_vu_2⟩ := hv_u_2
      have q_vu_2 : s0.1 7 = vu_2 := OV.eqI (V := vw_TAPE) hw.2.2.1 o_p0 m_u_2 (by decide)
      refine lv_if_eq (tgt := 37) hx hb dX7_goesOn_30 (by decide) (fun c_30 => ?_) (fun c_30 => ?_)
      · have r_vu_2 : RI vu_2 0 0 := rc_eq1 r_vu_2 rl_0 (ti_eq c_30) (by decide)
        refine lv_iconst (v := 0) hx hb dX7_goesOn_37 (by decide) ?_
        simp only [f_X7_goesOn__3_19, ↓reduceIte, q_vu_1, eq_true c_23, q_vu_2, eq_true c_30] at hE
        subst hQ
        exact W.zret (v := 0) hx hb hr (rfl) (fun t ht hW => ⟨⟨0, ws, rfl, ⟨⟨⟨(by rw [hR, ← hE]; exact o_p0), (by rw [hR, ← hE]), trivial⟩, rl_0.to (by decide), (fun h0 => trivial), (fun h0 => absurd rfl h0)⟩, hw.1, hw.2.2.2.2.1⟩, by rw [ht]; exact hw.2.1, va_K.moved hW.alike hK, hw.2.2.1⟩, hw.2.2.2.1.F ht⟩) hw.2.2.2.1.2.2 dX7_goesOn_38
      · refine lv_iconst (v := 1) hx hb dX7_goesOn_33 (by decide) ?_
        refine lv_goto (tgt := 38) hx hb dX7_goesOn_34 (by decide) ?_
        simp only [f_X7_goesOn__3_19, ↓reduceIte, q_vu_1, eq_true c_23, q_vu_2, eq_false c_30] at hE
        subst hQ
        exact W.zret (v := 1) hx hb hr (rfl) (fun t ht hW => ⟨⟨1, ws, rfl, ⟨⟨⟨(by rw [hR, ← hE]; exact o_p0), (by rw [hR, ← hE]), trivial⟩, rl_1.to (by decide), (fun _ => trivial), (fun h0 => ⟨⟨_, m_u_1, r_vu_1⟩, trivial⟩)⟩, hw.1, hw.2.2.2.2.1⟩, by rw [ht]; exact hw.2.1, va_K.moved hW.alike hK, hw.2.2.1⟩, hw.2.2.2.1.F ht⟩) hw.2.2.2.1.2.2 dX7_goesOn_38
  refine lv_aload_n hx hb dX7_goesOn_0 rfl (lv_at hl 0 rfl) ?_
  refine tg_get (ci := 7) (ts := ty_TAPE) (C := RX7) (T := TX7) (N := 12) hx hb hts inX7 hown hK hw h_p0 rfl rfl 7 (by decide) (hts _ tw_98) (fun _ h9 => h9) (ft := vI (-2147483648) 2147483647) rfl dX7_goesOn_1 (fun u_3 hv_u_3 m_u_3 => ?_)
  obtain ⟨vu_3, rfl, r_vu_3⟩ := hv_u_3
  have q_vu_3 : s0.1 7 = vu_3 := OV.eqI (V := vw_TAPE) hw.2.2.1 o_p0 m_u_3 (by decide)
  refine lv_if_ne (tgt := 19) hx hb dX7_goesOn_4 (by decide) (fun c_4 => ?_) (fun c_4 => ?_)
  · simp only [f_X7_goesOn__3, ↓reduceIte, q_vu_3, eq_false c_4] at hE
    exact B19 s0 w0 _ _ ls o_p0 hE hw hl
  · have r_vu_3 : RI vu_3 0 0 := rc_eq1 r_vu_3 rl_0 (ti_eq c_4) (by decide)
    refine lv_aload_n hx hb dX7_goesOn_7 rfl (lv_at hl 0 rfl) ?_
    refine tg_get (ci := 7) (ts := ty_TAPE) (C := RX7) (T := TX7) (N := 12) hx hb hts inX7 hown hK hw h_p0 rfl rfl 4 (by decide) (hts _ tw_92) (fun _ h9 => h9) (ft := vI 0 1) rfl dX7_goesOn_8 (fun u_4 hv_u_4 m_u_4 => ?_)
    obtain ⟨vu_4, rfl, r_vu_4⟩ := hv_u_4
    have q_vu_4 : s0.1 4 = vu_4 := OV.eqI (V := vw_TAPE) hw.2.2.1 o_p0 m_u_4 (by decide)
    refine lv_if_eq (tgt := 19) hx hb dX7_goesOn_11 (by decide) (fun c_11 => ?_) (fun c_11 => ?_)
    · have r_vu_4 : RI vu_4 0 0 := rc_eq1 r_vu_4 rl_0 (ti_eq c_11) (by decide)
      simp only [f_X7_goesOn__3, ↓reduceIte, q_vu_3, eq_true c_4, q_vu_4, eq_true c_11] at hE
      exact B19 s0 w0 _ _ ls o_p0 hE hw hl
    · have r_vu_4 : RI vu_4 1 1 := rc_neL r_vu_4 rl_0 (ti_ne c_11) (by decide)
      refine lv_aload_n hx hb dX7_goesOn_14 rfl (lv_at hl 0 rfl) ?_
      refine lv_iconst (v := 1) hx hb dX7_goesOn_15 (by decide) ?_
      refine tk_v (va_runV (As := [.int 1]) (rest := []) ⟨hx, hb, hml, hown, hts⟩ (c_X7_refuse__4 l D cy z s.heap.size Ps w0 hw.1 p0 1 s0 h_p0 (rl_1.to (by decide)) o_p0) (cwV 1 hts (gV tw_442 tw_443 tw_444 tw_2 tw_445) rfl rfl rfl (by decide +kernel) ⟨Nat.le_of_ble_eq_true rfl, Nat.le_of_ble_eq_true rfl⟩) (tg_preV hw hK hSD hA (ci := 7) (q := (RX7, TX7, 12)) rfl h_p0 rfl) rfl rfl hl.1 rfl (lv_room (Nat.le_of_ble_eq_true rfl)) dX7_goesOn_16 ⟨Nat.le_of_ble_eq_true rfl, Nat.le_of_ble_eq_true rfl⟩) hw hA ⟨by decide, by decide⟩ (fun ws H locs hp_v_5 hw hF9 => ?_)
      have m_u_3 := FLD.over hF9 m_u_3 (by decide)
      have m_u_4 := FLD.over hF9 m_u_4 (by decide)
      obtain ⟨hfn, hp_v_5⟩ := hp_v_5
      obtain ⟨sg_6, q_sg_6⟩ : ∃ q9 : OS, (f_X7_refuse__4 (1 : Int32) s0) = q9 := ⟨_, rfl⟩
      have o_p0 : OV vw_TAPE Ps ws p0 sg_6 := by rw [← q_sg_6]; exact hfn.1
      obtain ⟨v_7, m_v_7, r_v_7⟩ := (hp_v_5.1)
      simp only [f_X7_goesOn__3, ↓reduceIte, q_vu_3, eq_true c_4, q_vu_4, eq_false c_11, q_sg_6] at hE
      exact B19 sg_6 ws _ _ ls o_p0 hE hw hl
abbrev wr_X7_refuse__5 : List (Nat × Nat) := [(7, 10), (7, 11)]
abbrev wa_X7_refuse__5 : List Nat := []
set_option maxHeartbeats 4000000 in
set_option maxRecDepth 100000 in
theorem c_X7_refuse__5 (l : Launch) (D : va_G) (cy : Nat → ClassId) (z : Nat → Nat) (sz : Nat) (Ps : PSI) (w0 : va_W) (hT : HT cy GG Ps w0) (p0 : Nat) (p1 : Int32) (f0_10 : Int32) (s0 : OS) (h_p0 : (p0, 26) ∈ Ps) (r_p1 : RI p1 1 4) (r_f0_10 : RI f0_10 0 0) (m_f0_10 : FLD w0 p0 7 10 (.int f0_10)) (o_p0 : OV vw_TAPE Ps w0 p0 s0) : Met l yX7_refuse (Cond.code yX7_refuse cX7_refuse 2 none :: gT) ({ frames := 0, cells := 0, slots := 0, locals := 200 } : Room) (va_Pc [.ref p0, .int p1] (PRE D cy z w0 sz)) (va_Qv (fun (u : va_W) => ((OV vw_TAPE Ps u p0 ((f_X7_refuse__5 p1 s0)) ∧ True) ∧ ((∃ v9 : Int32, FLD u p0 7 10 (.int v9) ∧ RI v9 1 4) ∧ True)) ∧ HT cy GG Ps u ∧ FR wr_X7_refuse__5 wa_X7_refuse__5 Ps w0 u) (BB D cy (va_A w0 sz) (fun (u : va_W) => u)) (va_A w0 sz)) 0 0 (va_A w0 sz) := by
  refine Met.ofW (cc := cX7_refuse) (maxL := 2) (ret := none) (by decide) rfl ?_
  intro p e s m args below meth c s₁ B hml hv
  obtain ⟨rfl, hsz, hP, hK, hD0, hSD⟩ := hv
  have hx := B.exec
  have hb := B.bytes
  have hr := B.returns
  have hlocks := B.notSynchronized
  have hts : ∀ w ∈ gT, w.before _ s = true := fun w h => atoms_spec (ws := Cond.code yX7_refuse cX7_refuse 2 none :: gT) B.pre w (List.mem_cons_of_mem _ h)
  have hown : s.vm.findClass RX7 = some m.cls := findClass_of_methodNamed B.named
  subst hsz
  have hD := hD0.self (sz := s.heap.size)
  generalize hAe : va_A w0 s.heap.size = A at hD hSD ⊢
  have hA : ∀ q : Nat, s.heap.size ≤ q → A q := fun q h => by rw [← hAe]; exact Or.inr h
  have hl := lv_entry ([.ref p0, .int p1]) (n := 2) (Nat.le_of_ble_eq_true rfl)
  rw [lg_entry_eq]
  generalize (lg_sl ([.ref p0, .int p1]) ++ List.replicate (2 - (lg_sl ([.ref p0, .int p1])).length) Slot.unset).toArray = ls at hl ⊢
  have hl : lv_has ls 2 [(0, .ref p0), (1, .int p1)] := hl
  refine nameQ (fun Q hQ => ?_)
  have hw : WD D cy GG A s wr_X7_refuse__5 wa_X7_refuse__5 Ps w0 Ps w0 s.heap [] := ⟨hT, hP, hD, va_S.rf, FR.rf, hT.1, [], (List.append_nil _).symm⟩
  obtain ⟨R9, hR⟩ : ∃ q9 : OS, f_X7_refuse__5 p1 s0 = q9 := ⟨_, rfl⟩
  have hE := hR
  refine lv_aload_n hx hb dX7_refuse_0 rfl (lv_at hl 0 rfl) ?_
  refine tg_mem (ci := 7) (C := RX7) (T := TX7) (N := 12) hx hb hts inX7 hown hK hw 10 m_f0_10 rfl (by decide) (hts _ tw_104) (fun _ h9 => h9) dX7_refuse_1 ?_
  have q_f0_10 : s0.1 10 = f0_10 := OV.eqI (V := vw_TAPE) hw.2.2.1 o_p0 m_f0_10 (by decide)
  refine lv_if_ne (tgt := 20) hx hb dX7_refuse_4 (by decide) (fun c_4 => ?_) (fun c_4 => ?_)
  · exact absurd (r_f0_10.eq.trans rl_0.eq.symm) ((ti_ne c_4))
  · refine lv_aload_n hx hb dX7_refuse_7 rfl (lv_at hl 0 rfl) ?_
    refine lv_iload_n hx hb dX7_refuse_8 rfl (lv_at hl 1 rfl) ?_
    refine tg_put (ci := 7) (ts := ty_TAPE) (v := .int p1) (ty := .int) (C := RX7) (T := TX7) (N := 12) hx hb hts inX7 tyX7 tyX7_ok nmX7 hown hK hw h_p0 rfl rfl 10 (by decide) (hts _ tw_104) (fun _ h9 => h9) rfl (by decide +kernel) rfl rfl (ft := vI 0 4) rfl ⟨_, rfl, (r_p1.to (by decide))⟩ (by decide) dX7_refuse_9 (fun ws H locs hw n_k_1 hF9 => ?_)
    obtain ⟨sg_2, q_sg_2⟩ : ∃ q9 : OS, sI s0 10 p1 = q9 := ⟨_, rfl⟩
    have o_p0 : OV vw_TAPE Ps ws p0 sg_2 := by rw [← q_sg_2]; exact OV.putI (V := vw_TAPE) hF9 n_k_1 o_p0 (by decide)
    refine lv_aload_n hx hb dX7_refuse_12 rfl (lv_at hl 0 rfl) ?_
    refine lv_aload_n hx hb dX7_refuse_13 rfl (lv_at hl 0 rfl) ?_
    refine tg_get (ci := 7) (ts := ty_TAPE) (C := RX7) (T := TX7) (N := 12) hx hb hts inX7 hown hK hw h_p0 rfl rfl 5 (by decide) (hts _ tw_93) (fun _ h9 => h9) (ft := vI 0 940) rfl dX7_refuse_14 (fun u_3 hv_u_3 m_u_3 => ?_)
    obtain ⟨vu_3, rfl, r_vu_3⟩ := hv_u_3
    have q_vu_3 : sg_2.1 5 = vu_3 := OV.eqI (V := vw_TAPE) hw.2.2.1 o_p0 m_u_3 (by decide)
    refine tg_put (ci := 7) (ts := ty_TAPE) (v := .int vu_3) (ty := .int) (C := RX7) (T := TX7) (N := 12) hx hb hts inX7 tyX7 tyX7_ok nmX7 hown hK hw h_p0 rfl rfl 11 (by decide) (hts _ tw_108) (fun _ h9 => h9) rfl (by decide +kernel) rfl rfl (ft := vI (-2147483648) 2147483647) rfl ⟨_, rfl, (r_vu_3.to (by decide))⟩ (by decide) dX7_refuse_17 (fun ws H locs hw n_k_4 hF9 => ?_)
    have n_k_1 := FLD.over hF9 n_k_1 (by decide)
    have m_u_3 := FLD.over hF9 m_u_3 (by decide)
    obtain ⟨sg_5, q_sg_5⟩ : ∃ q9 : OS, sI sg_2 11 vu_3 = q9 := ⟨_, rfl⟩
    have o_p0 : OV vw_TAPE Ps ws p0 sg_5 := by rw [← q_sg_5]; exact OV.putI (V := vw_TAPE) hF9 n_k_4 o_p0 (by decide)
    simp only [f_X7_refuse__5, ↓reduceIte, q_f0_10, eq_true c_4, q_sg_2, q_vu_3, q_sg_5] at hE
    subst hQ
    exact W.vret hx hb hr (fun t ht hW => ⟨⟨ws, rfl, ⟨⟨⟨(by rw [hR, ← hE]; exact o_p0), trivial⟩, ⟨⟨_, n_k_1, r_p1⟩, trivial⟩⟩, hw.1, hw.2.2.2.2.1⟩, by rw [ht]; exact hw.2.1, va_K.moved hW.alike hK, hw.2.2.1⟩, hw.2.2.2.1.F ht⟩) hw.2.2.2.1.2.2 dX7_refuse_20
abbrev wr_X7_pass__4 : List (Nat × Nat) := []
abbrev wa_X7_pass__4 : List Nat := []
set_option maxHeartbeats 4000000 in
set_option maxRecDepth 100000 in
theorem c_X7_pass__4 (l : Launch) (D : va_G) (cy : Nat → ClassId) (z : Nat → Nat) (sz : Nat) (Ps : PSI) (w0 : va_W) (hT : HT cy GG Ps w0) (p0 : Nat) (f0_10 : Int32) (s0 : OS) (h_p0 : (p0, 26) ∈ Ps) (r_f0_10 : RI f0_10 1 4) (m_f0_10 : FLD w0 p0 7 10 (.int f0_10)) (o_p0 : OV vw_TAPE Ps w0 p0 s0) : Met l yX7_pass (Cond.code yX7_pass cX7_pass 2 none :: gT) ({ frames := 0, cells := 0, slots := 0, locals := 200 } : Room) (va_Pc [.ref p0] (PRE D cy z w0 sz)) (va_Qv (fun (u : Unit) => (True) ∧ (True)) (BB D cy (va_A w0 sz) (fun (u : Unit) => w0)) (va_A w0 sz)) 0 0 (va_A w0 sz) := by
  refine Met.ofW (cc := cX7_pass) (maxL := 2) (ret := none) (by decide) rfl ?_
  intro p e s m args below meth c s₁ B hml hv
  obtain ⟨rfl, hsz, hP, hK, hD0, hSD⟩ := hv
  have hx := B.exec
  have hb := B.bytes
  have hr := B.returns
  have hlocks := B.notSynchronized
  have hts : ∀ w ∈ gT, w.before _ s = true := fun w h => atoms_spec (ws := Cond.code yX7_pass cX7_pass 2 none :: gT) B.pre w (List.mem_cons_of_mem _ h)
  have hown : s.vm.findClass RX7 = some m.cls := findClass_of_methodNamed B.named
  subst hsz
  have hD := hD0.self (sz := s.heap.size)
  generalize hAe : va_A w0 s.heap.size = A at hD hSD ⊢
  have hA : ∀ q : Nat, s.heap.size ≤ q → A q := fun q h => by rw [← hAe]; exact Or.inr h
  have hl := lv_entry ([.ref p0]) (n := 2) (Nat.le_of_ble_eq_true rfl)
  rw [lg_entry_eq]
  generalize (lg_sl ([.ref p0]) ++ List.replicate (2 - (lg_sl ([.ref p0])).length) Slot.unset).toArray = ls at hl ⊢
  have hl : lv_has ls 2 [(0, .ref p0)] := hl
  refine nameQ (fun Q hQ => ?_)
  have hw : WD D cy GG A s wr_X7_pass__4 wa_X7_pass__4 Ps w0 Ps w0 s.heap [] := ⟨hT, hP, hD, va_S.rf, FR.rf, hT.1, [], (List.append_nil _).symm⟩
  obtain ⟨R9, hR⟩ : ∃ q9 : Unit, f_X7_pass__4 s0 = q9 := ⟨_, rfl⟩
  have hE := hR
  refine lv_aload_n hx hb dX7_pass_0 rfl (lv_at hl 0 rfl) ?_
  refine tg_mem (ci := 7) (C := RX7) (T := TX7) (N := 12) hx hb hts inX7 hown hK hw 10 m_f0_10 rfl (by decide) (hts _ tw_104) (fun _ h9 => h9) dX7_pass_1 ?_
  have q_f0_10 : s0.1 10 = f0_10 := OV.eqI (V := vw_TAPE) hw.2.2.1 o_p0 m_f0_10 (by decide)
  refine lv_if_eq (tgt := 8) hx hb dX7_pass_4 (by decide) (fun c_4 => ?_) (fun c_4 => ?_)
  · have r_f0_10 : RI f0_10 1 0 := rc_eq1 r_f0_10 rl_0 (ti_eq c_4) (by decide)
    exact (r_f0_10.no (by decide)).elim
  · simp only [f_X7_pass__4, ↓reduceIte, q_f0_10, eq_false c_4] at hE
    subst hQ
    exact W.vret hx hb hr (fun t ht hW => ⟨⟨(), rfl, ⟨trivial, trivial⟩, by rw [ht]; exact hw.2.1, va_K.moved hW.alike hK, hw.2.2.1⟩, hw.2.2.2.1.F ht⟩) hw.2.2.2.1.2.2 dX7_pass_7
abbrev wr_X3_beginsLine__12 : List (Nat × Nat) := [(7, 10), (7, 11)]
abbrev wa_X3_beginsLine__12 : List Nat := []
set_option maxHeartbeats 4000000 in
set_option maxRecDepth 100000 in
theorem c_X3_beginsLine__12 (l : Launch) (D : va_G) (cy : Nat → ClassId) (z : Nat → Nat) (sz : Nat) (Ps : PSI) (w0 : va_W) (hT : HT cy GG Ps w0) (p0 : Nat) (p1 : Nat) (p2 : Int32) (f1_10 : Int32) (s0 : OS) (s1 : OS) (h_p0 : (p0, 25) ∈ Ps) (h_p1 : (p1, 26) ∈ Ps) (r_p2 : RI p2 (-2147483648) 127) (r_f1_10 : RI f1_10 0 0) (m_f1_10 : FLD w0 p1 7 10 (.int f1_10)) (o_p0 : OV vw_POST Ps w0 p0 s0) (o_p1 : OV vw_TAPE Ps w0 p1 s1) : Met l yX3_beginsLine (Cond.code yX3_beginsLine cX3_beginsLine 3 (some .boolean) :: gT) ({ frames := 2, cells := 0, slots := 0, locals := 400 } : Room) (va_Pc [.ref p0, .ref p1, .int p2] (PRE D cy z w0 sz)) (va_Qi (fun (r : Int32) (u : va_W) => ((OV vw_POST Ps u p0 ((f_X3_beginsLine__12 p2 s0 s1).1) ∧ OV vw_TAPE Ps u p1 ((f_X3_beginsLine__12 p2 s0 s1).2.1) ∧ (f_X3_beginsLine__12 p2 s0 s1).2.2 = r ∧ True) ∧ (RI r 0 0 ∧ (r = 0 → (∃ v9 : Int32, FLD u p1 7 10 (.int v9) ∧ RI v9 1 4) ∧ True) ∧ (¬ r = 0 → True))) ∧ HT cy GG Ps u ∧ FR wr_X3_beginsLine__12 wa_X3_beginsLine__12 Ps w0 u) (BB D cy (va_A w0 sz) (fun (u : va_W) => u)) (va_A w0 sz)) 0 0 (va_A w0 sz) := by
  refine Met.ofW (cc := cX3_beginsLine) (maxL := 3) (ret := (some .boolean)) (by decide) rfl ?_
  intro p e s m args below meth c s₁ B hml hv
  obtain ⟨rfl, hsz, hP, hK, hD0, hSD⟩ := hv
  have hx := B.exec
  have hb := B.bytes
  have hr := B.returns
  have hlocks := B.notSynchronized
  have hts : ∀ w ∈ gT, w.before _ s = true := fun w h => atoms_spec (ws := Cond.code yX3_beginsLine cX3_beginsLine 3 (some .boolean) :: gT) B.pre w (List.mem_cons_of_mem _ h)
  have hown : s.vm.findClass RX3 = some m.cls := findClass_of_methodNamed B.named
  subst hsz
  have hD := hD0.self (sz := s.heap.size)
  generalize hAe : va_A w0 s.heap.size = A at hD hSD ⊢
  have hA : ∀ q : Nat, s.heap.size ≤ q → A q := fun q h => by rw [← hAe]; exact Or.inr h
  have hl := lv_entry ([.ref p0, .ref p1, .int p2]) (n := 3) (Nat.le_of_ble_eq_true rfl)
  rw [lg_entry_eq]
  generalize (lg_sl ([.ref p0, .ref p1, .int p2]) ++ List.replicate (3 - (lg_sl ([.ref p0, .ref p1, .int p2])).length) Slot.unset).toArray = ls at hl ⊢
  have hl : lv_has ls 3 [(0, .ref p0), (1, .ref p1), (2, .int p2)] := hl
  refine nameQ (fun Q hQ => ?_)
  have hw : WD D cy GG A s wr_X3_beginsLine__12 wa_X3_beginsLine__12 Ps w0 Ps w0 s.heap [] := ⟨hT, hP, hD, va_S.rf, FR.rf, hT.1, [], (List.append_nil _).symm⟩
  obtain ⟨R9, hR⟩ : ∃ q9 : OS × OS × Int32, f_X3_beginsLine__12 p2 s0 s1 = q9 := ⟨_, rfl⟩
  have hE := hR
  refine lv_iload_n hx hb dX3_beginsLine_0 rfl (lv_at hl 2 rfl) ?_
  refine lv_sipush (v := 128) hx hb dX3_beginsLine_1 (by decide) ?_
  refine lv_icmp_lt (tgt := 14) hx hb dX3_beginsLine_4 (by decide) (fun c_4 => ?_) (fun c_4 => ?_)
  · refine lv_aload_n hx hb dX3_beginsLine_14 rfl (lv_at hl 1 rfl) ?_
    refine lv_iconst (v := 1) hx hb dX3_beginsLine_15 (by decide) ?_
    refine tk_v (va_runV (As := [.int 1]) (rest := []) ⟨hx, hb, hml, hown, hts⟩ (c_X7_refuse__5 l D cy z s.heap.size Ps w0 hw.1 p1 1 f1_10 s1 h_p1 (rl_1.to (by decide)) r_f1_10 m_f1_10 o_p1) (cwV 1 hts (gV tw_450 tw_443 tw_444 tw_2 tw_445) rfl rfl rfl (by decide +kernel) ⟨Nat.le_of_ble_eq_true rfl, Nat.le_of_ble_eq_true rfl⟩) (tg_preV hw hK hSD hA (ci := 7) (q := (RX7, TX7, 12)) rfl h_p1 rfl) rfl rfl hl.1 rfl (lv_room (Nat.le_of_ble_eq_true rfl)) dX3_beginsLine_16 ⟨Nat.le_of_ble_eq_true rfl, Nat.le_of_ble_eq_true rfl⟩) hw hA ⟨by decide, by decide⟩ (fun ws H locs hp_v_1 hw hF9 => ?_)
    obtain ⟨hfn, hp_v_1⟩ := hp_v_1
    have o_p0 := OV.over (V := vw_POST) hF9 o_p0 (by decide)
    obtain ⟨sg_2, q_sg_2⟩ : ∃ q9 : OS, (f_X7_refuse__5 (1 : Int32) s1) = q9 := ⟨_, rfl⟩
    have o_p1 : OV vw_TAPE Ps ws p1 sg_2 := by rw [← q_sg_2]; exact hfn.1
    obtain ⟨v_3, m_v_3, r_v_3⟩ := (hp_v_1.1)
    refine lv_goto (tgt := 92) hx hb dX3_beginsLine_19 (by decide) ?_
    refine lv_aload_n hx hb dX3_beginsLine_92 rfl (lv_at hl 1 rfl) ?_
    refine tk_vr (va_runV (As := []) (rest := []) ⟨hx, hb, hml, hown, hts⟩ (c_X7_pass__4 l D cy z H.size Ps ws hw.1 p1 v_3 sg_2 h_p1 r_v_3 m_v_3 o_p1) (cwV 0 hts (gV tw_451 tw_425 tw_426 tw_2 tw_427) rfl rfl rfl (by decide +kernel) ⟨Nat.le_of_ble_eq_true rfl, Nat.le_of_ble_eq_true rfl⟩) (tg_preV hw hK hSD hA (ci := 7) (q := (RX7, TX7, 12)) rfl h_p1 rfl) rfl rfl hl.1 rfl (lv_room (Nat.le_of_ble_eq_true rfl)) dX3_beginsLine_93 ⟨Nat.le_of_ble_eq_true rfl, Nat.le_of_ble_eq_true rfl⟩) hw hA (fun  H locs hp_v_4 hw => ?_)
    obtain ⟨hfn, hp_v_4⟩ := hp_v_4
    refine lv_aload_n hx hb dX3_beginsLine_96 rfl (lv_at hl 1 rfl) ?_
    refine tg_memN (ci := 7) (C := RX7) (T := TX7) (N := 12) hx hb hts inX7 hown hK hw 10 m_v_3 rfl (by decide) (hSD.nest tn_105) (fun _ h9 => h9) dX3_beginsLine_97 ?_
    have q_v_3 : sg_2.1 10 = v_3 := OV.eqI (V := vw_TAPE) hw.2.2.1 o_p1 m_v_3 (by decide)
    refine lv_if_ne (tgt := 107) hx hb dX3_beginsLine_100 (by decide) (fun c_100 => ?_) (fun c_100 => ?_)
    · refine lv_iconst (v := 0) hx hb dX3_beginsLine_107 (by decide) ?_
      simp only [f_X3_beginsLine__12, ↓reduceIte, eq_true c_4, q_sg_2, q_v_3, eq_false c_100] at hE
      subst hQ
      exact W.zret (v := 0) hx hb hr (rfl) (fun t ht hW => ⟨⟨0, ws, rfl, ⟨⟨⟨(by rw [hR, ← hE]; exact o_p0), (by rw [hR, ← hE]; exact o_p1), (by rw [hR, ← hE]), trivial⟩, rl_0.to (by decide), (fun h0 => ⟨⟨_, m_v_3, r_v_3⟩, trivial⟩), (fun _ => trivial)⟩, hw.1, hw.2.2.2.2.1⟩, by rw [ht]; exact hw.2.1, va_K.moved hW.alike hK, hw.2.2.1⟩, hw.2.2.2.1.F ht⟩) hw.2.2.2.1.2.2 dX3_beginsLine_108
    · have r_v_3 : RI v_3 1 0 := rc_eq1 r_v_3 rl_0 (ti_eq c_100) (by decide)
      exact (r_v_3.no (by decide)).elim
  · have r_p2 : RI p2 128 127 := rc_le2 rl_128 r_p2 (ti_nlt c_4) (by decide)
    exact (r_p2.no (by decide)).elim
abbrev wr_X7_isSign__1 : List (Nat × Nat) := []
abbrev wa_X7_isSign__1 : List Nat := []
set_option maxHeartbeats 4000000 in
set_option maxRecDepth 100000 in
theorem c_X7_isSign__1 (l : Launch) (D : va_G) (cy : Nat → ClassId) (z : Nat → Nat) (sz : Nat) (Ps : PSI) (w0 : va_W) (hT : HT cy GG Ps w0) (p0 : Int32) (r_p0 : RI p0 (-2147483648) 2147483647) : Met l yX7_isSign (Cond.code yX7_isSign cX7_isSign 1 (some .boolean) :: gT) ({ frames := 0, cells := 0, slots := 0, locals := 200 } : Room) (va_Pc [.int p0] (PRE D cy z w0 sz)) (va_Qi (fun (r : Int32) (u : Unit) => ((f_X7_isSign__1 p0) = r ∧ True) ∧ (RI r 0 1 ∧ (r = 0 → True) ∧ (¬ r = 0 → RI p0 40 62 ∧ True))) (BB D cy (va_A w0 sz) (fun (u : Unit) => w0)) (va_A w0 sz)) 0 0 (va_A w0 sz) := by
  refine Met.ofW (cc := cX7_isSign) (maxL := 1) (ret := (some .boolean)) (by decide) rfl ?_
  intro p e s m args below meth c s₁ B hml hv
  obtain ⟨rfl, hsz, hP, hK, hD0, hSD⟩ := hv
  have hx := B.exec
  have hb := B.bytes
  have hr := B.returns
  have hlocks := B.notSynchronized
  have hts : ∀ w ∈ gT, w.before _ s = true := fun w h => atoms_spec (ws := Cond.code yX7_isSign cX7_isSign 1 (some .boolean) :: gT) B.pre w (List.mem_cons_of_mem _ h)
  have hown : s.vm.findClass RX7 = some m.cls := findClass_of_methodNamed B.named
  subst hsz
  have hD := hD0.self (sz := s.heap.size)
  generalize hAe : va_A w0 s.heap.size = A at hD hSD ⊢
  have hA : ∀ q : Nat, s.heap.size ≤ q → A q := fun q h => by rw [← hAe]; exact Or.inr h
  have hl := lv_entry ([.int p0]) (n := 1) (Nat.le_of_ble_eq_true rfl)
  rw [lg_entry_eq]
  generalize (lg_sl ([.int p0]) ++ List.replicate (1 - (lg_sl ([.int p0])).length) Slot.unset).toArray = ls at hl ⊢
  have hl : lv_has ls 1 [(0, .int p0)] := hl
  refine nameQ (fun Q hQ => ?_)
  have hw : WD D cy GG A s wr_X7_isSign__1 wa_X7_isSign__1 Ps w0 Ps w0 s.heap [] := ⟨hT, hP, hD, va_S.rf, FR.rf, hT.1, [], (List.append_nil _).symm⟩
  obtain ⟨R9, hR⟩ : ∃ q9 : Int32, f_X7_isSign__1 p0 = q9 := ⟨_, rfl⟩
  have hE := hR
  refine lv_iload_n hx hb dX7_isSign_0 rfl (lv_at hl 0 rfl) ?_
  refine lv_bipush (v := 59) hx hb dX7_isSign_1 (by decide) ?_
  refine lv_icmp_eq (tgt := 36) hx hb dX7_isSign_3 (by decide) (fun c_3 => ?_) (fun c_3 => ?_)
  · have r_p0 : RI p0 59 59 := rc_eq1 r_p0 rl_59 (ti_eq c_3) (by decide)
    refine lv_iconst (v := 1) hx hb dX7_isSign_36 (by decide) ?_
    refine lv_goto (tgt := 41) hx hb dX7_isSign_37 (by decide) ?_
    simp only [f_X7_isSign__1, ↓reduceIte, eq_true c_3] at hE
    subst hQ
    exact W.zret (v := 1) hx hb hr (rfl) (fun t ht hW => ⟨⟨1, (), rfl, ⟨⟨(by rw [hR, ← hE]), trivial⟩, rl_1.to (by decide), (fun _ => trivial), (fun h0 => ⟨(r_p0.to (by decide)), trivial⟩)⟩, by rw [ht]; exact hw.2.1, va_K.moved hW.alike hK, hw.2.2.1⟩, hw.2.2.2.1.F ht⟩) hw.2.2.2.1.2.2 dX7_isSign_41
  · refine lv_iload_n hx hb dX7_isSign_6 rfl (lv_at hl 0 rfl) ?_
    refine lv_bipush (v := 60) hx hb dX7_isSign_7 (by decide) ?_
    refine lv_icmp_eq (tgt := 36) hx hb dX7_isSign_9 (by decide) (fun c_9 => ?_) (fun c_9 => ?_)
    · have r_p0 : RI p0 60 60 := rc_eq1 r_p0 rl_60 (ti_eq c_9) (by decide)
      refine lv_iconst (v := 1) hx hb dX7_isSign_36 (by decide) ?_
      refine lv_goto (tgt := 41) hx hb dX7_isSign_37 (by decide) ?_
      simp only [f_X7_isSign__1, ↓reduceIte, eq_false c_3, eq_true c_9] at hE
      subst hQ
      exact W.zret (v := 1) hx hb hr (rfl) (fun t ht hW => ⟨⟨1, (), rfl, ⟨⟨(by rw [hR, ← hE]), trivial⟩, rl_1.to (by decide), (fun _ => trivial), (fun h0 => ⟨(r_p0.to (by decide)), trivial⟩)⟩, by rw [ht]; exact hw.2.1, va_K.moved hW.alike hK, hw.2.2.1⟩, hw.2.2.2.1.F ht⟩) hw.2.2.2.1.2.2 dX7_isSign_41
    · refine lv_iload_n hx hb dX7_isSign_12 rfl (lv_at hl 0 rfl) ?_
      refine lv_bipush (v := 61) hx hb dX7_isSign_13 (by decide) ?_
      refine lv_icmp_eq (tgt := 36) hx hb dX7_isSign_15 (by decide) (fun c_15 => ?_) (fun c_15 => ?_)
      · have r_p0 : RI p0 61 61 := rc_eq1 r_p0 rl_61 (ti_eq c_15) (by decide)
        refine lv_iconst (v := 1) hx hb dX7_isSign_36 (by decide) ?_
        refine lv_goto (tgt := 41) hx hb dX7_isSign_37 (by decide) ?_
        simp only [f_X7_isSign__1, ↓reduceIte, eq_false c_3, eq_false c_9, eq_true c_15] at hE
        subst hQ
        exact W.zret (v := 1) hx hb hr (rfl) (fun t ht hW => ⟨⟨1, (), rfl, ⟨⟨(by rw [hR, ← hE]), trivial⟩, rl_1.to (by decide), (fun _ => trivial), (fun h0 => ⟨(r_p0.to (by decide)), trivial⟩)⟩, by rw [ht]; exact hw.2.1, va_K.moved hW.alike hK, hw.2.2.1⟩, hw.2.2.2.1.F ht⟩) hw.2.2.2.1.2.2 dX7_isSign_41
      · refine lv_iload_n hx hb dX7_isSign_18 rfl (lv_at hl 0 rfl) ?_
        refine lv_bipush (v := 62) hx hb dX7_isSign_19 (by decide) ?_
        refine lv_icmp_eq (tgt := 36) hx hb dX7_isSign_21 (by decide) (fun c_21 => ?_) (fun c_21 => ?_)
        · have r_p0 : RI p0 62 62 := rc_eq1 r_p0 rl_62 (ti_eq c_21) (by decide)
          refine lv_iconst (v := 1) hx hb dX7_isSign_36 (by decide) ?_
          refine lv_goto (tgt := 41) hx hb dX7_isSign_37 (by decide) ?_
          simp only [f_X7_isSign__1, ↓reduceIte, eq_false c_3, eq_false c_9, eq_false c_15, eq_true c_21] at hE
          subst hQ
          exact W.zret (v := 1) hx hb hr (rfl) (fun t ht hW => ⟨⟨1, (), rfl, ⟨⟨(by rw [hR, ← hE]), trivial⟩, rl_1.to (by decide), (fun _ => trivial), (fun h0 => ⟨(r_p0.to (by decide)), trivial⟩)⟩, by rw [ht]; exact hw.2.1, va_K.moved hW.alike hK, hw.2.2.1⟩, hw.2.2.2.1.F ht⟩) hw.2.2.2.1.2.2 dX7_isSign_41
        · refine lv_iload_n hx hb dX7_isSign_24 rfl (lv_at hl 0 rfl) ?_
          refine lv_bipush (v := 40) hx hb dX7_isSign_25 (by decide) ?_
          refine lv_icmp_eq (tgt := 36) hx hb dX7_isSign_27 (by decide) (fun c_27 => ?_) (fun c_27 => ?_)
          · have r_p0 : RI p0 40 40 := rc_eq1 r_p0 rl_40 (ti_eq c_27) (by decide)
            refine lv_iconst (v := 1) hx hb dX7_isSign_36 (by decide) ?_
            refine lv_goto (tgt := 41) hx hb dX7_isSign_37 (by decide) ?_
            simp only [f_X7_isSign__1, ↓reduceIte, eq_false c_3, eq_false c_9, eq_false c_15, eq_false c_21, eq_true c_27] at hE
            subst hQ
            exact W.zret (v := 1) hx hb hr (rfl) (fun t ht hW => ⟨⟨1, (), rfl, ⟨⟨(by rw [hR, ← hE]), trivial⟩, rl_1.to (by decide), (fun _ => trivial), (fun h0 => ⟨(r_p0.to (by decide)), trivial⟩)⟩, by rw [ht]; exact hw.2.1, va_K.moved hW.alike hK, hw.2.2.1⟩, hw.2.2.2.1.F ht⟩) hw.2.2.2.1.2.2 dX7_isSign_41
          · refine lv_iload_n hx hb dX7_isSign_30 rfl (lv_at hl 0 rfl) ?_
            refine lv_bipush (v := 41) hx hb dX7_isSign_31 (by decide) ?_
            refine lv_icmp_ne (tgt := 40) hx hb dX7_isSign_33 (by decide) (fun c_33 => ?_) (fun c_33 => ?_)
            · refine lv_iconst (v := 0) hx hb dX7_isSign_40 (by decide) ?_
              simp only [f_X7_isSign__1, ↓reduceIte, eq_false c_3, eq_false c_9, eq_false c_15, eq_false c_21, eq_false c_27, eq_false c_33] at hE
              subst hQ
              exact W.zret (v := 0) hx hb hr (rfl) (fun t ht hW => ⟨⟨0, (), rfl, ⟨⟨(by rw [hR, ← hE]), trivial⟩, rl_0.to (by decide), (fun h0 => trivial), (fun h0 => absurd rfl h0)⟩, by rw [ht]; exact hw.2.1, va_K.moved hW.alike hK, hw.2.2.1⟩, hw.2.2.2.1.F ht⟩) hw.2.2.2.1.2.2 dX7_isSign_41
            · have r_p0 : RI p0 41 41 := rc_eq1 r_p0 rl_41 (ti_eq c_33) (by decide)
              refine lv_iconst (v := 1) hx hb dX7_isSign_36 (by decide) ?_
              refine lv_goto (tgt := 41) hx hb dX7_isSign_37 (by decide) ?_
              simp only [f_X7_isSign__1, ↓reduceIte, eq_false c_3, eq_false c_9, eq_false c_15, eq_false c_21, eq_false c_27, eq_true c_33] at hE
              subst hQ
              exact W.zret (v := 1) hx hb hr (rfl) (fun t ht hW => ⟨⟨1, (), rfl, ⟨⟨(by rw [hR, ← hE]), trivial⟩, rl_1.to (by decide), (fun _ => trivial), (fun h0 => ⟨(r_p0.to (by decide)), trivial⟩)⟩, by rw [ht]; exact hw.2.1, va_K.moved hW.alike hK, hw.2.2.1⟩, hw.2.2.2.1.F ht⟩) hw.2.2.2.1.2.2 dX7_isSign_41
abbrev wr_X7_readRun__1 : List (Nat × Nat) := [(7, 6), (7, 7), (7, 8), (7, 9)]
abbrev wa_X7_readRun__1 : List Nat := []
set_option maxHeartbeats 4000000 in
set_option maxRecDepth 100000 in
theorem c_X7_readRun__1 (l : Launch) (D : va_G) (cy : Nat → ClassId) (z : Nat → Nat) (sz : Nat) (Ps : PSI) (w0 : va_W) (hT : HT cy GG Ps w0) (p0 : Nat) (s0 : OS) (h_p0 : (p0, 26) ∈ Ps) (o_p0 : OV vw_TAPE Ps w0 p0 s0) : Met l yX7_readRun (Cond.code yX7_readRun cX7_readRun 8 none :: gT) ({ frames := 0, cells := 0, slots := 0, locals := 200 } : Room) (va_Pc [.ref p0] (PRE D cy z w0 sz)) (va_Qv (fun (u : va_W) => ((OV vw_TAPE Ps u p0 ((f_X7_readRun__1 s0)) ∧ True) ∧ (True)) ∧ HT cy GG Ps u ∧ FR wr_X7_readRun__1 wa_X7_readRun__1 Ps w0 u) (BB D cy (va_A w0 sz) (fun (u : va_W) => u)) (va_A w0 sz)) 0 0 (va_A w0 sz) := by
  refine Met.ofW (cc := cX7_readRun) (maxL := 8) (ret := none) (by decide) rfl ?_
  intro p e s m args below meth c s₁ B hml hv
  obtain ⟨rfl, hsz, hP, hK, hD0, hSD⟩ := hv
  have hx := B.exec
  have hb := B.bytes
  have hr := B.returns
  have hlocks := B.notSynchronized
  have hts : ∀ w ∈ gT, w.before _ s = true := fun w h => atoms_spec (ws := Cond.code yX7_readRun cX7_readRun 8 none :: gT) B.pre w (List.mem_cons_of_mem _ h)
  have hown : s.vm.findClass RX7 = some m.cls := findClass_of_methodNamed B.named
  subst hsz
  have hD := hD0.self (sz := s.heap.size)
  generalize hAe : va_A w0 s.heap.size = A at hD hSD ⊢
  have hA : ∀ q : Nat, s.heap.size ≤ q → A q := fun q h => by rw [← hAe]; exact Or.inr h
  have hl := lv_entry ([.ref p0]) (n := 8) (Nat.le_of_ble_eq_true rfl)
  rw [lg_entry_eq]
  generalize (lg_sl ([.ref p0]) ++ List.replicate (8 - (lg_sl ([.ref p0])).length) Slot.unset).toArray = ls at hl ⊢
  have hl : lv_has ls 8 [(0, .ref p0)] := hl
  refine nameQ (fun Q hQ => ?_)
  have hw : WD D cy GG A s wr_X7_readRun__1 wa_X7_readRun__1 Ps w0 Ps w0 s.heap [] := ⟨hT, hP, hD, va_S.rf, FR.rf, hT.1, [], (List.append_nil _).symm⟩
  obtain ⟨R9, hR⟩ : ∃ q9 : OS, f_X7_readRun__1 s0 = q9 := ⟨_, rfl⟩
  have hE := hR
  have B178 : ∀ (nf : Nat) (x1 : Int32) (x2 : Int32) (x3 : Int64) (x5 : Int32) (x6 : Int32) (x7 : Int32) (z0_6 : Int32) (z0_7 : Int32) (s0 : OS) (ws : va_W) (H : Heap) (locs : List Loc) (ls : Array Slot), 28 - x7.toInt < (nf : Int) → RI x1 (-2147483648) 7 → RI x2 0 0 → RJ x3 (-9223372036854775808) 9223372036854775807 → RI x5 (-2147483648) 2147483647 → RI x6 0 1 → RI x7 0 28 → RI z0_6 0 940 → FLD ws p0 7 6 (.int z0_6) → RI z0_7 2 155 → FLD ws p0 7 7 (.int z0_7) → OV vw_TAPE Ps ws p0 s0 → f_X7_readRun__1_178 nf x1 x2 x3 x5 x6 x7 s0 = R9 → WD D cy GG A s wr_X7_readRun__1 wa_X7_readRun__1 Ps w0 Ps ws H locs → lv_has ls 8 [(0, .ref p0), (1, .int x1), (2, .int x2), (3, .long x3), (5, .int x5), (6, .int x6), (7, .int x7)] → W p l e (headSpec (Cond.code yX7_readRun cX7_readRun 8 none :: gT) ({ frames := 0, cells := 0, slots := 0, locals := 200 } : Room)).room s m ([.ref p0] : List Value).toArray below meth c H locs 0 0 Q (F0 m 178 ls []) := by
    intro nf178
    induction nf178 with
    | zero =>
      intro x1 x2 x3 x5 x6 x7 z0_6 z0_7 s0 ws H locs ls hn178 r_x1 r_x2 r_x3 r_x5 r_x6 r_x7 r_z0_6 m_z0_6 r_z0_7 m_z0_7 o_p0 hE hw hl
      exact absurd hn178 (by have q0 := r_x7.1; have u0 := r_x7.2; omega)
    | succ nf178 ih178 =>
      intro x1 x2 x3 x5 x6 x7 z0_6 z0_7 s0 ws H locs ls hn178 r_x1 r_x2 r_x3 r_x5 r_x6 r_x7 r_z0_6 m_z0_6 r_z0_7 m_z0_7 o_p0 hE hw hl
      have q_z0_6 : s0.1 6 = z0_6 := OV.eqI (V := vw_TAPE) hw.2.2.1 o_p0 m_z0_6 (by decide)
      have q_z0_7 : s0.1 7 = z0_7 := OV.eqI (V := vw_TAPE) hw.2.2.1 o_p0 m_z0_7 (by decide)
      refine lv_iload hx hb dX7_readRun_178 (lv_at hl 6 rfl) ?_
      refine lv_aload_n hx hb dX7_readRun_180 rfl (lv_at hl 0 rfl) ?_
      refine tg_get (ci := 7) (ts := ty_TAPE) (C := RX7) (T := TX7) (N := 12) hx hb hts inX7 hown hK hw h_p0 rfl rfl 1 (by decide) (hts _ tw_88) (fun _ h9 => h9) (ft := vR 0) rfl dX7_readRun_181 (fun u_1 hv_u_1 m_u_1 => ?_)
      obtain ⟨vu_1, rfl, h_vu_1⟩ := hv_u_1
      refine tg_alenL (v := 28) hx hb hK hw h_vu_1 rfl rfl dX7_readRun_184 ?_
      refine lv_icmp_ge (tgt := 216) hx hb dX7_readRun_185 (by decide) (fun c_185 => ?_) (fun c_185 => ?_)
      · have r_x7 : RI x7 28 28 := rc_le2 rl_28 r_x7 (ti_le c_185) (by decide)
        simp only [f_X7_readRun__1_178, ↓reduceIte, q_z0_6, q_z0_7, eq_true c_185] at hE
        subst hQ
        exact W.vret hx hb hr (fun t ht hW => ⟨⟨ws, rfl, ⟨⟨⟨(by rw [hR, ← hE]; exact o_p0), trivial⟩, trivial⟩, hw.1, hw.2.2.2.2.1⟩, by rw [ht]; exact hw.2.1, va_K.moved hW.alike hK, hw.2.2.1⟩, hw.2.2.2.1.F ht⟩) hw.2.2.2.1.2.2 dX7_readRun_216
      · have r_x7 : RI x7 0 27 := rc_lt1 r_x7 rl_28 (ti_nle c_185) (by decide)
        refine lv_aload_n hx hb dX7_readRun_188 rfl (lv_at hl 0 rfl) ?_
        refine tg_mem (ci := 7) (C := RX7) (T := TX7) (N := 12) hx hb hts inX7 hown hK hw 1 m_u_1 rfl (by decide) (hts _ tw_88) (fun _ h9 => h9) dX7_readRun_189 ?_
        refine lv_iload hx hb dX7_readRun_192 (lv_at hl 6 rfl) ?_
        refine tg_laldE hx hb hK hw h_vu_1 rfl r_x7 (by decide) dX7_readRun_194 (fun w_2 r_w_2 l_w_2 => ?_)
        have q_w_2 : s0.2.2.2 1 (Int32.toNatClampNeg x7) = w_2 := OV.eqB (V := vw_TAPE) (t := 0) hw.2.2.1 o_p0 m_u_1 l_w_2 (by decide)
        refine lv_lload_n hx hb dX7_readRun_195 rfl (lv_at hl 3 rfl) ?_
        refine W.lcmp hx hb dX7_readRun_196 (lv_topi (fun v_3 e_v_3 => ?_))
        have r_v_3 := ri_any v_3
        have q_v_3 : lg_cmp w_2 x3 = v_3 := e_v_3.symm
        refine lv_if_ne (tgt := 210) hx hb dX7_readRun_197 (by decide) (fun c_197 => ?_) (fun c_197 => ?_)
        · obtain ⟨v_4, e_v_4⟩ : ∃ q9 : Int32, q9 = x7 + Int32.ofInt 1 := ⟨_, rfl⟩
          obtain ⟨t_v_4, r_v_4⟩ := tq_add (lo := 1) (hi := 28) r_x7 (show RI (Int32.ofInt 1) 1 1 by unfold RI; decide +kernel) (by decide +kernel) e_v_4
          have t_v_4 : v_4.toInt = x7.toInt + 1 := t_v_4
          refine lv_iinc (v := v_4) (lv' := [(7, .int v_4), (0, .ref p0), (1, .int x1), (2, .int x2), (3, .long x3), (5, .int x5), (6, .int x6)]) hx hb dX7_readRun_210 hl (k := 6) rfl e_v_4.symm (by decide) rfl (fun ls hl => ?_)
          have q_v_4 : x7 + (1 : Int32) = v_4 := by rw [e_v_4, show Int32.ofInt 1 = (1 : Int32) by decide]
          refine lv_goto (tgt := 178) hx hb dX7_readRun_213 (by decide) ?_
          simp only [f_X7_readRun__1_178, ↓reduceIte, q_z0_6, q_z0_7, eq_false c_185, q_w_2, q_v_3, eq_false c_197, q_v_4] at hE
          exact ih178 x1 x2 x3 x5 x6 v_4 z0_6 z0_7 s0 ws _ _ ls (by have q0 := r_v_4.1; have u0 := r_v_4.2; have o0 := r_x7.1; have p0 := r_x7.2; omega) r_x1 r_x2 r_x3 r_x5 r_x6 (r_v_4.to (by decide)) r_z0_6 m_z0_6 r_z0_7 m_z0_7 o_p0 hE hw (lv_sub hl [1, 2, 3, 4, 5, 6, 0] rfl)
        · have r_v_3 : RI v_3 0 0 := rc_eq1 r_v_3 rl_0 (ti_eq c_197) (by decide)
          refine lv_aload_n hx hb dX7_readRun_200 rfl (lv_at hl 0 rfl) ?_
          refine lv_sipush (v := 128) hx hb dX7_readRun_201 (by decide) ?_
          refine lv_iload hx hb dX7_readRun_204 (lv_at hl 6 rfl) ?_
          refine lv_iadd hx hb dX7_readRun_206 (lv_topi (fun v_5 e_v_5 => ?_))
          obtain ⟨t_v_5, r_v_5⟩ := tq_add (lo := 128) (hi := 155) rl_128 r_x7 (by decide +kernel) e_v_5
          have t_v_5 : v_5.toInt = 128 + x7.toInt := t_v_5
          have q_v_5 : (128 : Int32) + x7 = v_5 := e_v_5.symm
          refine tg_put (ci := 7) (ts := ty_TAPE) (v := .int v_5) (ty := .int) (C := RX7) (T := TX7) (N := 12) hx hb hts inX7 tyX7 tyX7_ok nmX7 hown hK hw h_p0 rfl rfl 7 (by decide) (hts _ tw_98) (fun _ h9 => h9) rfl (by decide +kernel) rfl rfl (ft := vI (-2147483648) 2147483647) rfl ⟨_, rfl, (r_v_5.to (by decide))⟩ (by decide) dX7_readRun_207 (fun ws H locs hw n_k_6 hF9 => ?_)
          have m_z0_6 := FLD.over hF9 m_z0_6 (by decide)
          have m_u_1 := FLD.over hF9 m_u_1 (by decide)
          obtain ⟨sg_7, q_sg_7⟩ : ∃ q9 : OS, sI s0 7 v_5 = q9 := ⟨_, rfl⟩
          have o_p0 : OV vw_TAPE Ps ws p0 sg_7 := by rw [← q_sg_7]; exact OV.putI (V := vw_TAPE) hF9 n_k_6 o_p0 (by decide)
          obtain ⟨v_8, e_v_8⟩ : ∃ q9 : Int32, q9 = x7 + Int32.ofInt 1 := ⟨_, rfl⟩
          obtain ⟨t_v_8, r_v_8⟩ := tq_add (lo := 1) (hi := 28) r_x7 (show RI (Int32.ofInt 1) 1 1 by unfold RI; decide +kernel) (by decide +kernel) e_v_8
          have t_v_8 : v_8.toInt = x7.toInt + 1 := t_v_8
          refine lv_iinc (v := v_8) (lv' := [(7, .int v_8), (0, .ref p0), (1, .int x1), (2, .int x2), (3, .long x3), (5, .int x5), (6, .int x6)]) hx hb dX7_readRun_210 hl (k := 6) rfl e_v_8.symm (by decide) rfl (fun ls hl => ?_)
          have q_v_8 : x7 + (1 : Int32) = v_8 := by rw [e_v_8, show Int32.ofInt 1 = (1 : Int32) by decide]
          refine lv_goto (tgt := 178) hx hb dX7_readRun_213 (by decide) ?_
          simp only [f_X7_readRun__1_178, ↓reduceIte, q_z0_6, q_z0_7, eq_false c_185, q_w_2, q_v_3, eq_true c_197, q_v_5, q_sg_7, q_v_8] at hE
          exact ih178 x1 x2 x3 x5 x6 v_8 z0_6 v_5 sg_7 ws _ _ ls (by have q0 := r_v_8.1; have u0 := r_v_8.2; have o0 := r_x7.1; have p0 := r_x7.2; omega) r_x1 r_x2 r_x3 r_x5 r_x6 (r_v_8.to (by decide)) r_z0_6 m_z0_6 (r_v_5.to (by decide)) n_k_6 o_p0 hE hw (lv_sub hl [1, 2, 3, 4, 5, 6, 0] rfl)
  have B155 : ∀ (x1 : Int32) (x2 : Int32) (x3 : Int64) (x5 : Int32) (x6 : Int32) (z0_6 : Int32) (z0_7 : Int32) (s0 : OS) (ws : va_W) (H : Heap) (locs : List Loc) (ls : Array Slot), RI x1 (-2147483648) 2147483647 → RI x2 (-2147483648) 2147483647 → RJ x3 (-9223372036854775808) 9223372036854775807 → RI x5 (-2147483648) 2147483647 → RI x6 0 1 → RI z0_6 0 940 → FLD ws p0 7 6 (.int z0_6) → RI z0_7 1 1 → FLD ws p0 7 7 (.int z0_7) → OV vw_TAPE Ps ws p0 s0 → f_X7_readRun__1_155 x1 x2 x3 x5 x6 s0 = R9 → WD D cy GG A s wr_X7_readRun__1 wa_X7_readRun__1 Ps w0 Ps ws H locs → lv_has ls 8 [(0, .ref p0), (1, .int x1), (2, .int x2), (3, .long x3), (5, .int x5), (6, .int x6)] → W p l e (headSpec (Cond.code yX7_readRun cX7_readRun 8 none :: gT) ({ frames := 0, cells := 0, slots := 0, locals := 200 } : Room)).room s m ([.ref p0] : List Value).toArray below meth c H locs 0 0 Q (F0 m 155 ls []) := by
    intro x1 x2 x3 x5 x6 z0_6 z0_7 s0 ws H locs ls r_x1 r_x2 r_x3 r_x5 r_x6 r_z0_6 m_z0_6 r_z0_7 m_z0_7 o_p0 hE hw hl
    have q_z0_6 : s0.1 6 = z0_6 := OV.eqI (V := vw_TAPE) hw.2.2.1 o_p0 m_z0_6 (by decide)
    have q_z0_7 : s0.1 7 = z0_7 := OV.eqI (V := vw_TAPE) hw.2.2.1 o_p0 m_z0_7 (by decide)
    refine lv_iload_n hx hb dX7_readRun_155 rfl (lv_at hl 2 rfl) ?_
    refine lv_if_ne (tgt := 216) hx hb dX7_readRun_156 (by decide) (fun c_156 => ?_) (fun c_156 => ?_)
    · simp only [f_X7_readRun__1_155, ↓reduceIte, q_z0_6, q_z0_7, eq_false c_156] at hE
      subst hQ
      exact W.vret hx hb hr (fun t ht hW => ⟨⟨ws, rfl, ⟨⟨⟨(by rw [hR, ← hE]; exact o_p0), trivial⟩, trivial⟩, hw.1, hw.2.2.2.2.1⟩, by rw [ht]; exact hw.2.1, va_K.moved hW.alike hK, hw.2.2.1⟩, hw.2.2.2.1.F ht⟩) hw.2.2.2.1.2.2 dX7_readRun_216
    · have r_x2 : RI x2 0 0 := rc_eq1 r_x2 rl_0 (ti_eq c_156) (by decide)
      refine lv_iload_n hx hb dX7_readRun_159 rfl (lv_at hl 1 rfl) ?_
      refine lv_bipush (v := 7) hx hb dX7_readRun_160 (by decide) ?_
      refine lv_icmp_gt (tgt := 216) hx hb dX7_readRun_162 (by decide) (fun c_162 => ?_) (fun c_162 => ?_)
      · have r_x1 : RI x1 8 2147483647 := rc_lt2 rl_7 r_x1 (ti_lt c_162) (by decide)
        simp only [f_X7_readRun__1_155, ↓reduceIte, q_z0_6, q_z0_7, eq_true c_156, eq_true c_162] at hE
        subst hQ
        exact W.vret hx hb hr (fun t ht hW => ⟨⟨ws, rfl, ⟨⟨⟨(by rw [hR, ← hE]; exact o_p0), trivial⟩, trivial⟩, hw.1, hw.2.2.2.2.1⟩, by rw [ht]; exact hw.2.1, va_K.moved hW.alike hK, hw.2.2.1⟩, hw.2.2.2.1.F ht⟩) hw.2.2.2.1.2.2 dX7_readRun_216
      · have r_x1 : RI x1 (-2147483648) 7 := rc_le1 r_x1 rl_7 (ti_nlt c_162) (by decide)
        refine lv_aload_n hx hb dX7_readRun_165 rfl (lv_at hl 0 rfl) ?_
        refine lv_iconst (v := 2) hx hb dX7_readRun_166 (by decide) ?_
        refine tg_put (ci := 7) (ts := ty_TAPE) (v := .int 2) (ty := .int) (C := RX7) (T := TX7) (N := 12) hx hb hts inX7 tyX7 tyX7_ok nmX7 hown hK hw h_p0 rfl rfl 7 (by decide) (hts _ tw_98) (fun _ h9 => h9) rfl (by decide +kernel) rfl rfl (ft := vI (-2147483648) 2147483647) rfl ⟨_, rfl, (rl_2.to (by decide))⟩ (by decide) dX7_readRun_167 (fun ws H locs hw n_k_9 hF9 => ?_)
        have m_z0_6 := FLD.over hF9 m_z0_6 (by decide)
        obtain ⟨sg_10, q_sg_10⟩ : ∃ q9 : OS, sI s0 7 (2 : Int32) = q9 := ⟨_, rfl⟩
        have o_p0 : OV vw_TAPE Ps ws p0 sg_10 := by rw [← q_sg_10]; exact OV.putI (V := vw_TAPE) hF9 n_k_9 o_p0 (by decide)
        refine lv_aload_n hx hb dX7_readRun_170 rfl (lv_at hl 0 rfl) ?_
        refine lv_lload_n hx hb dX7_readRun_171 rfl (lv_at hl 3 rfl) ?_
        refine tg_put (ci := 7) (ts := ty_TAPE) (v := .long x3) (ty := .long) (C := RX7) (T := TX7) (N := 12) hx hb hts inX7 tyX7 tyX7_ok nmX7 hown hK hw h_p0 rfl rfl 8 (by decide) (hts _ tw_100) (fun _ h9 => h9) rfl (by decide +kernel) rfl rfl (ft := vJ (-9223372036854775808) 9223372036854775807) rfl ⟨_, rfl, r_x3.to (by decide)⟩ (by decide) dX7_readRun_172 (fun ws H locs hw n_k_11 hF9 => ?_)
        have m_z0_6 := FLD.over hF9 m_z0_6 (by decide)
        have n_k_9 := FLD.over hF9 n_k_9 (by decide)
        obtain ⟨sg_12, q_sg_12⟩ : ∃ q9 : OS, sL sg_10 8 x3 = q9 := ⟨_, rfl⟩
        have o_p0 : OV vw_TAPE Ps ws p0 sg_12 := by rw [← q_sg_12]; exact OV.putL (V := vw_TAPE) hF9 n_k_11 o_p0 (by decide)
        refine lv_iconst (v := 0) hx hb dX7_readRun_175 (by decide) ?_
        refine lv_istore (lv' := [(7, .int 0), (0, .ref p0), (1, .int x1), (2, .int x2), (3, .long x3), (5, .int x5), (6, .int x6)]) hx hb dX7_readRun_176 hl (by decide) rfl (fun ls hl => ?_)
        simp only [f_X7_readRun__1_155, ↓reduceIte, q_z0_6, q_z0_7, eq_true c_156, eq_false c_162, q_sg_10, q_sg_12] at hE
        exact B178 4294967298 x1 x2 x3 x5 x6 0 z0_6 2 sg_12 ws _ _ ls (by have q0 := rl_0.1; have u0 := rl_0.2; omega) r_x1 r_x2 r_x3 r_x5 r_x6 (rl_0.to (by decide)) r_z0_6 m_z0_6 (rl_2.to (by decide)) n_k_9 o_p0 hE hw (lv_sub hl [1, 2, 3, 4, 5, 6, 0] rfl)
  have B127 : ∀ (x1 : Int32) (x2 : Int32) (x3 : Int64) (x5 : Int32) (x6 : Int32) (z0_6 : Int32) (s0 : OS) (ws : va_W) (H : Heap) (locs : List Loc) (ls : Array Slot), RI x1 (-2147483648) 2147483647 → RI x2 (-2147483648) 2147483647 → RJ x3 (-9223372036854775808) 9223372036854775807 → RI x5 (-2147483648) 2147483647 → RI x6 0 1 → RI z0_6 0 940 → FLD ws p0 7 6 (.int z0_6) → OV vw_TAPE Ps ws p0 s0 → f_X7_readRun__1_127 x1 x2 x3 x5 x6 s0 = R9 → WD D cy GG A s wr_X7_readRun__1 wa_X7_readRun__1 Ps w0 Ps ws H locs → lv_has ls 8 [(0, .ref p0), (1, .int x1), (2, .int x2), (3, .long x3), (5, .int x5), (6, .int x6)] → W p l e (headSpec (Cond.code yX7_readRun cX7_readRun 8 none :: gT) ({ frames := 0, cells := 0, slots := 0, locals := 200 } : Room)).room s m ([.ref p0] : List Value).toArray below meth c H locs 0 0 Q (F0 m 127 ls []) := by
    intro x1 x2 x3 x5 x6 z0_6 s0 ws H locs ls r_x1 r_x2 r_x3 r_x5 r_x6 r_z0_6 m_z0_6 o_p0 hE hw hl
    have q_z0_6 : s0.1 6 = z0_6 := OV.eqI (V := vw_TAPE) hw.2.2.1 o_p0 m_z0_6 (by decide)
    refine lv_aload_n hx hb dX7_readRun_127 rfl (lv_at hl 0 rfl) ?_
    refine lv_iconst (v := 1) hx hb dX7_readRun_128 (by decide) ?_
    refine tg_put (ci := 7) (ts := ty_TAPE) (v := .int 1) (ty := .int) (C := RX7) (T := TX7) (N := 12) hx hb hts inX7 tyX7 tyX7_ok nmX7 hown hK hw h_p0 rfl rfl 7 (by decide) (hts _ tw_98) (fun _ h9 => h9) rfl (by decide +kernel) rfl rfl (ft := vI (-2147483648) 2147483647) rfl ⟨_, rfl, (rl_1.to (by decide))⟩ (by decide) dX7_readRun_129 (fun ws H locs hw n_k_13 hF9 => ?_)
    have m_z0_6 := FLD.over hF9 m_z0_6 (by decide)
    obtain ⟨sg_14, q_sg_14⟩ : ∃ q9 : OS, sI s0 7 (1 : Int32) = q9 := ⟨_, rfl⟩
    have o_p0 : OV vw_TAPE Ps ws p0 sg_14 := by rw [← q_sg_14]; exact OV.putI (V := vw_TAPE) hF9 n_k_13 o_p0 (by decide)
    refine lv_iload_n hx hb dX7_readRun_132 rfl (lv_at hl 1 rfl) ?_
    refine lv_if_ne (tgt := 155) hx hb dX7_readRun_133 (by decide) (fun c_133 => ?_) (fun c_133 => ?_)
    · simp only [f_X7_readRun__1_127, ↓reduceIte, q_z0_6, q_sg_14, eq_false c_133] at hE
      exact B155 x1 x2 x3 x5 x6 z0_6 1 sg_14 ws _ _ ls r_x1 r_x2 r_x3 r_x5 r_x6 r_z0_6 m_z0_6 rl_1 n_k_13 o_p0 hE hw hl
    · have r_x1 : RI x1 0 0 := rc_eq1 r_x1 rl_0 (ti_eq c_133) (by decide)
      refine lv_iload_n hx hb dX7_readRun_136 rfl (lv_at hl 2 rfl) ?_
      refine lv_iconst (v := 3) hx hb dX7_readRun_137 (by decide) ?_
      refine lv_icmp_gt (tgt := 155) hx hb dX7_readRun_138 (by decide) (fun c_138 => ?_) (fun c_138 => ?_)
      · have r_x2 : RI x2 4 2147483647 := rc_lt2 rl_3 r_x2 (ti_lt c_138) (by decide)
        simp only [f_X7_readRun__1_127, ↓reduceIte, q_z0_6, q_sg_14, eq_true c_133, eq_true c_138] at hE
        exact B155 x1 x2 x3 x5 x6 z0_6 1 sg_14 ws _ _ ls (r_x1.to (by decide)) (r_x2.to (by decide)) r_x3 r_x5 r_x6 r_z0_6 m_z0_6 rl_1 n_k_13 o_p0 hE hw hl
      · have r_x2 : RI x2 (-2147483648) 3 := rc_le1 r_x2 rl_3 (ti_nlt c_138) (by decide)
        refine lv_aload_n hx hb dX7_readRun_141 rfl (lv_at hl 0 rfl) ?_
        refine lv_iconst (v := 3) hx hb dX7_readRun_142 (by decide) ?_
        refine tg_put (ci := 7) (ts := ty_TAPE) (v := .int 3) (ty := .int) (C := RX7) (T := TX7) (N := 12) hx hb hts inX7 tyX7 tyX7_ok nmX7 hown hK hw h_p0 rfl rfl 7 (by decide) (hts _ tw_98) (fun _ h9 => h9) rfl (by decide +kernel) rfl rfl (ft := vI (-2147483648) 2147483647) rfl ⟨_, rfl, (rl_3.to (by decide))⟩ (by decide) dX7_readRun_143 (fun ws H locs hw n_k_15 hF9 => ?_)
        have m_z0_6 := FLD.over hF9 m_z0_6 (by decide)
        obtain ⟨sg_16, q_sg_16⟩ : ∃ q9 : OS, sI sg_14 7 (3 : Int32) = q9 := ⟨_, rfl⟩
        have o_p0 : OV vw_TAPE Ps ws p0 sg_16 := by rw [← q_sg_16]; exact OV.putI (V := vw_TAPE) hF9 n_k_15 o_p0 (by decide)
        refine lv_aload_n hx hb dX7_readRun_146 rfl (lv_at hl 0 rfl) ?_
        refine lv_iload hx hb dX7_readRun_147 (lv_at hl 4 rfl) ?_
        refine tg_put (ci := 7) (ts := ty_TAPE) (v := .int x5) (ty := .int) (C := RX7) (T := TX7) (N := 12) hx hb hts inX7 tyX7 tyX7_ok nmX7 hown hK hw h_p0 rfl rfl 9 (by decide) (hts _ tw_101) (fun _ h9 => h9) rfl (by decide +kernel) rfl rfl (ft := vI (-2147483648) 2147483647) rfl ⟨_, rfl, r_x5⟩ (by decide) dX7_readRun_149 (fun ws H locs hw n_k_17 hF9 => ?_)
        have m_z0_6 := FLD.over hF9 m_z0_6 (by decide)
        have n_k_15 := FLD.over hF9 n_k_15 (by decide)
        obtain ⟨sg_18, q_sg_18⟩ : ∃ q9 : OS, sI sg_16 9 x5 = q9 := ⟨_, rfl⟩
        have o_p0 : OV vw_TAPE Ps ws p0 sg_18 := by rw [← q_sg_18]; exact OV.putI (V := vw_TAPE) hF9 n_k_17 o_p0 (by decide)
        refine lv_goto (tgt := 216) hx hb dX7_readRun_152 (by decide) ?_
        simp only [f_X7_readRun__1_127, ↓reduceIte, q_z0_6, q_sg_14, eq_true c_133, eq_false c_138, q_sg_16, q_sg_18] at hE
        subst hQ
        exact W.vret hx hb hr (fun t ht hW => ⟨⟨ws, rfl, ⟨⟨⟨(by rw [hR, ← hE]; exact o_p0), trivial⟩, trivial⟩, hw.1, hw.2.2.2.2.1⟩, by rw [ht]; exact hw.2.1, va_K.moved hW.alike hK, hw.2.2.1⟩, hw.2.2.2.1.F ht⟩) hw.2.2.2.1.2.2 dX7_readRun_216
  have B12 : ∀ (nf : Nat) (x1 : Int32) (x2 : Int32) (x3 : Int64) (x5 : Int32) (x6 : Int32) (z0_6 : Int32) (s0 : OS) (ws : va_W) (H : Heap) (locs : List Loc) (ls : Array Slot), 2 * (940 - z0_6.toInt) + x6.toInt < (nf : Int) → RI x1 (-2147483648) 2147483647 → RI x2 (-2147483648) 2147483647 → RJ x3 (-9223372036854775808) 9223372036854775807 → RI x5 (-2147483648) 2147483647 → RI x6 0 1 → RI z0_6 0 940 → FLD ws p0 7 6 (.int z0_6) → OV vw_TAPE Ps ws p0 s0 → f_X7_readRun__1_12 nf x1 x2 x3 x5 x6 s0 = R9 → WD D cy GG A s wr_X7_readRun__1 wa_X7_readRun__1 Ps w0 Ps ws H locs → lv_has ls 8 [(0, .ref p0), (1, .int x1), (2, .int x2), (3, .long x3), (5, .int x5), (6, .int x6)] → W p l e (headSpec (Cond.code yX7_readRun cX7_readRun 8 none :: gT) ({ frames := 0, cells := 0, slots := 0, locals := 200 } : Room)).room s m ([.ref p0] : List Value).toArray below meth c H locs 0 0 Q (F0 m 12 ls []) := by
    intro nf12
    induction nf12 with
    | zero =>
      intro x1 x2 x3 x5 x6 z0_6 s0 ws H locs ls hn12 r_x1 r_x2 r_x3 r_x5 r_x6 r_z0_6 m_z0_6 o_p0 hE hw hl
      exact absurd hn12 (by have q0 := r_x6.1; have u0 := r_x6.2; have q1 := r_z0_6.1; have u1 := r_z0_6.2; omega)
    | succ nf12 ih12 =>
      have B121 : ∀ (x1 : Int32) (x2 : Int32) (x3 : Int64) (x5 : Int32) (x6 : Int32) (x7 : Int32) (z0_2 : Int32) (z0_6 : Int32) (s0 : OS) (ws : va_W) (H : Heap) (locs : List Loc) (ls : Array Slot), RI x1 (-2147483648) 2147483647 → RI x2 (-2147483648) 2147483647 → RJ x3 (-9223372036854775808) 9223372036854775807 → RI x5 (-2147483648) 2147483647 → RI x6 1 1 → RI x7 (-128) 127 → RI z0_2 1 940 → FLD ws p0 7 2 (.int z0_2) → RI z0_6 0 939 → FLD ws p0 7 6 (.int z0_6) → OV vw_TAPE Ps ws p0 s0 → 2 * (940 - z0_6.toInt) + x6.toInt < ((nf12 + 1 : Nat) : Int) → f_X7_readRun__1_121 (f_X7_readRun__1_12 nf12) x1 x2 x3 x5 x6 x7 s0 = R9 → WD D cy GG A s wr_X7_readRun__1 wa_X7_readRun__1 Ps w0 Ps ws H locs → lv_has ls 8 [(0, .ref p0), (1, .int x1), (2, .int x2), (3, .long x3), (5, .int x5), (6, .int x6), (7, .int x7)] → W p l e (headSpec (Cond.code yX7_readRun cX7_readRun 8 none :: gT) ({ frames := 0, cells := 0, slots := 0, locals := 200 } : Room)).room s m ([.ref p0] : List Value).toArray below meth c H locs 0 0 Q (F0 m 121 ls []) := by
        intro x1 x2 x3 x5 x6 x7 z0_2 z0_6 s0 ws H locs ls r_x1 r_x2 r_x3 r_x5 r_x6 r_x7 r_z0_2 m_z0_2 r_z0_6 m_z0_6 o_p0 hn12 hE hw hl
        have q_z0_2 : s0.1 2 = z0_2 := OV.eqI (V := vw_TAPE) hw.2.2.1 o_p0 m_z0_2 (by decide)
        have q_z0_6 : s0.1 6 = z0_6 := OV.eqI (V := vw_TAPE) hw.2.2.1 o_p0 m_z0_6 (by decide)
        refine lv_iconst (v := 0) hx hb dX7_readRun_121 (by decide) ?_
        refine lv_istore (lv' := [(6, .int 0), (0, .ref p0), (1, .int x1), (2, .int x2), (3, .long x3), (5, .int x5), (7, .int x7)]) hx hb dX7_readRun_122 hl (by decide) rfl (fun ls hl => ?_)
        refine lv_goto (tgt := 12) hx hb dX7_readRun_124 (by decide) ?_
        simp only [f_X7_readRun__1_121, ↓reduceIte, q_z0_2, q_z0_6] at hE
        exact ih12 x1 x2 x3 x5 0 z0_6 s0 ws _ _ ls (by have q0 := rl_0.1; have u0 := rl_0.2; have q1 := r_z0_6.1; have u1 := r_z0_6.2; have o0 := r_x6.1; have p0 := r_x6.2; omega) r_x1 r_x2 r_x3 r_x5 (rl_0.to (by decide)) (r_z0_6.to (by decide)) m_z0_6 o_p0 hE hw (lv_sub hl [1, 2, 3, 4, 5, 0] rfl)
      have B78 : ∀ (x1 : Int32) (x2 : Int32) (x3 : Int64) (x5 : Int32) (x6 : Int32) (x7 : Int32) (z0_2 : Int32) (z0_6 : Int32) (s0 : OS) (ws : va_W) (H : Heap) (locs : List Loc) (ls : Array Slot), RI x1 (-2147483648) 2147483647 → RI x2 (-2147483648) 2147483647 → RJ x3 (-9223372036854775808) 9223372036854775807 → RI x5 (-2147483648) 2147483647 → RI x6 1 1 → RI x7 (-128) 127 → RI z0_2 1 940 → FLD ws p0 7 2 (.int z0_2) → RI z0_6 0 939 → FLD ws p0 7 6 (.int z0_6) → OV vw_TAPE Ps ws p0 s0 → 2 * (940 - z0_6.toInt) + x6.toInt < ((nf12 + 1 : Nat) : Int) → f_X7_readRun__1_78 (f_X7_readRun__1_12 nf12) x1 x2 x3 x5 x6 x7 s0 = R9 → WD D cy GG A s wr_X7_readRun__1 wa_X7_readRun__1 Ps w0 Ps ws H locs → lv_has ls 8 [(0, .ref p0), (1, .int x1), (2, .int x2), (3, .long x3), (5, .int x5), (6, .int x6), (7, .int x7)] → W p l e (headSpec (Cond.code yX7_readRun cX7_readRun 8 none :: gT) ({ frames := 0, cells := 0, slots := 0, locals := 200 } : Room)).room s m ([.ref p0] : List Value).toArray below meth c H locs 0 0 Q (F0 m 78 ls []) := by
        intro x1 x2 x3 x5 x6 x7 z0_2 z0_6 s0 ws H locs ls r_x1 r_x2 r_x3 r_x5 r_x6 r_x7 r_z0_2 m_z0_2 r_z0_6 m_z0_6 o_p0 hn12 hE hw hl
        have q_z0_2 : s0.1 2 = z0_2 := OV.eqI (V := vw_TAPE) hw.2.2.1 o_p0 m_z0_2 (by decide)
        have q_z0_6 : s0.1 6 = z0_6 := OV.eqI (V := vw_TAPE) hw.2.2.1 o_p0 m_z0_6 (by decide)
        refine lv_iload hx hb dX7_readRun_78 (lv_at hl 6 rfl) ?_
        refine lv_bipush (v := 48) hx hb dX7_readRun_80 (by decide) ?_
        refine lv_icmp_lt (tgt := 121) hx hb dX7_readRun_82 (by decide) (fun c_82 => ?_) (fun c_82 => ?_)
        · have r_x7 : RI x7 (-128) 47 := rc_lt1 r_x7 rl_48 (ti_lt c_82) (by decide)
          simp only [f_X7_readRun__1_78, ↓reduceIte, q_z0_2, q_z0_6, eq_true c_82] at hE
          exact B121 x1 x2 x3 x5 x6 x7 z0_2 z0_6 s0 ws _ _ ls r_x1 r_x2 r_x3 r_x5 r_x6 (r_x7.to (by decide)) r_z0_2 m_z0_2 r_z0_6 m_z0_6 o_p0 (by have q0 := r_x6.1; have u0 := r_x6.2; have q1 := r_z0_6.1; have u1 := r_z0_6.2; omega) hE hw hl
        · have r_x7 : RI x7 48 127 := rc_le2 rl_48 r_x7 (ti_nlt c_82) (by decide)
          refine lv_iload hx hb dX7_readRun_85 (lv_at hl 6 rfl) ?_
          refine lv_bipush (v := 57) hx hb dX7_readRun_87 (by decide) ?_
          refine lv_icmp_gt (tgt := 121) hx hb dX7_readRun_89 (by decide) (fun c_89 => ?_) (fun c_89 => ?_)
          · have r_x7 : RI x7 58 127 := rc_lt2 rl_57 r_x7 (ti_lt c_89) (by decide)
            simp only [f_X7_readRun__1_78, ↓reduceIte, q_z0_2, q_z0_6, eq_false c_82, eq_true c_89] at hE
            exact B121 x1 x2 x3 x5 x6 x7 z0_2 z0_6 s0 ws _ _ ls r_x1 r_x2 r_x3 r_x5 r_x6 (r_x7.to (by decide)) r_z0_2 m_z0_2 r_z0_6 m_z0_6 o_p0 (by have q0 := r_x6.1; have u0 := r_x6.2; have q1 := r_z0_6.1; have u1 := r_z0_6.2; omega) hE hw hl
          · have r_x7 : RI x7 48 57 := rc_le1 r_x7 rl_57 (ti_nlt c_89) (by decide)
            obtain ⟨v_19, e_v_19⟩ : ∃ q9 : Int32, q9 = x2 + Int32.ofInt 1 := ⟨_, rfl⟩
            have r_v_19 := ri_any v_19
            refine lv_iinc (v := v_19) (lv' := [(2, .int v_19), (0, .ref p0), (1, .int x1), (3, .long x3), (5, .int x5), (6, .int x6), (7, .int x7)]) hx hb dX7_readRun_92 hl (k := 2) rfl e_v_19.symm (by decide) rfl (fun ls hl => ?_)
            have q_v_19 : x2 + (1 : Int32) = v_19 := by rw [e_v_19, show Int32.ofInt 1 = (1 : Int32) by decide]
            refine lv_iload hx hb dX7_readRun_95 (lv_at hl 4 rfl) ?_
            refine lv_bipush (v := 10) hx hb dX7_readRun_97 (by decide) ?_
            refine lv_imul hx hb dX7_readRun_99 (lv_topi (fun v_20 e_v_20 => ?_))
            have r_v_20 := ri_any v_20
            have q_v_20 : x5 * (10 : Int32) = v_20 := e_v_20.symm
            refine lv_iload hx hb dX7_readRun_100 (lv_at hl 6 rfl) ?_
            refine lv_bipush (v := 48) hx hb dX7_readRun_102 (by decide) ?_
            refine lv_isub hx hb dX7_readRun_104 (lv_topi (fun v_21 e_v_21 => ?_))
            obtain ⟨t_v_21, r_v_21⟩ := tq_sub (lo := 0) (hi := 9) r_x7 rl_48 (by decide +kernel) e_v_21
            have t_v_21 : v_21.toInt = x7.toInt - 48 := t_v_21
            have q_v_21 : x7 - (48 : Int32) = v_21 := e_v_21.symm
            refine lv_iadd hx hb dX7_readRun_105 (lv_topi (fun v_22 e_v_22 => ?_))
            have r_v_22 := ri_any v_22
            have q_v_22 : v_20 + v_21 = v_22 := e_v_22.symm
            refine lv_istore (lv' := [(5, .int v_22), (2, .int v_19), (0, .ref p0), (1, .int x1), (3, .long x3), (6, .int x6), (7, .int x7)]) hx hb dX7_readRun_106 hl (by decide) rfl (fun ls hl => ?_)
            refine lv_aload_n hx hb dX7_readRun_108 rfl (lv_at hl 2 rfl) ?_
            refine lv_dup hx hb dX7_readRun_109 rfl ?_
            refine tg_mem (ci := 7) (C := RX7) (T := TX7) (N := 12) hx hb hts inX7 hown hK hw 6 m_z0_6 rfl (by decide) (hts _ tw_94) (fun _ h9 => h9) dX7_readRun_110 ?_
            refine lv_iconst (v := 1) hx hb dX7_readRun_113 (by decide) ?_
            refine lv_iadd hx hb dX7_readRun_114 (lv_topi (fun v_23 e_v_23 => ?_))
            obtain ⟨t_v_23, r_v_23⟩ := tq_add (lo := 1) (hi := 940) r_z0_6 rl_1 (by decide +kernel) e_v_23
            have t_v_23 : v_23.toInt = z0_6.toInt + 1 := t_v_23
            have q_v_23 : z0_6 + (1 : Int32) = v_23 := e_v_23.symm
            refine tg_put (ci := 7) (ts := ty_TAPE) (v := .int v_23) (ty := .int) (C := RX7) (T := TX7) (N := 12) hx hb hts inX7 tyX7 tyX7_ok nmX7 hown hK hw h_p0 rfl rfl 6 (by decide) (hts _ tw_94) (fun _ h9 => h9) rfl (by decide +kernel) rfl rfl (ft := vI 0 940) rfl ⟨_, rfl, (r_v_23.to (by decide))⟩ (by decide) dX7_readRun_115 (fun ws H locs hw n_k_24 hF9 => ?_)
            have m_z0_2 := FLD.over hF9 m_z0_2 (by decide)
            obtain ⟨sg_25, q_sg_25⟩ : ∃ q9 : OS, sI s0 6 v_23 = q9 := ⟨_, rfl⟩
            have o_p0 : OV vw_TAPE Ps ws p0 sg_25 := by rw [← q_sg_25]; exact OV.putI (V := vw_TAPE) hF9 n_k_24 o_p0 (by decide)
            refine lv_goto (tgt := 124) hx hb dX7_readRun_118 (by decide) ?_
            refine lv_goto (tgt := 12) hx hb dX7_readRun_124 (by decide) ?_
            simp only [f_X7_readRun__1_78, ↓reduceIte, q_z0_2, q_z0_6, eq_false c_82, eq_false c_89, q_v_19, q_v_20, q_v_21, q_v_22, q_v_23, q_sg_25] at hE
            exact ih12 x1 v_19 x3 v_22 x6 v_23 sg_25 ws _ _ ls (by have q0 := r_x6.1; have u0 := r_x6.2; have q1 := r_v_23.1; have u1 := r_v_23.2; have o1 := r_z0_6.1; have p1 := r_z0_6.2; omega) r_x1 r_v_19 r_x3 r_v_22 (r_x6.to (by decide)) (r_v_23.to (by decide)) n_k_24 o_p0 hE hw (lv_sub hl [2, 3, 1, 4, 0, 5] rfl)
      intro x1 x2 x3 x5 x6 z0_6 s0 ws H locs ls hn12 r_x1 r_x2 r_x3 r_x5 r_x6 r_z0_6 m_z0_6 o_p0 hE hw hl
      have q_z0_6 : s0.1 6 = z0_6 := OV.eqI (V := vw_TAPE) hw.2.2.1 o_p0 m_z0_6 (by decide)
      refine lv_iload hx hb dX7_readRun_12 (lv_at hl 5 rfl) ?_
      refine lv_if_eq (tgt := 127) hx hb dX7_readRun_14 (by decide) (fun c_14 => ?_) (fun c_14 => ?_)
      · have r_x6 : RI x6 0 0 := rc_eq1 r_x6 rl_0 (ti_eq c_14) (by decide)
        simp only [f_X7_readRun__1_12, ↓reduceIte, q_z0_6, eq_true c_14] at hE
        exact B127 x1 x2 x3 x5 x6 z0_6 s0 ws _ _ ls r_x1 r_x2 r_x3 r_x5 (r_x6.to (by decide)) r_z0_6 m_z0_6 o_p0 hE hw hl
      · have r_x6 : RI x6 1 1 := rc_neL r_x6 rl_0 (ti_ne c_14) (by decide)
        refine lv_aload_n hx hb dX7_readRun_17 rfl (lv_at hl 0 rfl) ?_
        refine tg_mem (ci := 7) (C := RX7) (T := TX7) (N := 12) hx hb hts inX7 hown hK hw 6 m_z0_6 rfl (by decide) (hts _ tw_94) (fun _ h9 => h9) dX7_readRun_18 ?_
        refine lv_aload_n hx hb dX7_readRun_21 rfl (lv_at hl 0 rfl) ?_
        refine tg_get (ci := 7) (ts := ty_TAPE) (C := RX7) (T := TX7) (N := 12) hx hb hts inX7 hown hK hw h_p0 rfl rfl 2 (by decide) (hts _ tw_89) (fun _ h9 => h9) (ft := vI 0 940) rfl dX7_readRun_22 (fun u_26 hv_u_26 m_u_26 => ?_)
        obtain ⟨vu_26, rfl, r_vu_26⟩ := hv_u_26
        have q_vu_26 : s0.1 2 = vu_26 := OV.eqI (V := vw_TAPE) hw.2.2.1 o_p0 m_u_26 (by decide)
        refine lv_icmp_ge (tgt := 127) hx hb dX7_readRun_25 (by decide) (fun c_25 => ?_) (fun c_25 => ?_)
        · simp only [f_X7_readRun__1_12, ↓reduceIte, q_z0_6, eq_false c_14, q_vu_26, eq_true c_25] at hE
          exact B127 x1 x2 x3 x5 x6 z0_6 s0 ws _ _ ls r_x1 r_x2 r_x3 r_x5 (r_x6.to (by decide)) r_z0_6 m_z0_6 o_p0 hE hw hl
        · have r_z0_6 : RI z0_6 0 939 := rc_lt1 r_z0_6 r_vu_26 (ti_nle c_25) (by decide)
          have r_vu_26 : RI vu_26 1 940 := rc_lt2 r_z0_6 r_vu_26 (ti_nle c_25) (by decide)
          refine lv_aload_n hx hb dX7_readRun_28 rfl (lv_at hl 0 rfl) ?_
          refine tg_get (ci := 7) (ts := ty_TAPE) (C := RX7) (T := TX7) (N := 12) hx hb hts inX7 hown hK hw h_p0 rfl rfl 0 (by decide) (hts _ tw_87) (fun _ h9 => h9) (ft := vR 2) rfl dX7_readRun_29 (fun u_27 hv_u_27 m_u_27 => ?_)
          obtain ⟨vu_27, rfl, h_vu_27⟩ := hv_u_27
          refine lv_aload_n hx hb dX7_readRun_32 rfl (lv_at hl 0 rfl) ?_
          refine tg_mem (ci := 7) (C := RX7) (T := TX7) (N := 12) hx hb hts inX7 hown hK hw 6 m_z0_6 rfl (by decide) (hts _ tw_94) (fun _ h9 => h9) dX7_readRun_33 ?_
          refine tg_baldE (lo := (-128)) (hi := 127) hx hb hK hw h_vu_27 rfl 0 939 r_z0_6 (by decide) (by exact fun _ _ _ => ⟨Int.le_refl _, Int.le_refl _⟩) dX7_readRun_36 (fun v_28 r_v_28 l_v_28 => ?_)
          have q_v_28 : s0.2.2.1 0 (Int32.toNatClampNeg z0_6) = v_28 := OV.eqA (V := vw_TAPE) (t := 2) hw.2.2.1 o_p0 m_u_27 l_v_28 (by decide)
          refine lv_istore (lv' := [(7, .int v_28), (0, .ref p0), (1, .int x1), (2, .int x2), (3, .long x3), (5, .int x5), (6, .int x6)]) hx hb dX7_readRun_37 hl (by decide) rfl (fun ls hl => ?_)
          refine lv_iload hx hb dX7_readRun_39 (lv_at hl 0 rfl) ?_
          refine lv_bipush (v := 97) hx hb dX7_readRun_41 (by decide) ?_
          refine lv_icmp_lt (tgt := 78) hx hb dX7_readRun_43 (by decide) (fun c_43 => ?_) (fun c_43 => ?_)
          · have r_v_28 : RI v_28 (-128) 96 := rc_lt1 r_v_28 rl_97 (ti_lt c_43) (by decide)
            simp only [f_X7_readRun__1_12, ↓reduceIte, q_z0_6, eq_false c_14, q_vu_26, eq_false c_25, q_v_28, eq_true c_43] at hE
            exact B78 x1 x2 x3 x5 x6 v_28 vu_26 z0_6 s0 ws _ _ ls r_x1 r_x2 r_x3 r_x5 r_x6 (r_v_28.to (by decide)) r_vu_26 m_u_26 r_z0_6 m_z0_6 o_p0 (by have q0 := r_x6.1; have u0 := r_x6.2; have q1 := r_z0_6.1; have u1 := r_z0_6.2; omega) hE hw (lv_sub hl [1, 2, 3, 4, 5, 6, 0] rfl)
          · have r_v_28 : RI v_28 97 127 := rc_le2 rl_97 r_v_28 (ti_nlt c_43) (by decide)
            refine lv_iload hx hb dX7_readRun_46 (lv_at hl 0 rfl) ?_
            refine lv_bipush (v := 122) hx hb dX7_readRun_48 (by decide) ?_
            refine lv_icmp_gt (tgt := 78) hx hb dX7_readRun_50 (by decide) (fun c_50 => ?_) (fun c_50 => ?_)
            · have r_v_28 : RI v_28 123 127 := rc_lt2 rl_122 r_v_28 (ti_lt c_50) (by decide)
              simp only [f_X7_readRun__1_12, ↓reduceIte, q_z0_6, eq_false c_14, q_vu_26, eq_false c_25, q_v_28, eq_false c_43, eq_true c_50] at hE
              exact B78 x1 x2 x3 x5 x6 v_28 vu_26 z0_6 s0 ws _ _ ls r_x1 r_x2 r_x3 r_x5 r_x6 (r_v_28.to (by decide)) r_vu_26 m_u_26 r_z0_6 m_z0_6 o_p0 (by have q0 := r_x6.1; have u0 := r_x6.2; have q1 := r_z0_6.1; have u1 := r_z0_6.2; omega) hE hw (lv_sub hl [1, 2, 3, 4, 5, 6, 0] rfl)
            · have r_v_28 : RI v_28 97 122 := rc_le1 r_v_28 rl_122 (ti_nlt c_50) (by decide)
              obtain ⟨v_29, e_v_29⟩ : ∃ q9 : Int32, q9 = x1 + Int32.ofInt 1 := ⟨_, rfl⟩
              have r_v_29 := ri_any v_29
              refine lv_iinc (v := v_29) (lv' := [(1, .int v_29), (7, .int v_28), (0, .ref p0), (2, .int x2), (3, .long x3), (5, .int x5), (6, .int x6)]) hx hb dX7_readRun_53 hl (k := 2) rfl e_v_29.symm (by decide) rfl (fun ls hl => ?_)
              have q_v_29 : x1 + (1 : Int32) = v_29 := by rw [e_v_29, show Int32.ofInt 1 = (1 : Int32) by decide]
              refine lv_lload_n hx hb dX7_readRun_56 rfl (lv_at hl 4 rfl) ?_
              refine lv_bipush (v := 8) hx hb dX7_readRun_57 (by decide) ?_
              obtain ⟨w_30, e_w_30⟩ : ∃ q9 : Int64, (x3 : Int64) <<< ((8 : Int32).toInt64 &&& 63) = q9 := ⟨_, rfl⟩
              refine lv_lshl (v := w_30) hx hb dX7_readRun_59 e_w_30 ?_
              have r_w_30 := rj_any w_30
              have q_w_30 : x3 <<< (Int32.toInt64 (8 : Int32) &&& 63) = w_30 := e_w_30
              refine lv_iload hx hb dX7_readRun_60 (lv_at hl 1 rfl) ?_
              obtain ⟨w_31, e_w_31⟩ : ∃ q9 : Int64, (v_28 : Int32).toInt64 = q9 := ⟨_, rfl⟩
              refine lv_i2l (v := w_31) hx hb dX7_readRun_62 e_w_31 ?_
              have r_w_31 := tq_i2l r_v_28 e_w_31
              have q_w_31 : Int32.toInt64 v_28 = w_31 := e_w_31
              refine lv_lor hx hb dX7_readRun_63 (lv_topl (fun w_32 e_w_32 => ?_))
              have r_w_32 := rj_any w_32
              have q_w_32 : w_30 ||| w_31 = w_32 := e_w_32.symm
              refine lv_lstore_n (lv' := [(3, .long w_32), (1, .int v_29), (7, .int v_28), (0, .ref p0), (2, .int x2), (5, .int x5), (6, .int x6)]) hx hb dX7_readRun_64 rfl hl (by decide) rfl (fun ls hl => ?_)
              refine lv_aload_n hx hb dX7_readRun_65 rfl (lv_at hl 3 rfl) ?_
              refine lv_dup hx hb dX7_readRun_66 rfl ?_
              refine tg_mem (ci := 7) (C := RX7) (T := TX7) (N := 12) hx hb hts inX7 hown hK hw 6 m_z0_6 rfl (by decide) (hts _ tw_94) (fun _ h9 => h9) dX7_readRun_67 ?_
              refine lv_iconst (v := 1) hx hb dX7_readRun_70 (by decide) ?_
              refine lv_iadd hx hb dX7_readRun_71 (lv_topi (fun v_33 e_v_33 => ?_))
              obtain ⟨t_v_33, r_v_33⟩ := tq_add (lo := 1) (hi := 940) r_z0_6 rl_1 (by decide +kernel) e_v_33
              have t_v_33 : v_33.toInt = z0_6.toInt + 1 := t_v_33
              have q_v_33 : z0_6 + (1 : Int32) = v_33 := e_v_33.symm
              refine tg_put (ci := 7) (ts := ty_TAPE) (v := .int v_33) (ty := .int) (C := RX7) (T := TX7) (N := 12) hx hb hts inX7 tyX7 tyX7_ok nmX7 hown hK hw h_p0 rfl rfl 6 (by decide) (hts _ tw_94) (fun _ h9 => h9) rfl (by decide +kernel) rfl rfl (ft := vI 0 940) rfl ⟨_, rfl, (r_v_33.to (by decide))⟩ (by decide) dX7_readRun_72 (fun ws H locs hw n_k_34 hF9 => ?_)
              have m_u_26 := FLD.over hF9 m_u_26 (by decide)
              have m_u_27 := FLD.over hF9 m_u_27 (by decide)
              obtain ⟨sg_35, q_sg_35⟩ : ∃ q9 : OS, sI s0 6 v_33 = q9 := ⟨_, rfl⟩
              have o_p0 : OV vw_TAPE Ps ws p0 sg_35 := by rw [← q_sg_35]; exact OV.putI (V := vw_TAPE) hF9 n_k_34 o_p0 (by decide)
              refine lv_goto (tgt := 124) hx hb dX7_readRun_75 (by decide) ?_
              refine lv_goto (tgt := 12) hx hb dX7_readRun_124 (by decide) ?_
              simp only [f_X7_readRun__1_12, ↓reduceIte, q_z0_6, eq_false c_14, q_vu_26, eq_false c_25, q_v_28, eq_false c_43, eq_false c_50, q_v_29, q_w_30, q_w_31, q_w_32, q_v_33, q_sg_35] at hE
              exact ih12 v_29 x2 w_32 x5 x6 v_33 sg_35 ws _ _ ls (by have q0 := r_x6.1; have u0 := r_x6.2; have q1 := r_v_33.1; have u1 := r_v_33.2; have o1 := r_z0_6.1; have p1 := r_z0_6.2; omega) r_v_29 r_x2 r_w_32 r_x5 (r_x6.to (by decide)) (r_v_33.to (by decide)) n_k_34 o_p0 hE hw (lv_sub hl [3, 1, 4, 0, 5, 6] rfl)
  refine lv_iconst (v := 0) hx hb dX7_readRun_0 (by decide) ?_
  refine lv_istore_n (lv' := [(1, .int 0), (0, .ref p0)]) hx hb dX7_readRun_1 rfl hl (by decide) rfl (fun ls hl => ?_)
  refine lv_iconst (v := 0) hx hb dX7_readRun_2 (by decide) ?_
  refine lv_istore_n (lv' := [(2, .int 0), (1, .int 0), (0, .ref p0)]) hx hb dX7_readRun_3 rfl hl (by decide) rfl (fun ls hl => ?_)
  refine lv_lconst (v := 0) hx hb dX7_readRun_4 (by decide) ?_
  refine lv_lstore_n (lv' := [(3, .long 0), (2, .int 0), (1, .int 0), (0, .ref p0)]) hx hb dX7_readRun_5 rfl hl (by decide) rfl (fun ls hl => ?_)
  refine lv_iconst (v := 0) hx hb dX7_readRun_6 (by decide) ?_
  refine lv_istore (lv' := [(5, .int 0), (3, .long 0), (2, .int 0), (1, .int 0), (0, .ref p0)]) hx hb dX7_readRun_7 hl (by decide) rfl (fun ls hl => ?_)
  refine lv_iconst (v := 1) hx hb dX7_readRun_9 (by decide) ?_
  refine lv_istore (lv' := [(6, .int 1), (5, .int 0), (3, .long 0), (2, .int 0), (1, .int 0), (0, .ref p0)]) hx hb dX7_readRun_10 hl (by decide) rfl (fun ls hl => ?_)
  simp only [f_X7_readRun__1, ↓reduceIte] at hE
  obtain ⟨v_36, m_v_36, r_v_36⟩ := tg_fld (k := 6) (ci := 7) (ts := ty_TAPE) (lo := 0) (hi := 940) hw h_p0 rfl rfl
  exact B12 4294967298 0 0 0 0 1 v_36 s0 w0 _ _ ls (by have q0 := rl_1.1; have u0 := rl_1.2; have q1 := r_v_36.1; have u1 := r_v_36.2; omega) (rl_0.to (by decide)) (rl_0.to (by decide)) (rk_0.to (by decide)) (rl_0.to (by decide)) (rl_1.to (by decide)) r_v_36 m_v_36 o_p0 hE hw (lv_sub hl [5, 4, 3, 2, 1, 0] rfl)
abbrev wr_X7_isBlank__1 : List (Nat × Nat) := []
abbrev wa_X7_isBlank__1 : List Nat := []
set_option maxHeartbeats 4000000 in
set_option maxRecDepth 100000 in
theorem c_X7_isBlank__1 (l : Launch) (D : va_G) (cy : Nat → ClassId) (z : Nat → Nat) (sz : Nat) (Ps : PSI) (w0 : va_W) (hT : HT cy GG Ps w0) (p0 : Int32) (r_p0 : RI p0 (-2147483648) 2147483647) : Met l yX7_isBlank (Cond.code yX7_isBlank cX7_isBlank 1 (some .boolean) :: gT) ({ frames := 0, cells := 0, slots := 0, locals := 200 } : Room) (va_Pc [.int p0] (PRE D cy z w0 sz)) (va_Qi (fun (r : Int32) (u : Unit) => ((f_X7_isBlank__1 p0) = r ∧ True) ∧ (RI r 0 1 ∧ (r = 0 → True) ∧ (¬ r = 0 → RI p0 10 32 ∧ True))) (BB D cy (va_A w0 sz) (fun (u : Unit) => w0)) (va_A w0 sz)) 0 0 (va_A w0 sz) := by
  refine Met.ofW (cc := cX7_isBlank) (maxL := 1) (ret := (some .boolean)) (by decide) rfl ?_
  intro p e s m args below meth c s₁ B hml hv
  obtain ⟨rfl, hsz, hP, hK, hD0, hSD⟩ := hv
  have hx := B.exec
  have hb := B.bytes
  have hr := B.returns
  have hlocks := B.notSynchronized
  have hts : ∀ w ∈ gT, w.before _ s = true := fun w h => atoms_spec (ws := Cond.code yX7_isBlank cX7_isBlank 1 (some .boolean) :: gT) B.pre w (List.mem_cons_of_mem _ h)
  have hown : s.vm.findClass RX7 = some m.cls := findClass_of_methodNamed B.named
  subst hsz
  have hD := hD0.self (sz := s.heap.size)
  generalize hAe : va_A w0 s.heap.size = A at hD hSD ⊢
  have hA : ∀ q : Nat, s.heap.size ≤ q → A q := fun q h => by rw [← hAe]; exact Or.inr h
  have hl := lv_entry ([.int p0]) (n := 1) (Nat.le_of_ble_eq_true rfl)
  rw [lg_entry_eq]
  generalize (lg_sl ([.int p0]) ++ List.replicate (1 - (lg_sl ([.int p0])).length) Slot.unset).toArray = ls at hl ⊢
  have hl : lv_has ls 1 [(0, .int p0)] := hl
  refine nameQ (fun Q hQ => ?_)
  have hw : WD D cy GG A s wr_X7_isBlank__1 wa_X7_isBlank__1 Ps w0 Ps w0 s.heap [] := ⟨hT, hP, hD, va_S.rf, FR.rf, hT.1, [], (List.append_nil _).symm⟩
  obtain ⟨R9, hR⟩ : ∃ q9 : Int32, f_X7_isBlank__1 p0 = q9 := ⟨_, rfl⟩
  have hE := hR
  refine lv_iload_n hx hb dX7_isBlank_0 rfl (lv_at hl 0 rfl) ?_
  refine lv_bipush (v := 32) hx hb dX7_isBlank_1 (by decide) ?_
  refine lv_icmp_eq (tgt := 12) hx hb dX7_isBlank_3 (by decide) (fun c_3 => ?_) (fun c_3 => ?_)
  · have r_p0 : RI p0 32 32 := rc_eq1 r_p0 rl_32 (ti_eq c_3) (by decide)
    refine lv_iconst (v := 1) hx hb dX7_isBlank_12 (by decide) ?_
    refine lv_goto (tgt := 17) hx hb dX7_isBlank_13 (by decide) ?_
    simp only [f_X7_isBlank__1, ↓reduceIte, eq_true c_3] at hE
    subst hQ
    exact W.zret (v := 1) hx hb hr (rfl) (fun t ht hW => ⟨⟨1, (), rfl, ⟨⟨(by rw [hR, ← hE]), trivial⟩, rl_1.to (by decide), (fun _ => trivial), (fun h0 => ⟨(r_p0.to (by decide)), trivial⟩)⟩, by rw [ht]; exact hw.2.1, va_K.moved hW.alike hK, hw.2.2.1⟩, hw.2.2.2.1.F ht⟩) hw.2.2.2.1.2.2 dX7_isBlank_17
  · refine lv_iload_n hx hb dX7_isBlank_6 rfl (lv_at hl 0 rfl) ?_
    refine lv_bipush (v := 10) hx hb dX7_isBlank_7 (by decide) ?_
    refine lv_icmp_ne (tgt := 16) hx hb dX7_isBlank_9 (by decide) (fun c_9 => ?_) (fun c_9 => ?_)
    · refine lv_iconst (v := 0) hx hb dX7_isBlank_16 (by decide) ?_
      simp only [f_X7_isBlank__1, ↓reduceIte, eq_false c_3, eq_false c_9] at hE
      subst hQ
      exact W.zret (v := 0) hx hb hr (rfl) (fun t ht hW => ⟨⟨0, (), rfl, ⟨⟨(by rw [hR, ← hE]), trivial⟩, rl_0.to (by decide), (fun h0 => trivial), (fun h0 => absurd rfl h0)⟩, by rw [ht]; exact hw.2.1, va_K.moved hW.alike hK, hw.2.2.1⟩, hw.2.2.2.1.F ht⟩) hw.2.2.2.1.2.2 dX7_isBlank_17
    · have r_p0 : RI p0 10 10 := rc_eq1 r_p0 rl_10 (ti_eq c_9) (by decide)
      refine lv_iconst (v := 1) hx hb dX7_isBlank_12 (by decide) ?_
      refine lv_goto (tgt := 17) hx hb dX7_isBlank_13 (by decide) ?_
      simp only [f_X7_isBlank__1, ↓reduceIte, eq_false c_3, eq_true c_9] at hE
      subst hQ
      exact W.zret (v := 1) hx hb hr (rfl) (fun t ht hW => ⟨⟨1, (), rfl, ⟨⟨(by rw [hR, ← hE]), trivial⟩, rl_1.to (by decide), (fun _ => trivial), (fun h0 => ⟨(r_p0.to (by decide)), trivial⟩)⟩, by rw [ht]; exact hw.2.1, va_K.moved hW.alike hK, hw.2.2.1⟩, hw.2.2.2.1.F ht⟩) hw.2.2.2.1.2.2 dX7_isBlank_17
abbrev wr_X7_pass__5 : List (Nat × Nat) := [(7, 5), (7, 6), (7, 7), (7, 8), (7, 9)]
abbrev wa_X7_pass__5 : List Nat := []
set_option maxHeartbeats 4000000 in
set_option maxRecDepth 100000 in
theorem c_X7_pass__5 (l : Launch) (D : va_G) (cy : Nat → ClassId) (z : Nat → Nat) (sz : Nat) (Ps : PSI) (w0 : va_W) (hT : HT cy GG Ps w0) (p0 : Nat) (f0_10 : Int32) (s0 : OS) (h_p0 : (p0, 26) ∈ Ps) (r_f0_10 : RI f0_10 0 0) (m_f0_10 : FLD w0 p0 7 10 (.int f0_10)) (o_p0 : OV vw_TAPE Ps w0 p0 s0) : Met l yX7_pass (Cond.code yX7_pass cX7_pass 2 none :: gT) ({ frames := 2, cells := 0, slots := 0, locals := 400 } : Room) (va_Pc [.ref p0] (PRE D cy z w0 sz)) (va_Qv (fun (u : va_W) => ((OV vw_TAPE Ps u p0 ((f_X7_pass__5 s0)) ∧ True) ∧ ((∃ v9 : Int32, FLD u p0 7 10 (.int v9) ∧ RI v9 0 0) ∧ True)) ∧ HT cy GG Ps u ∧ FR wr_X7_pass__5 wa_X7_pass__5 Ps w0 u) (BB D cy (va_A w0 sz) (fun (u : va_W) => u)) (va_A w0 sz)) 0 0 (va_A w0 sz) := by
  refine Met.ofW (cc := cX7_pass) (maxL := 2) (ret := none) (by decide) rfl ?_
  intro p e s m args below meth c s₁ B hml hv
  obtain ⟨rfl, hsz, hP, hK, hD0, hSD⟩ := hv
  have hx := B.exec
  have hb := B.bytes
  have hr := B.returns
  have hlocks := B.notSynchronized
  have hts : ∀ w ∈ gT, w.before _ s = true := fun w h => atoms_spec (ws := Cond.code yX7_pass cX7_pass 2 none :: gT) B.pre w (List.mem_cons_of_mem _ h)
  have hown : s.vm.findClass RX7 = some m.cls := findClass_of_methodNamed B.named
  subst hsz
  have hD := hD0.self (sz := s.heap.size)
  generalize hAe : va_A w0 s.heap.size = A at hD hSD ⊢
  have hA : ∀ q : Nat, s.heap.size ≤ q → A q := fun q h => by rw [← hAe]; exact Or.inr h
  have hl := lv_entry ([.ref p0]) (n := 2) (Nat.le_of_ble_eq_true rfl)
  rw [lg_entry_eq]
  generalize (lg_sl ([.ref p0]) ++ List.replicate (2 - (lg_sl ([.ref p0])).length) Slot.unset).toArray = ls at hl ⊢
  have hl : lv_has ls 2 [(0, .ref p0)] := hl
  refine nameQ (fun Q hQ => ?_)
  have hw : WD D cy GG A s wr_X7_pass__5 wa_X7_pass__5 Ps w0 Ps w0 s.heap [] := ⟨hT, hP, hD, va_S.rf, FR.rf, hT.1, [], (List.append_nil _).symm⟩
  obtain ⟨R9, hR⟩ : ∃ q9 : OS, f_X7_pass__5 s0 = q9 := ⟨_, rfl⟩
  have hE := hR
  have B142 : ∀ (x1 : Int32) (y0 : Int32) (z0_3 : Int32) (z0_5 : Int32) (z0_6 : Int32) (z0_10 : Int32) (s0 : OS) (ws : va_W) (H : Heap) (locs : List Loc) (ls : Array Slot), RI x1 (-128) 127 → RI y0 1 62 → RI z0_3 1 940 → FLD ws p0 7 3 (.int z0_3) → RI z0_5 0 939 → FLD ws p0 7 5 (.int z0_5) → RI z0_6 0 939 → FLD ws p0 7 6 (.int z0_6) → RI z0_10 0 0 → FLD ws p0 7 10 (.int z0_10) → OV vw_TAPE Ps ws p0 s0 → f_X7_pass__5_142 x1 y0 s0 = R9 → WD D cy GG A s wr_X7_pass__5 wa_X7_pass__5 Ps w0 Ps ws H locs → lv_has ls 2 [(0, .ref p0), (1, .int x1)] → W p l e (headSpec (Cond.code yX7_pass cX7_pass 2 none :: gT) ({ frames := 2, cells := 0, slots := 0, locals := 400 } : Room)).room s m ([.ref p0] : List Value).toArray below meth c H locs 0 0 Q (F0 m 142 ls [.int y0, .ref p0]) := by
    intro x1 y0 z0_3 z0_5 z0_6 z0_10 s0 ws H locs ls r_x1 r_y0 r_z0_3 m_z0_3 r_z0_5 m_z0_5 r_z0_6 m_z0_6 r_z0_10 m_z0_10 o_p0 hE hw hl
    have q_z0_3 : s0.1 3 = z0_3 := OV.eqI (V := vw_TAPE) hw.2.2.1 o_p0 m_z0_3 (by decide)
    have q_z0_5 : s0.1 5 = z0_5 := OV.eqI (V := vw_TAPE) hw.2.2.1 o_p0 m_z0_5 (by decide)
    have q_z0_6 : s0.1 6 = z0_6 := OV.eqI (V := vw_TAPE) hw.2.2.1 o_p0 m_z0_6 (by decide)
    have q_z0_10 : s0.1 10 = z0_10 := OV.eqI (V := vw_TAPE) hw.2.2.1 o_p0 m_z0_10 (by decide)
    refine tg_put (ci := 7) (ts := ty_TAPE) (v := .int y0) (ty := .int) (C := RX7) (T := TX7) (N := 12) hx hb hts inX7 tyX7 tyX7_ok nmX7 hown hK hw h_p0 rfl rfl 7 (by decide) (hts _ tw_98) (fun _ h9 => h9) rfl (by decide +kernel) rfl rfl (ft := vI (-2147483648) 2147483647) rfl ⟨_, rfl, (r_y0.to (by decide))⟩ (by decide) dX7_pass_142 (fun ws H locs hw n_k_1 hF9 => ?_)
    have m_z0_3 := FLD.over hF9 m_z0_3 (by decide)
    have m_z0_5 := FLD.over hF9 m_z0_5 (by decide)
    have m_z0_6 := FLD.over hF9 m_z0_6 (by decide)
    have m_z0_10 := FLD.over hF9 m_z0_10 (by decide)
    obtain ⟨sg_2, q_sg_2⟩ : ∃ q9 : OS, sI s0 7 y0 = q9 := ⟨_, rfl⟩
    have o_p0 : OV vw_TAPE Ps ws p0 sg_2 := by rw [← q_sg_2]; exact OV.putI (V := vw_TAPE) hF9 n_k_1 o_p0 (by decide)
    refine lv_aload_n hx hb dX7_pass_145 rfl (lv_at hl 0 rfl) ?_
    refine lv_dup hx hb dX7_pass_146 rfl ?_
    refine tg_mem (ci := 7) (C := RX7) (T := TX7) (N := 12) hx hb hts inX7 hown hK hw 6 m_z0_6 rfl (by decide) (hts _ tw_94) (fun _ h9 => h9) dX7_pass_147 ?_
    refine lv_iconst (v := 1) hx hb dX7_pass_150 (by decide) ?_
    refine lv_iadd hx hb dX7_pass_151 (lv_topi (fun v_3 e_v_3 => ?_))
    obtain ⟨t_v_3, r_v_3⟩ := tq_add (lo := 1) (hi := 940) r_z0_6 rl_1 (by decide +kernel) e_v_3
    have t_v_3 : v_3.toInt = z0_6.toInt + 1 := t_v_3
    have q_v_3 : z0_6 + (1 : Int32) = v_3 := e_v_3.symm
    refine tg_put (ci := 7) (ts := ty_TAPE) (v := .int v_3) (ty := .int) (C := RX7) (T := TX7) (N := 12) hx hb hts inX7 tyX7 tyX7_ok nmX7 hown hK hw h_p0 rfl rfl 6 (by decide) (hts _ tw_94) (fun _ h9 => h9) rfl (by decide +kernel) rfl rfl (ft := vI 0 940) rfl ⟨_, rfl, (r_v_3.to (by decide))⟩ (by decide) dX7_pass_152 (fun ws H locs hw n_k_4 hF9 => ?_)
    have m_z0_3 := FLD.over hF9 m_z0_3 (by decide)
    have m_z0_5 := FLD.over hF9 m_z0_5 (by decide)
    have m_z0_10 := FLD.over hF9 m_z0_10 (by decide)
    have n_k_1 := FLD.over hF9 n_k_1 (by decide)
    obtain ⟨sg_5, q_sg_5⟩ : ∃ q9 : OS, sI sg_2 6 v_3 = q9 := ⟨_, rfl⟩
    have o_p0 : OV vw_TAPE Ps ws p0 sg_5 := by rw [← q_sg_5]; exact OV.putI (V := vw_TAPE) hF9 n_k_4 o_p0 (by decide)
    simp only [f_X7_pass__5_142, ↓reduceIte, q_z0_3, q_z0_5, q_z0_6, q_z0_10, q_sg_2, q_v_3, q_sg_5] at hE
    subst hQ
    exact W.vret hx hb hr (fun t ht hW => ⟨⟨ws, rfl, ⟨⟨⟨(by rw [hR, ← hE]; exact o_p0), trivial⟩, ⟨⟨_, m_z0_10, r_z0_10⟩, trivial⟩⟩, hw.1, hw.2.2.2.2.1⟩, by rw [ht]; exact hw.2.1, va_K.moved hW.alike hK, hw.2.2.1⟩, hw.2.2.2.1.F ht⟩) hw.2.2.2.1.2.2 dX7_pass_155
  have B129 : ∀ (x1 : Int32) (z0_3 : Int32) (z0_5 : Int32) (z0_6 : Int32) (z0_10 : Int32) (s0 : OS) (ws : va_W) (H : Heap) (locs : List Loc) (ls : Array Slot), RI x1 (-128) 127 → RI z0_3 1 940 → FLD ws p0 7 3 (.int z0_3) → RI z0_5 0 939 → FLD ws p0 7 5 (.int z0_5) → RI z0_6 0 939 → FLD ws p0 7 6 (.int z0_6) → RI z0_10 0 0 → FLD ws p0 7 10 (.int z0_10) → OV vw_TAPE Ps ws p0 s0 → f_X7_pass__5_129 x1 s0 = R9 → WD D cy GG A s wr_X7_pass__5 wa_X7_pass__5 Ps w0 Ps ws H locs → lv_has ls 2 [(0, .ref p0), (1, .int x1)] → W p l e (headSpec (Cond.code yX7_pass cX7_pass 2 none :: gT) ({ frames := 2, cells := 0, slots := 0, locals := 400 } : Room)).room s m ([.ref p0] : List Value).toArray below meth c H locs 0 0 Q (F0 m 129 ls []) := by
    intro x1 z0_3 z0_5 z0_6 z0_10 s0 ws H locs ls r_x1 r_z0_3 m_z0_3 r_z0_5 m_z0_5 r_z0_6 m_z0_6 r_z0_10 m_z0_10 o_p0 hE hw hl
    have q_z0_3 : s0.1 3 = z0_3 := OV.eqI (V := vw_TAPE) hw.2.2.1 o_p0 m_z0_3 (by decide)
    have q_z0_5 : s0.1 5 = z0_5 := OV.eqI (V := vw_TAPE) hw.2.2.1 o_p0 m_z0_5 (by decide)
    have q_z0_6 : s0.1 6 = z0_6 := OV.eqI (V := vw_TAPE) hw.2.2.1 o_p0 m_z0_6 (by decide)
    have q_z0_10 : s0.1 10 = z0_10 := OV.eqI (V := vw_TAPE) hw.2.2.1 o_p0 m_z0_10 (by decide)
    refine lv_aload_n hx hb dX7_pass_129 rfl (lv_at hl 0 rfl) ?_
    refine lv_iload_n hx hb dX7_pass_130 rfl (lv_at hl 1 rfl) ?_
    refine tk_ir (va_runS (As := [.int x1]) (rest := [.ref p0]) ⟨hx, hb, hml, hown, hts⟩ (c_X7_isSign__1 l D cy z H.size Ps ws hw.1 x1 (r_x1.to (by decide))) (va_cwS 1 hts (gS tw_435 tw_436 tw_2 tw_437) rfl rfl rfl (by decide +kernel) ⟨Nat.le_of_ble_eq_true rfl, Nat.le_of_ble_eq_true rfl⟩) (tg_preS hw hK hSD hA) rfl rfl hl.1 rfl (lv_room (Nat.le_of_ble_eq_true rfl)) dX7_pass_131 ⟨Nat.le_of_ble_eq_true rfl, Nat.le_of_ble_eq_true rfl⟩) hw hA (fun v_6  H locs hp_v_6 hw => ?_)
    obtain ⟨hfn, hp_v_6⟩ := hp_v_6
    have q_v_6 : (f_X7_isSign__1 x1) = v_6 := hfn.1
    have r_v_6 : RI v_6 0 1 := hp_v_6.1
    refine lv_if_eq (tgt := 141) hx hb dX7_pass_134 (by decide) (fun c_134 => ?_) (fun c_134 => ?_)
    · have r_v_6 : RI v_6 0 0 := rc_eq1 r_v_6 rl_0 (ti_eq c_134) (by decide)
      refine lv_iconst (v := 1) hx hb dX7_pass_141 (by decide) ?_
      simp only [f_X7_pass__5_129, ↓reduceIte, q_z0_3, q_z0_5, q_z0_6, q_z0_10, q_v_6, eq_true c_134] at hE
      exact B142 x1 1 z0_3 z0_5 z0_6 z0_10 s0 ws _ _ ls r_x1 (rl_1.to (by decide)) r_z0_3 m_z0_3 r_z0_5 m_z0_5 r_z0_6 m_z0_6 r_z0_10 m_z0_10 o_p0 hE hw hl
    · have r_v_6 : RI v_6 1 1 := rc_neL r_v_6 rl_0 (ti_ne c_134) (by decide)
      have r_x1 : RI x1 40 62 := ((hp_v_6.2.2 c_134).1)
      refine lv_iload_n hx hb dX7_pass_137 rfl (lv_at hl 1 rfl) ?_
      refine lv_goto (tgt := 142) hx hb dX7_pass_138 (by decide) ?_
      simp only [f_X7_pass__5_129, ↓reduceIte, q_z0_3, q_z0_5, q_z0_6, q_z0_10, q_v_6, eq_false c_134] at hE
      exact B142 x1 x1 z0_3 z0_5 z0_6 z0_10 s0 ws _ _ ls (r_x1.to (by decide)) (r_x1.to (by decide)) r_z0_3 m_z0_3 r_z0_5 m_z0_5 r_z0_6 m_z0_6 r_z0_10 m_z0_10 o_p0 hE hw hl
  have B122 : ∀ (x1 : Int32) (z0_3 : Int32) (z0_5 : Int32) (z0_6 : Int32) (z0_10 : Int32) (s0 : OS) (ws : va_W) (H : Heap) (locs : List Loc) (ls : Array Slot), RI x1 48 122 → RI z0_3 1 940 → FLD ws p0 7 3 (.int z0_3) → RI z0_5 0 939 → FLD ws p0 7 5 (.int z0_5) → RI z0_6 0 939 → FLD ws p0 7 6 (.int z0_6) → RI z0_10 0 0 → FLD ws p0 7 10 (.int z0_10) → OV vw_TAPE Ps ws p0 s0 → f_X7_pass__5_122 x1 s0 = R9 → WD D cy GG A s wr_X7_pass__5 wa_X7_pass__5 Ps w0 Ps ws H locs → lv_has ls 2 [(0, .ref p0), (1, .int x1)] → W p l e (headSpec (Cond.code yX7_pass cX7_pass 2 none :: gT) ({ frames := 2, cells := 0, slots := 0, locals := 400 } : Room)).room s m ([.ref p0] : List Value).toArray below meth c H locs 0 0 Q (F0 m 122 ls []) := by
    intro x1 z0_3 z0_5 z0_6 z0_10 s0 ws H locs ls r_x1 r_z0_3 m_z0_3 r_z0_5 m_z0_5 r_z0_6 m_z0_6 r_z0_10 m_z0_10 o_p0 hE hw hl
    have q_z0_3 : s0.1 3 = z0_3 := OV.eqI (V := vw_TAPE) hw.2.2.1 o_p0 m_z0_3 (by decide)
    have q_z0_5 : s0.1 5 = z0_5 := OV.eqI (V := vw_TAPE) hw.2.2.1 o_p0 m_z0_5 (by decide)
    have q_z0_6 : s0.1 6 = z0_6 := OV.eqI (V := vw_TAPE) hw.2.2.1 o_p0 m_z0_6 (by decide)
    have q_z0_10 : s0.1 10 = z0_10 := OV.eqI (V := vw_TAPE) hw.2.2.1 o_p0 m_z0_10 (by decide)
    refine lv_aload_n hx hb dX7_pass_122 rfl (lv_at hl 0 rfl) ?_
    refine tk_v (va_runV (As := []) (rest := []) ⟨hx, hb, hml, hown, hts⟩ (c_X7_readRun__1 l D cy z H.size Ps ws hw.1 p0 s0 h_p0 o_p0) (cwV 0 hts (gV tw_431 tw_433 ts_0 tw_2 tw_434) rfl rfl rfl (by decide +kernel) ⟨Nat.le_of_ble_eq_true rfl, Nat.le_of_ble_eq_true rfl⟩) (tg_preV hw hK hSD hA (ci := 7) (q := (RX7, TX7, 12)) rfl h_p0 rfl) rfl rfl hl.1 rfl (lv_room (Nat.le_of_ble_eq_true rfl)) dX7_pass_123 ⟨Nat.le_of_ble_eq_true rfl, Nat.le_of_ble_eq_true rfl⟩) hw hA ⟨by decide, by decide⟩ (fun ws H locs hp_v_7 hw hF9 => ?_)
    have m_z0_3 := FLD.over hF9 m_z0_3 (by decide)
    have m_z0_5 := FLD.over hF9 m_z0_5 (by decide)
    have m_z0_10 := FLD.over hF9 m_z0_10 (by decide)
    obtain ⟨hfn, hp_v_7⟩ := hp_v_7
    obtain ⟨sg_8, q_sg_8⟩ : ∃ q9 : OS, (f_X7_readRun__1 s0) = q9 := ⟨_, rfl⟩
    have o_p0 : OV vw_TAPE Ps ws p0 sg_8 := by rw [← q_sg_8]; exact hfn.1
    refine lv_goto (tgt := 155) hx hb dX7_pass_126 (by decide) ?_
    simp only [f_X7_pass__5_122, ↓reduceIte, q_z0_3, q_z0_5, q_z0_6, q_z0_10, q_sg_8] at hE
    subst hQ
    exact W.vret hx hb hr (fun t ht hW => ⟨⟨ws, rfl, ⟨⟨⟨(by rw [hR, ← hE]; exact o_p0), trivial⟩, ⟨⟨_, m_z0_10, r_z0_10⟩, trivial⟩⟩, hw.1, hw.2.2.2.2.1⟩, by rw [ht]; exact hw.2.1, va_K.moved hW.alike hK, hw.2.2.1⟩, hw.2.2.2.1.F ht⟩) hw.2.2.2.1.2.2 dX7_pass_155
  have B110 : ∀ (x1 : Int32) (z0_3 : Int32) (z0_5 : Int32) (z0_6 : Int32) (z0_10 : Int32) (s0 : OS) (ws : va_W) (H : Heap) (locs : List Loc) (ls : Array Slot), RI x1 (-128) 127 → RI z0_3 1 940 → FLD ws p0 7 3 (.int z0_3) → RI z0_5 0 939 → FLD ws p0 7 5 (.int z0_5) → RI z0_6 0 939 → FLD ws p0 7 6 (.int z0_6) → RI z0_10 0 0 → FLD ws p0 7 10 (.int z0_10) → OV vw_TAPE Ps ws p0 s0 → f_X7_pass__5_110 x1 s0 = R9 → WD D cy GG A s wr_X7_pass__5 wa_X7_pass__5 Ps w0 Ps ws H locs → lv_has ls 2 [(0, .ref p0), (1, .int x1)] → W p l e (headSpec (Cond.code yX7_pass cX7_pass 2 none :: gT) ({ frames := 2, cells := 0, slots := 0, locals := 400 } : Room)).room s m ([.ref p0] : List Value).toArray below meth c H locs 0 0 Q (F0 m 110 ls []) := by
    intro x1 z0_3 z0_5 z0_6 z0_10 s0 ws H locs ls r_x1 r_z0_3 m_z0_3 r_z0_5 m_z0_5 r_z0_6 m_z0_6 r_z0_10 m_z0_10 o_p0 hE hw hl
    have q_z0_3 : s0.1 3 = z0_3 := OV.eqI (V := vw_TAPE) hw.2.2.1 o_p0 m_z0_3 (by decide)
    have q_z0_5 : s0.1 5 = z0_5 := OV.eqI (V := vw_TAPE) hw.2.2.1 o_p0 m_z0_5 (by decide)
    have q_z0_6 : s0.1 6 = z0_6 := OV.eqI (V := vw_TAPE) hw.2.2.1 o_p0 m_z0_6 (by decide)
    have q_z0_10 : s0.1 10 = z0_10 := OV.eqI (V := vw_TAPE) hw.2.2.1 o_p0 m_z0_10 (by decide)
    refine lv_iload_n hx hb dX7_pass_110 rfl (lv_at hl 1 rfl) ?_
    refine lv_bipush (v := 48) hx hb dX7_pass_111 (by decide) ?_
    refine lv_icmp_lt (tgt := 129) hx hb dX7_pass_113 (by decide) (fun c_113 => ?_) (fun c_113 => ?_)
    · have r_x1 : RI x1 (-128) 47 := rc_lt1 r_x1 rl_48 (ti_lt c_113) (by decide)
      simp only [f_X7_pass__5_110, ↓reduceIte, q_z0_3, q_z0_5, q_z0_6, q_z0_10, eq_true c_113] at hE
      exact B129 x1 z0_3 z0_5 z0_6 z0_10 s0 ws _ _ ls (r_x1.to (by decide)) r_z0_3 m_z0_3 r_z0_5 m_z0_5 r_z0_6 m_z0_6 r_z0_10 m_z0_10 o_p0 hE hw hl
    · have r_x1 : RI x1 48 127 := rc_le2 rl_48 r_x1 (ti_nlt c_113) (by decide)
      refine lv_iload_n hx hb dX7_pass_116 rfl (lv_at hl 1 rfl) ?_
      refine lv_bipush (v := 57) hx hb dX7_pass_117 (by decide) ?_
      refine lv_icmp_gt (tgt := 129) hx hb dX7_pass_119 (by decide) (fun c_119 => ?_) (fun c_119 => ?_)
      · have r_x1 : RI x1 58 127 := rc_lt2 rl_57 r_x1 (ti_lt c_119) (by decide)
        simp only [f_X7_pass__5_110, ↓reduceIte, q_z0_3, q_z0_5, q_z0_6, q_z0_10, eq_false c_113, eq_true c_119] at hE
        exact B129 x1 z0_3 z0_5 z0_6 z0_10 s0 ws _ _ ls (r_x1.to (by decide)) r_z0_3 m_z0_3 r_z0_5 m_z0_5 r_z0_6 m_z0_6 r_z0_10 m_z0_10 o_p0 hE hw hl
      · have r_x1 : RI x1 48 57 := rc_le1 r_x1 rl_57 (ti_nlt c_119) (by decide)
        simp only [f_X7_pass__5_110, ↓reduceIte, q_z0_3, q_z0_5, q_z0_6, q_z0_10, eq_false c_113, eq_false c_119] at hE
        exact B122 x1 z0_3 z0_5 z0_6 z0_10 s0 ws _ _ ls (r_x1.to (by decide)) r_z0_3 m_z0_3 r_z0_5 m_z0_5 r_z0_6 m_z0_6 r_z0_10 m_z0_10 o_p0 hE hw hl
  have B55 : ∀ (z0_5 : Int32) (z0_10 : Int32) (s0 : OS) (ws : va_W) (H : Heap) (locs : List Loc) (ls : Array Slot), RI z0_5 0 940 → FLD ws p0 7 5 (.int z0_5) → RI z0_10 0 0 → FLD ws p0 7 10 (.int z0_10) → OV vw_TAPE Ps ws p0 s0 → f_X7_pass__5_55 s0 = R9 → WD D cy GG A s wr_X7_pass__5 wa_X7_pass__5 Ps w0 Ps ws H locs → lv_has ls 2 [(0, .ref p0)] → W p l e (headSpec (Cond.code yX7_pass cX7_pass 2 none :: gT) ({ frames := 2, cells := 0, slots := 0, locals := 400 } : Room)).room s m ([.ref p0] : List Value).toArray below meth c H locs 0 0 Q (F0 m 55 ls []) := by
    intro z0_5 z0_10 s0 ws H locs ls r_z0_5 m_z0_5 r_z0_10 m_z0_10 o_p0 hE hw hl
    have q_z0_5 : s0.1 5 = z0_5 := OV.eqI (V := vw_TAPE) hw.2.2.1 o_p0 m_z0_5 (by decide)
    have q_z0_10 : s0.1 10 = z0_10 := OV.eqI (V := vw_TAPE) hw.2.2.1 o_p0 m_z0_10 (by decide)
    refine lv_aload_n hx hb dX7_pass_55 rfl (lv_at hl 0 rfl) ?_
    refine tg_mem (ci := 7) (C := RX7) (T := TX7) (N := 12) hx hb hts inX7 hown hK hw 5 m_z0_5 rfl (by decide) (hts _ tw_93) (fun _ h9 => h9) dX7_pass_56 ?_
    refine lv_aload_n hx hb dX7_pass_59 rfl (lv_at hl 0 rfl) ?_
    refine tg_get (ci := 7) (ts := ty_TAPE) (C := RX7) (T := TX7) (N := 12) hx hb hts inX7 hown hK hw h_p0 rfl rfl 3 (by decide) (hts _ tw_91) (fun _ h9 => h9) (ft := vI 0 940) rfl dX7_pass_60 (fun u_9 hv_u_9 m_u_9 => ?_)
    obtain ⟨vu_9, rfl, r_vu_9⟩ := hv_u_9
    have q_vu_9 : s0.1 3 = vu_9 := OV.eqI (V := vw_TAPE) hw.2.2.1 o_p0 m_u_9 (by decide)
    refine lv_icmp_lt (tgt := 80) hx hb dX7_pass_63 (by decide) (fun c_63 => ?_) (fun c_63 => ?_)
    · have r_z0_5 : RI z0_5 0 939 := rc_lt1 r_z0_5 r_vu_9 (ti_lt c_63) (by decide)
      have r_vu_9 : RI vu_9 1 940 := rc_lt2 r_z0_5 r_vu_9 (ti_lt c_63) (by decide)
      refine lv_aload_n hx hb dX7_pass_80 rfl (lv_at hl 0 rfl) ?_
      refine tg_get (ci := 7) (ts := ty_TAPE) (C := RX7) (T := TX7) (N := 12) hx hb hts inX7 hown hK hw h_p0 rfl rfl 0 (by decide) (hts _ tw_87) (fun _ h9 => h9) (ft := vR 2) rfl dX7_pass_81 (fun u_10 hv_u_10 m_u_10 => ?_)
      obtain ⟨vu_10, rfl, h_vu_10⟩ := hv_u_10
      refine lv_aload_n hx hb dX7_pass_84 rfl (lv_at hl 0 rfl) ?_
      refine tg_mem (ci := 7) (C := RX7) (T := TX7) (N := 12) hx hb hts inX7 hown hK hw 5 m_z0_5 rfl (by decide) (hts _ tw_93) (fun _ h9 => h9) dX7_pass_85 ?_
      refine tg_baldE (lo := (-128)) (hi := 127) hx hb hK hw h_vu_10 rfl 0 939 r_z0_5 (by decide) (by exact fun _ _ _ => ⟨Int.le_refl _, Int.le_refl _⟩) dX7_pass_88 (fun v_11 r_v_11 l_v_11 => ?_)
      have q_v_11 : s0.2.2.1 0 (Int32.toNatClampNeg z0_5) = v_11 := OV.eqA (V := vw_TAPE) (t := 2) hw.2.2.1 o_p0 m_u_10 l_v_11 (by decide)
      refine lv_istore_n (lv' := [(1, .int v_11), (0, .ref p0)]) hx hb dX7_pass_89 rfl hl (by decide) rfl (fun ls hl => ?_)
      refine lv_aload_n hx hb dX7_pass_90 rfl (lv_at hl 1 rfl) ?_
      refine lv_aload_n hx hb dX7_pass_91 rfl (lv_at hl 1 rfl) ?_
      refine tg_mem (ci := 7) (C := RX7) (T := TX7) (N := 12) hx hb hts inX7 hown hK hw 5 m_z0_5 rfl (by decide) (hts _ tw_93) (fun _ h9 => h9) dX7_pass_92 ?_
      refine tg_put (ci := 7) (ts := ty_TAPE) (v := .int z0_5) (ty := .int) (C := RX7) (T := TX7) (N := 12) hx hb hts inX7 tyX7 tyX7_ok nmX7 hown hK hw h_p0 rfl rfl 6 (by decide) (hts _ tw_94) (fun _ h9 => h9) rfl (by decide +kernel) rfl rfl (ft := vI 0 940) rfl ⟨_, rfl, (r_z0_5.to (by decide))⟩ (by decide) dX7_pass_95 (fun ws H locs hw n_k_12 hF9 => ?_)
      have m_z0_5 := FLD.over hF9 m_z0_5 (by decide)
      have m_z0_10 := FLD.over hF9 m_z0_10 (by decide)
      have m_u_9 := FLD.over hF9 m_u_9 (by decide)
      have m_u_10 := FLD.over hF9 m_u_10 (by decide)
      obtain ⟨sg_13, q_sg_13⟩ : ∃ q9 : OS, sI s0 6 z0_5 = q9 := ⟨_, rfl⟩
      have o_p0 : OV vw_TAPE Ps ws p0 sg_13 := by rw [← q_sg_13]; exact OV.putI (V := vw_TAPE) hF9 n_k_12 o_p0 (by decide)
      refine lv_iload_n hx hb dX7_pass_98 rfl (lv_at hl 0 rfl) ?_
      refine lv_bipush (v := 97) hx hb dX7_pass_99 (by decide) ?_
      refine lv_icmp_lt (tgt := 110) hx hb dX7_pass_101 (by decide) (fun c_101 => ?_) (fun c_101 => ?_)
      · have r_v_11 : RI v_11 (-128) 96 := rc_lt1 r_v_11 rl_97 (ti_lt c_101) (by decide)
        simp only [f_X7_pass__5_55, ↓reduceIte, q_z0_5, q_z0_10, q_vu_9, eq_true c_63, q_v_11, q_sg_13, eq_true c_101] at hE
        exact B110 v_11 vu_9 z0_5 z0_5 z0_10 sg_13 ws _ _ ls (r_v_11.to (by decide)) r_vu_9 m_u_9 r_z0_5 m_z0_5 r_z0_5 n_k_12 r_z0_10 m_z0_10 o_p0 hE hw (lv_sub hl [1, 0] rfl)
      · have r_v_11 : RI v_11 97 127 := rc_le2 rl_97 r_v_11 (ti_nlt c_101) (by decide)
        refine lv_iload_n hx hb dX7_pass_104 rfl (lv_at hl 0 rfl) ?_
        refine lv_bipush (v := 122) hx hb dX7_pass_105 (by decide) ?_
        refine lv_icmp_le (tgt := 122) hx hb dX7_pass_107 (by decide) (fun c_107 => ?_) (fun c_107 => ?_)
        · have r_v_11 : RI v_11 97 122 := rc_le1 r_v_11 rl_122 (ti_le c_107) (by decide)
          simp only [f_X7_pass__5_55, ↓reduceIte, q_z0_5, q_z0_10, q_vu_9, eq_true c_63, q_v_11, q_sg_13, eq_false c_101, eq_true c_107] at hE
          exact B122 v_11 vu_9 z0_5 z0_5 z0_10 sg_13 ws _ _ ls (r_v_11.to (by decide)) r_vu_9 m_u_9 r_z0_5 m_z0_5 r_z0_5 n_k_12 r_z0_10 m_z0_10 o_p0 hE hw (lv_sub hl [1, 0] rfl)
        · have r_v_11 : RI v_11 123 127 := rc_lt2 rl_122 r_v_11 (ti_nle c_107) (by decide)
          simp only [f_X7_pass__5_55, ↓reduceIte, q_z0_5, q_z0_10, q_vu_9, eq_true c_63, q_v_11, q_sg_13, eq_false c_101, eq_false c_107] at hE
          exact B110 v_11 vu_9 z0_5 z0_5 z0_10 sg_13 ws _ _ ls (r_v_11.to (by decide)) r_vu_9 m_u_9 r_z0_5 m_z0_5 r_z0_5 n_k_12 r_z0_10 m_z0_10 o_p0 hE hw (lv_sub hl [1, 0] rfl)
    · refine lv_aload_n hx hb dX7_pass_66 rfl (lv_at hl 0 rfl) ?_
      refine lv_aload_n hx hb dX7_pass_67 rfl (lv_at hl 0 rfl) ?_
      refine tg_mem (ci := 7) (C := RX7) (T := TX7) (N := 12) hx hb hts inX7 hown hK hw 3 m_u_9 rfl (by decide) (hts _ tw_91) (fun _ h9 => h9) dX7_pass_68 ?_
      refine tg_put (ci := 7) (ts := ty_TAPE) (v := .int vu_9) (ty := .int) (C := RX7) (T := TX7) (N := 12) hx hb hts inX7 tyX7 tyX7_ok nmX7 hown hK hw h_p0 rfl rfl 5 (by decide) (hts _ tw_93) (fun _ h9 => h9) rfl (by decide +kernel) rfl rfl (ft := vI 0 940) rfl ⟨_, rfl, r_vu_9⟩ (by decide) dX7_pass_71 (fun ws H locs hw n_k_14 hF9 => ?_)
      have m_z0_10 := FLD.over hF9 m_z0_10 (by decide)
      have m_u_9 := FLD.over hF9 m_u_9 (by decide)
      obtain ⟨sg_15, q_sg_15⟩ : ∃ q9 : OS, sI s0 5 vu_9 = q9 := ⟨_, rfl⟩
      have o_p0 : OV vw_TAPE Ps ws p0 sg_15 := by rw [← q_sg_15]; exact OV.putI (V := vw_TAPE) hF9 n_k_14 o_p0 (by decide)
      refine lv_aload_n hx hb dX7_pass_74 rfl (lv_at hl 0 rfl) ?_
      refine lv_iconst (v := 0) hx hb dX7_pass_75 (by decide) ?_
      refine tg_put (ci := 7) (ts := ty_TAPE) (v := .int 0) (ty := .int) (C := RX7) (T := TX7) (N := 12) hx hb hts inX7 tyX7 tyX7_ok nmX7 hown hK hw h_p0 rfl rfl 7 (by decide) (hts _ tw_98) (fun _ h9 => h9) rfl (by decide +kernel) rfl rfl (ft := vI (-2147483648) 2147483647) rfl ⟨_, rfl, (rl_0.to (by decide))⟩ (by decide) dX7_pass_76 (fun ws H locs hw n_k_16 hF9 => ?_)
      have m_z0_10 := FLD.over hF9 m_z0_10 (by decide)
      have m_u_9 := FLD.over hF9 m_u_9 (by decide)
      have n_k_14 := FLD.over hF9 n_k_14 (by decide)
      obtain ⟨sg_17, q_sg_17⟩ : ∃ q9 : OS, sI sg_15 7 (0 : Int32) = q9 := ⟨_, rfl⟩
      have o_p0 : OV vw_TAPE Ps ws p0 sg_17 := by rw [← q_sg_17]; exact OV.putI (V := vw_TAPE) hF9 n_k_16 o_p0 (by decide)
      simp only [f_X7_pass__5_55, ↓reduceIte, q_z0_5, q_z0_10, q_vu_9, eq_false c_63, q_sg_15, q_sg_17] at hE
      subst hQ
      exact W.vret hx hb hr (fun t ht hW => ⟨⟨ws, rfl, ⟨⟨⟨(by rw [hR, ← hE]; exact o_p0), trivial⟩, ⟨⟨_, m_z0_10, r_z0_10⟩, trivial⟩⟩, hw.1, hw.2.2.2.2.1⟩, by rw [ht]; exact hw.2.1, va_K.moved hW.alike hK, hw.2.2.1⟩, hw.2.2.2.1.F ht⟩) hw.2.2.2.1.2.2 dX7_pass_79
  have B16 : ∀ (nf : Nat) (z0_5 : Int32) (z0_10 : Int32) (s0 : OS) (ws : va_W) (H : Heap) (locs : List Loc) (ls : Array Slot), 940 - z0_5.toInt < (nf : Int) → RI z0_5 0 940 → FLD ws p0 7 5 (.int z0_5) → RI z0_10 0 0 → FLD ws p0 7 10 (.int z0_10) → OV vw_TAPE Ps ws p0 s0 → f_X7_pass__5_16 nf s0 = R9 → WD D cy GG A s wr_X7_pass__5 wa_X7_pass__5 Ps w0 Ps ws H locs → lv_has ls 2 [(0, .ref p0)] → W p l e (headSpec (Cond.code yX7_pass cX7_pass 2 none :: gT) ({ frames := 2, cells := 0, slots := 0, locals := 400 } : Room)).room s m ([.ref p0] : List Value).toArray below meth c H locs 0 0 Q (F0 m 16 ls []) := by
    intro nf16
    induction nf16 with
    | zero =>
      intro z0_5 z0_10 s0 ws H locs ls hn16 r_z0_5 m_z0_5 r_z0_10 m_z0_10 o_p0 hE hw hl
      exact absurd hn16 (by have q0 := r_z0_5.1; have u0 := r_z0_5.2; omega)
    | succ nf16 ih16 =>
      intro z0_5 z0_10 s0 ws H locs ls hn16 r_z0_5 m_z0_5 r_z0_10 m_z0_10 o_p0 hE hw hl
      have q_z0_5 : s0.1 5 = z0_5 := OV.eqI (V := vw_TAPE) hw.2.2.1 o_p0 m_z0_5 (by decide)
      have q_z0_10 : s0.1 10 = z0_10 := OV.eqI (V := vw_TAPE) hw.2.2.1 o_p0 m_z0_10 (by decide)
      refine lv_aload_n hx hb dX7_pass_16 rfl (lv_at hl 0 rfl) ?_
      refine tg_mem (ci := 7) (C := RX7) (T := TX7) (N := 12) hx hb hts inX7 hown hK hw 5 m_z0_5 rfl (by decide) (hts _ tw_93) (fun _ h9 => h9) dX7_pass_17 ?_
      refine lv_aload_n hx hb dX7_pass_20 rfl (lv_at hl 0 rfl) ?_
      refine tg_get (ci := 7) (ts := ty_TAPE) (C := RX7) (T := TX7) (N := 12) hx hb hts inX7 hown hK hw h_p0 rfl rfl 3 (by decide) (hts _ tw_91) (fun _ h9 => h9) (ft := vI 0 940) rfl dX7_pass_21 (fun u_18 hv_u_18 m_u_18 => ?_)
      obtain ⟨vu_18, rfl, r_vu_18⟩ := hv_u_18
      have q_vu_18 : s0.1 3 = vu_18 := OV.eqI (V := vw_TAPE) hw.2.2.1 o_p0 m_u_18 (by decide)
      refine lv_icmp_ge (tgt := 55) hx hb dX7_pass_24 (by decide) (fun c_24 => ?_) (fun c_24 => ?_)
      · simp only [f_X7_pass__5_16, ↓reduceIte, q_z0_5, q_z0_10, q_vu_18, eq_true c_24] at hE
        exact B55 z0_5 z0_10 s0 ws _ _ ls r_z0_5 m_z0_5 r_z0_10 m_z0_10 o_p0 hE hw hl
      · have r_z0_5 : RI z0_5 0 939 := rc_lt1 r_z0_5 r_vu_18 (ti_nle c_24) (by decide)
        have r_vu_18 : RI vu_18 1 940 := rc_lt2 r_z0_5 r_vu_18 (ti_nle c_24) (by decide)
        refine lv_aload_n hx hb dX7_pass_27 rfl (lv_at hl 0 rfl) ?_
        refine tg_get (ci := 7) (ts := ty_TAPE) (C := RX7) (T := TX7) (N := 12) hx hb hts inX7 hown hK hw h_p0 rfl rfl 0 (by decide) (hts _ tw_87) (fun _ h9 => h9) (ft := vR 2) rfl dX7_pass_28 (fun u_19 hv_u_19 m_u_19 => ?_)
        obtain ⟨vu_19, rfl, h_vu_19⟩ := hv_u_19
        refine lv_aload_n hx hb dX7_pass_31 rfl (lv_at hl 0 rfl) ?_
        refine tg_mem (ci := 7) (C := RX7) (T := TX7) (N := 12) hx hb hts inX7 hown hK hw 5 m_z0_5 rfl (by decide) (hts _ tw_93) (fun _ h9 => h9) dX7_pass_32 ?_
        refine tg_baldE (lo := (-128)) (hi := 127) hx hb hK hw h_vu_19 rfl 0 939 r_z0_5 (by decide) (by exact fun _ _ _ => ⟨Int.le_refl _, Int.le_refl _⟩) dX7_pass_35 (fun v_20 r_v_20 l_v_20 => ?_)
        have q_v_20 : s0.2.2.1 0 (Int32.toNatClampNeg z0_5) = v_20 := OV.eqA (V := vw_TAPE) (t := 2) hw.2.2.1 o_p0 m_u_19 l_v_20 (by decide)
        refine tk_ir (va_runS (As := [.int v_20]) (rest := []) ⟨hx, hb, hml, hown, hts⟩ (c_X7_isBlank__1 l D cy z H.size Ps ws hw.1 v_20 (r_v_20.to (by decide))) (va_cwS 1 hts (gS tw_428 tw_429 tw_2 tw_430) rfl rfl rfl (by decide +kernel) ⟨Nat.le_of_ble_eq_true rfl, Nat.le_of_ble_eq_true rfl⟩) (tg_preS hw hK hSD hA) rfl rfl hl.1 rfl (lv_room (Nat.le_of_ble_eq_true rfl)) dX7_pass_36 ⟨Nat.le_of_ble_eq_true rfl, Nat.le_of_ble_eq_true rfl⟩) hw hA (fun v_21  H locs hp_v_21 hw => ?_)
        obtain ⟨hfn, hp_v_21⟩ := hp_v_21
        have q_v_21 : (f_X7_isBlank__1 v_20) = v_21 := hfn.1
        have r_v_21 : RI v_21 0 1 := hp_v_21.1
        refine lv_if_eq (tgt := 55) hx hb dX7_pass_39 (by decide) (fun c_39 => ?_) (fun c_39 => ?_)
        · have r_v_21 : RI v_21 0 0 := rc_eq1 r_v_21 rl_0 (ti_eq c_39) (by decide)
          simp only [f_X7_pass__5_16, ↓reduceIte, q_z0_5, q_z0_10, q_vu_18, eq_false c_24, q_v_20, q_v_21, eq_true c_39] at hE
          exact B55 z0_5 z0_10 s0 ws _ _ ls (r_z0_5.to (by decide)) m_z0_5 r_z0_10 m_z0_10 o_p0 hE hw hl
        · have r_v_21 : RI v_21 1 1 := rc_neL r_v_21 rl_0 (ti_ne c_39) (by decide)
          have r_v_20 : RI v_20 10 32 := ((hp_v_21.2.2 c_39).1)
          refine lv_aload_n hx hb dX7_pass_42 rfl (lv_at hl 0 rfl) ?_
          refine lv_dup hx hb dX7_pass_43 rfl ?_
          refine tg_mem (ci := 7) (C := RX7) (T := TX7) (N := 12) hx hb hts inX7 hown hK hw 5 m_z0_5 rfl (by decide) (hts _ tw_93) (fun _ h9 => h9) dX7_pass_44 ?_
          refine lv_iconst (v := 1) hx hb dX7_pass_47 (by decide) ?_
          refine lv_iadd hx hb dX7_pass_48 (lv_topi (fun v_22 e_v_22 => ?_))
          obtain ⟨t_v_22, r_v_22⟩ := tq_add (lo := 1) (hi := 940) r_z0_5 rl_1 (by decide +kernel) e_v_22
          have t_v_22 : v_22.toInt = z0_5.toInt + 1 := t_v_22
          have q_v_22 : z0_5 + (1 : Int32) = v_22 := e_v_22.symm
          refine tg_put (ci := 7) (ts := ty_TAPE) (v := .int v_22) (ty := .int) (C := RX7) (T := TX7) (N := 12) hx hb hts inX7 tyX7 tyX7_ok nmX7 hown hK hw h_p0 rfl rfl 5 (by decide) (hts _ tw_93) (fun _ h9 => h9) rfl (by decide +kernel) rfl rfl (ft := vI 0 940) rfl ⟨_, rfl, (r_v_22.to (by decide))⟩ (by decide) dX7_pass_49 (fun ws H locs hw n_k_23 hF9 => ?_)
          have m_z0_10 := FLD.over hF9 m_z0_10 (by decide)
          have m_u_18 := FLD.over hF9 m_u_18 (by decide)
          have m_u_19 := FLD.over hF9 m_u_19 (by decide)
          obtain ⟨sg_24, q_sg_24⟩ : ∃ q9 : OS, sI s0 5 v_22 = q9 := ⟨_, rfl⟩
          have o_p0 : OV vw_TAPE Ps ws p0 sg_24 := by rw [← q_sg_24]; exact OV.putI (V := vw_TAPE) hF9 n_k_23 o_p0 (by decide)
          refine lv_goto (tgt := 16) hx hb dX7_pass_52 (by decide) ?_
          simp only [f_X7_pass__5_16, ↓reduceIte, q_z0_5, q_z0_10, q_vu_18, eq_false c_24, q_v_20, q_v_21, eq_false c_39, q_v_22, q_sg_24] at hE
          exact ih16 v_22 z0_10 sg_24 ws _ _ ls (by have q0 := r_v_22.1; have u0 := r_v_22.2; have o0 := r_z0_5.1; have p0 := r_z0_5.2; omega) (r_v_22.to (by decide)) n_k_23 r_z0_10 m_z0_10 o_p0 hE hw hl
  refine lv_aload_n hx hb dX7_pass_0 rfl (lv_at hl 0 rfl) ?_
  refine tg_mem (ci := 7) (C := RX7) (T := TX7) (N := 12) hx hb hts inX7 hown hK hw 10 m_f0_10 rfl (by decide) (hts _ tw_104) (fun _ h9 => h9) dX7_pass_1 ?_
  have q_f0_10 : s0.1 10 = f0_10 := OV.eqI (V := vw_TAPE) hw.2.2.1 o_p0 m_f0_10 (by decide)
  refine lv_if_eq (tgt := 8) hx hb dX7_pass_4 (by decide) (fun c_4 => ?_) (fun c_4 => ?_)
  · refine lv_aload_n hx hb dX7_pass_8 rfl (lv_at hl 0 rfl) ?_
    refine lv_aload_n hx hb dX7_pass_9 rfl (lv_at hl 0 rfl) ?_
    refine tg_get (ci := 7) (ts := ty_TAPE) (C := RX7) (T := TX7) (N := 12) hx hb hts inX7 hown hK hw h_p0 rfl rfl 6 (by decide) (hts _ tw_94) (fun _ h9 => h9) (ft := vI 0 940) rfl dX7_pass_10 (fun u_25 hv_u_25 m_u_25 => ?_)
    obtain ⟨vu_25, rfl, r_vu_25⟩ := hv_u_25
    have q_vu_25 : s0.1 6 = vu_25 := OV.eqI (V := vw_TAPE) hw.2.2.1 o_p0 m_u_25 (by decide)
    refine tg_put (ci := 7) (ts := ty_TAPE) (v := .int vu_25) (ty := .int) (C := RX7) (T := TX7) (N := 12) hx hb hts inX7 tyX7 tyX7_ok nmX7 hown hK hw h_p0 rfl rfl 5 (by decide) (hts _ tw_93) (fun _ h9 => h9) rfl (by decide +kernel) rfl rfl (ft := vI 0 940) rfl ⟨_, rfl, r_vu_25⟩ (by decide) dX7_pass_13 (fun ws H locs hw n_k_26 hF9 => ?_)
    have m_f0_10 := FLD.over hF9 m_f0_10 (by decide)
    have m_u_25 := FLD.over hF9 m_u_25 (by decide)
    obtain ⟨sg_27, q_sg_27⟩ : ∃ q9 : OS, sI s0 5 vu_25 = q9 := ⟨_, rfl⟩
    have o_p0 : OV vw_TAPE Ps ws p0 sg_27 := by rw [← q_sg_27]; exact OV.putI (V := vw_TAPE) hF9 n_k_26 o_p0 (by decide)
    simp only [f_X7_pass__5, ↓reduceIte, q_f0_10, eq_true c_4, q_vu_25, q_sg_27] at hE
    exact B16 4294967298 vu_25 f0_10 sg_27 ws _ _ ls (by have q0 := r_vu_25.1; have u0 := r_vu_25.2; omega) r_vu_25 n_k_26 r_f0_10 m_f0_10 o_p0 hE hw hl
  · exact absurd (r_f0_10.eq.trans rl_0.eq.symm) ((ti_ne c_4))
abbrev wr_X3_beginsLine__13 : List (Nat × Nat) := [(7, 5), (7, 6), (7, 7), (7, 8), (7, 9), (7, 10), (7, 11)]
abbrev wa_X3_beginsLine__13 : List Nat := []
set_option maxHeartbeats 4000000 in
set_option maxRecDepth 100000 in
theorem c_X3_beginsLine__13 (l : Launch) (D : va_G) (cy : Nat → ClassId) (z : Nat → Nat) (sz : Nat) (Ps : PSI) (w0 : va_W) (hT : HT cy GG Ps w0) (p0 : Nat) (p1 : Nat) (p2 : Int32) (f1_10 : Int32) (s0 : OS) (s1 : OS) (h_p0 : (p0, 25) ∈ Ps) (h_p1 : (p1, 26) ∈ Ps) (r_p2 : RI p2 128 128) (r_f1_10 : RI f1_10 0 0) (m_f1_10 : FLD w0 p1 7 10 (.int f1_10)) (o_p0 : OV vw_POST Ps w0 p0 s0) (o_p1 : OV vw_TAPE Ps w0 p1 s1) : Met l yX3_beginsLine (Cond.code yX3_beginsLine cX3_beginsLine 3 (some .boolean) :: gT) ({ frames := 3, cells := 0, slots := 0, locals := 600 } : Room) (va_Pc [.ref p0, .ref p1, .int p2] (PRE D cy z w0 sz)) (va_Qi (fun (r : Int32) (u : va_W) => ((OV vw_POST Ps u p0 ((f_X3_beginsLine__13 p2 s0 s1).1) ∧ OV vw_TAPE Ps u p1 ((f_X3_beginsLine__13 p2 s0 s1).2.1) ∧ (f_X3_beginsLine__13 p2 s0 s1).2.2 = r ∧ True) ∧ (RI r 0 1 ∧ (r = 0 → (∃ v9 : Int32, FLD u p1 7 10 (.int v9) ∧ RI v9 1 4) ∧ True) ∧ (¬ r = 0 → (∃ v9 : Int32, FLD u p1 7 10 (.int v9) ∧ RI v9 0 0) ∧ AXC 3 1 4 (fun f => (f 0).toInt < 6) Ps u p0 ∧ True))) ∧ HT cy GG Ps u ∧ FR wr_X3_beginsLine__13 wa_X3_beginsLine__13 Ps w0 u) (BB D cy (va_A w0 sz) (fun (u : va_W) => u)) (va_A w0 sz)) 0 0 (va_A w0 sz) := by
  refine Met.ofW (cc := cX3_beginsLine) (maxL := 3) (ret := (some .boolean)) (by decide) rfl ?_
  intro p e s m args below meth c s₁ B hml hv
  obtain ⟨rfl, hsz, hP, hK, hD0, hSD⟩ := hv
  have hx := B.exec
  have hb := B.bytes
  have hr := B.returns
  have hlocks := B.notSynchronized
  have hts : ∀ w ∈ gT, w.before _ s = true := fun w h => atoms_spec (ws := Cond.code yX3_beginsLine cX3_beginsLine 3 (some .boolean) :: gT) B.pre w (List.mem_cons_of_mem _ h)
  have hown : s.vm.findClass RX3 = some m.cls := findClass_of_methodNamed B.named
  subst hsz
  have hD := hD0.self (sz := s.heap.size)
  generalize hAe : va_A w0 s.heap.size = A at hD hSD ⊢
  have hA : ∀ q : Nat, s.heap.size ≤ q → A q := fun q h => by rw [← hAe]; exact Or.inr h
  have hl := lv_entry ([.ref p0, .ref p1, .int p2]) (n := 3) (Nat.le_of_ble_eq_true rfl)
  rw [lg_entry_eq]
  generalize (lg_sl ([.ref p0, .ref p1, .int p2]) ++ List.replicate (3 - (lg_sl ([.ref p0, .ref p1, .int p2])).length) Slot.unset).toArray = ls at hl ⊢
  have hl : lv_has ls 3 [(0, .ref p0), (1, .ref p1), (2, .int p2)] := hl
  refine nameQ (fun Q hQ => ?_)
  have hw : WD D cy GG A s wr_X3_beginsLine__13 wa_X3_beginsLine__13 Ps w0 Ps w0 s.heap [] := ⟨hT, hP, hD, va_S.rf, FR.rf, hT.1, [], (List.append_nil _).symm⟩
  obtain ⟨R9, hR⟩ : ∃ q9 : OS × OS × Int32, f_X3_beginsLine__13 p2 s0 s1 = q9 := ⟨_, rfl⟩
  have hE := hR
  refine lv_iload_n hx hb dX3_beginsLine_0 rfl (lv_at hl 2 rfl) ?_
  refine lv_sipush (v := 128) hx hb dX3_beginsLine_1 (by decide) ?_
  refine lv_icmp_lt (tgt := 14) hx hb dX3_beginsLine_4 (by decide) (fun c_4 => ?_) (fun c_4 => ?_)
  · have r_p2 : RI p2 128 127 := rc_lt1 r_p2 rl_128 (ti_lt c_4) (by decide)
    exact (r_p2.no (by decide)).elim
  · refine lv_iload_n hx hb dX3_beginsLine_7 rfl (lv_at hl 2 rfl) ?_
    refine lv_sipush (v := 136) hx hb dX3_beginsLine_8 (by decide) ?_
    refine lv_icmp_le (tgt := 22) hx hb dX3_beginsLine_11 (by decide) (fun c_11 => ?_) (fun c_11 => ?_)
    · refine lv_iload_n hx hb dX3_beginsLine_22 rfl (lv_at hl 2 rfl) ?_
      refine lv_sipush (v := 131) hx hb dX3_beginsLine_23 (by decide) ?_
      refine lv_icmp_gt (tgt := 59) hx hb dX3_beginsLine_26 (by decide) (fun c_26 => ?_) (fun c_26 => ?_)
      · have r_p2 : RI p2 132 128 := rc_lt2 rl_131 r_p2 (ti_lt c_26) (by decide)
        exact (r_p2.no (by decide)).elim
      · refine lv_aload_n hx hb dX3_beginsLine_29 rfl (lv_at hl 0 rfl) ?_
        refine tg_get (ci := 3) (ts := ty_POST) (C := RX3) (T := TX3) (N := 9) hx hb hts inX3 hown hK hw h_p0 rfl rfl 1 (by decide) (hts _ tw_201) (fun _ h9 => h9) (ft := vR 4) rfl dX3_beginsLine_30 (fun u_1 hv_u_1 m_u_1 => ?_)
        obtain ⟨vu_1, rfl, h_vu_1⟩ := hv_u_1
        refine lv_iload_n hx hb dX3_beginsLine_33 rfl (lv_at hl 2 rfl) ?_
        refine lv_sipush (v := 128) hx hb dX3_beginsLine_34 (by decide) ?_
        refine lv_isub hx hb dX3_beginsLine_37 (lv_topi (fun v_2 e_v_2 => ?_))
        obtain ⟨t_v_2, r_v_2⟩ := tq_sub (lo := 0) (hi := 0) r_p2 rl_128 (by decide +kernel) e_v_2
        have t_v_2 : v_2.toInt = p2.toInt - 128 := t_v_2
        have q_v_2 : p2 - (128 : Int32) = v_2 := e_v_2.symm
        refine tg_iald (lo := 0) (hi := 6) hx hb hK hw h_vu_1 rfl 0 0 r_v_2 (by decide) (by decide +kernel) dX3_beginsLine_38 (fun v_3 r_v_3 m_v_3 o_v_3 => ?_)
        have q_v_3 : s0.2.2.1 1 (Int32.toNatClampNeg v_2) = v_3 := OV.eqA (V := vw_POST) (t := 4) hw.2.2.1 o_p0 m_u_1 m_v_3 (by decide)
        refine va_gets (v := .ref (z 0)) hx hb hSD.2.2.2.1 hw.2.2.2.1 hown (hts _ tw_198) (fun _ h9 => h9) dX3_beginsLine_39 ?_
        refine lv_iload_n hx hb dX3_beginsLine_42 rfl (lv_at hl 2 rfl) ?_
        refine lv_sipush (v := 128) hx hb dX3_beginsLine_43 (by decide) ?_
        refine lv_isub hx hb dX3_beginsLine_46 (lv_topi (fun v_4 e_v_4 => ?_))
        obtain ⟨t_v_4, r_v_4⟩ := tq_sub (lo := 0) (hi := 0) r_p2 rl_128 (by decide +kernel) e_v_4
        have t_v_4 : v_4.toInt = p2.toInt - 128 := t_v_4
        have z9 : v_2 = v_4 := q_v_2.symm.trans (e_v_4.symm)
        subst z9
        refine tz_mk 0 6 hx hb hSD.2.2.2.2.1 hw.2.2.2.1 r_v_2 (by decide) rfl dX3_beginsLine_47 (fun v_5 e_v_5 => ?_)
        have r_v_5 : RI v_5 6 6 := by rw [e_v_5]; exact rl_6
        have q_v_5 : (6 : Int32) = v_5 := e_v_5.symm
        refine lv_icmp_lt (tgt := 59) hx hb dX3_beginsLine_48 (by decide) (fun c_48 => ?_) (fun c_48 => ?_)
        · have d_48 := c_48
          rw [← q_v_5] at d_48
          have r_v_3 : RI v_3 0 5 := rc_lt1 r_v_3 r_v_5 (ti_lt c_48) (by decide)
          have x_MLT_p0_0 : AXC 3 1 4 (fun f => (f 0).toInt < 6) Ps w0 p0 := AXC.mk hw h_vu_1 rfl m_u_1 (fun f9 g9 => by have e9 := g9 _ _ m_v_3; have j9 : Int32.toNatClampNeg v_2 = 0 := (by have k1 := r_v_2.cl (by decide); have k2 := r_v_2.eq; omega); rw [j9] at e9; show _ < _; rw [e9]; have k3 := r_v_3.2; omega)
          refine lv_iload_n hx hb dX3_beginsLine_59 rfl (lv_at hl 2 rfl) ?_
          refine lv_sipush (v := 135) hx hb dX3_beginsLine_60 (by decide) ?_
          refine lv_icmp_ne (tgt := 73) hx hb dX3_beginsLine_63 (by decide) (fun c_63 => ?_) (fun c_63 => ?_)
          · refine lv_iload_n hx hb dX3_beginsLine_73 rfl (lv_at hl 2 rfl) ?_
            refine lv_sipush (v := 136) hx hb dX3_beginsLine_74 (by decide) ?_
            refine lv_icmp_ne (tgt := 92) hx hb dX3_beginsLine_77 (by decide) (fun c_77 => ?_) (fun c_77 => ?_)
            · refine lv_aload_n hx hb dX3_beginsLine_92 rfl (lv_at hl 1 rfl) ?_
              have hw8 := hw
              refine tk_v (va_runV (As := []) (rest := []) ⟨hx, hb, hml, hown, hts⟩ (c_X7_pass__5 l D cy z s.heap.size Ps w0 hw.1 p1 f1_10 s1 h_p1 r_f1_10 m_f1_10 o_p1) (cwV 0 hts (gV tw_451 tw_425 tw_426 tw_2 tw_427) rfl rfl rfl (by decide +kernel) ⟨Nat.le_of_ble_eq_true rfl, Nat.le_of_ble_eq_true rfl⟩) (tg_preV hw hK hSD hA (ci := 7) (q := (RX7, TX7, 12)) rfl h_p1 rfl) rfl rfl hl.1 rfl (lv_room (Nat.le_of_ble_eq_true rfl)) dX3_beginsLine_93 ⟨Nat.le_of_ble_eq_true rfl, Nat.le_of_ble_eq_true rfl⟩) hw hA ⟨by decide, by decide⟩ (fun ws H locs hp_v_6 hw hF9 => ?_)
              have m_v_3 := AEL.over hw8 hF9 h_vu_1 m_v_3 (by decide)
              have m_f1_10 := FLD.over hF9 m_f1_10 (by decide)
              have m_u_1 := FLD.over hF9 m_u_1 (by decide)
              have x_MLT_p0_0 := AXC.over hF9 x_MLT_p0_0 (by decide)
              obtain ⟨hfn, hp_v_6⟩ := hp_v_6
              have o_p0 := OV.over (V := vw_POST) hF9 o_p0 (by decide)
              obtain ⟨sg_7, q_sg_7⟩ : ∃ q9 : OS, (f_X7_pass__5 s1) = q9 := ⟨_, rfl⟩
              have o_p1 : OV vw_TAPE Ps ws p1 sg_7 := by rw [← q_sg_7]; exact hfn.1
              obtain ⟨v_8, m_v_8, r_v_8⟩ := (hp_v_6.1)
              refine lv_aload_n hx hb dX3_beginsLine_96 rfl (lv_at hl 1 rfl) ?_
              refine tg_memN (ci := 7) (C := RX7) (T := TX7) (N := 12) hx hb hts inX7 hown hK hw 10 m_v_8 rfl (by decide) (hSD.nest tn_105) (fun _ h9 => h9) dX3_beginsLine_97 ?_
              have q_v_8 : sg_7.1 10 = v_8 := OV.eqI (V := vw_TAPE) hw.2.2.1 o_p1 m_v_8 (by decide)
              refine lv_if_ne (tgt := 107) hx hb dX3_beginsLine_100 (by decide) (fun c_100 => ?_) (fun c_100 => ?_)
              · exact absurd (r_v_8.eq.trans rl_0.eq.symm) ((ti_ne c_100))
              · refine lv_iconst (v := 1) hx hb dX3_beginsLine_103 (by decide) ?_
                refine lv_goto (tgt := 108) hx hb dX3_beginsLine_104 (by decide) ?_
                simp only [f_X3_beginsLine__13, ↓reduceIte, eq_false c_4, eq_true c_11, eq_false c_26, q_v_2, q_v_3, eq_true d_48, eq_false c_63, eq_false c_77, q_sg_7, q_v_8, eq_true c_100] at hE
                subst hQ
                exact W.zret (v := 1) hx hb hr (rfl) (fun t ht hW => ⟨⟨1, ws, rfl, ⟨⟨⟨(by rw [hR, ← hE]; exact o_p0), (by rw [hR, ← hE]; exact o_p1), (by rw [hR, ← hE]), trivial⟩, rl_1.to (by decide), (fun h0 => absurd h0 (by decide)), (fun h0 => ⟨⟨_, m_v_8, r_v_8⟩, x_MLT_p0_0, trivial⟩)⟩, hw.1, hw.2.2.2.2.1⟩, by rw [ht]; exact hw.2.1, va_K.moved hW.alike hK, hw.2.2.1⟩, hw.2.2.2.1.F ht⟩) hw.2.2.2.1.2.2 dX3_beginsLine_108
            · have r_p2 : RI p2 136 128 := rc_eq1 r_p2 rl_136 (ti_eq c_77) (by decide)
              exact (r_p2.no (by decide)).elim
          · have r_p2 : RI p2 135 128 := rc_eq1 r_p2 rl_135 (ti_eq c_63) (by decide)
            exact (r_p2.no (by decide)).elim
        · have d_48 := c_48
          rw [← q_v_5] at d_48
          have r_v_3 : RI v_3 6 6 := rc_le2 r_v_5 r_v_3 (ti_nlt c_48) (by decide)
          refine lv_aload_n hx hb dX3_beginsLine_51 rfl (lv_at hl 1 rfl) ?_
          refine lv_iconst (v := 4) hx hb dX3_beginsLine_52 (by decide) ?_
          have hw8 := hw
          refine tk_v (va_runV (As := [.int 4]) (rest := []) ⟨hx, hb, hml, hown, hts⟩ (c_X7_refuse__5 l D cy z s.heap.size Ps w0 hw.1 p1 4 f1_10 s1 h_p1 (rl_4.to (by decide)) r_f1_10 m_f1_10 o_p1) (cwV 1 hts (gV tw_450 tw_443 tw_444 tw_2 tw_445) rfl rfl rfl (by decide +kernel) ⟨Nat.le_of_ble_eq_true rfl, Nat.le_of_ble_eq_true rfl⟩) (tg_preV hw hK hSD hA (ci := 7) (q := (RX7, TX7, 12)) rfl h_p1 rfl) rfl rfl hl.1 rfl (lv_room (Nat.le_of_ble_eq_true rfl)) dX3_beginsLine_53 ⟨Nat.le_of_ble_eq_true rfl, Nat.le_of_ble_eq_true rfl⟩) hw hA ⟨by decide, by decide⟩ (fun ws H locs hp_v_9 hw hF9 => ?_)
          have m_v_3 := AEL.over hw8 hF9 h_vu_1 m_v_3 (by decide)
          have m_u_1 := FLD.over hF9 m_u_1 (by decide)
          obtain ⟨hfn, hp_v_9⟩ := hp_v_9
          have o_p0 := OV.over (V := vw_POST) hF9 o_p0 (by decide)
          obtain ⟨sg_10, q_sg_10⟩ : ∃ q9 : OS, (f_X7_refuse__5 (4 : Int32) s1) = q9 := ⟨_, rfl⟩
          have o_p1 : OV vw_TAPE Ps ws p1 sg_10 := by rw [← q_sg_10]; exact hfn.1
          obtain ⟨v_11, m_v_11, r_v_11⟩ := (hp_v_9.1)
          refine lv_goto (tgt := 92) hx hb dX3_beginsLine_56 (by decide) ?_
          refine lv_aload_n hx hb dX3_beginsLine_92 rfl (lv_at hl 1 rfl) ?_
          refine tk_vr (va_runV (As := []) (rest := []) ⟨hx, hb, hml, hown, hts⟩ (c_X7_pass__4 l D cy z H.size Ps ws hw.1 p1 v_11 sg_10 h_p1 r_v_11 m_v_11 o_p1) (cwV 0 hts (gV tw_451 tw_425 tw_426 tw_2 tw_427) rfl rfl rfl (by decide +kernel) ⟨Nat.le_of_ble_eq_true rfl, Nat.le_of_ble_eq_true rfl⟩) (tg_preV hw hK hSD hA (ci := 7) (q := (RX7, TX7, 12)) rfl h_p1 rfl) rfl rfl hl.1 rfl (lv_room (Nat.le_of_ble_eq_true rfl)) dX3_beginsLine_93 ⟨Nat.le_of_ble_eq_true rfl, Nat.le_of_ble_eq_true rfl⟩) hw hA (fun  H locs hp_v_12 hw => ?_)
          obtain ⟨hfn, hp_v_12⟩ := hp_v_12
          refine lv_aload_n hx hb dX3_beginsLine_96 rfl (lv_at hl 1 rfl) ?_
          refine tg_memN (ci := 7) (C := RX7) (T := TX7) (N := 12) hx hb hts inX7 hown hK hw 10 m_v_11 rfl (by decide) (hSD.nest tn_105) (fun _ h9 => h9) dX3_beginsLine_97 ?_
          have q_v_11 : sg_10.1 10 = v_11 := OV.eqI (V := vw_TAPE) hw.2.2.1 o_p1 m_v_11 (by decide)
          refine lv_if_ne (tgt := 107) hx hb dX3_beginsLine_100 (by decide) (fun c_100 => ?_) (fun c_100 => ?_)
          · refine lv_iconst (v := 0) hx hb dX3_beginsLine_107 (by decide) ?_
            simp only [f_X3_beginsLine__13, ↓reduceIte, eq_false c_4, eq_true c_11, eq_false c_26, q_v_2, q_v_3, eq_false d_48, q_sg_10, q_v_11, eq_false c_100] at hE
            subst hQ
            exact W.zret (v := 0) hx hb hr (rfl) (fun t ht hW => ⟨⟨0, ws, rfl, ⟨⟨⟨(by rw [hR, ← hE]; exact o_p0), (by rw [hR, ← hE]; exact o_p1), (by rw [hR, ← hE]), trivial⟩, rl_0.to (by decide), (fun h0 => ⟨⟨_, m_v_11, r_v_11⟩, trivial⟩), (fun h0 => absurd rfl h0)⟩, hw.1, hw.2.2.2.2.1⟩, by rw [ht]; exact hw.2.1, va_K.moved hW.alike hK, hw.2.2.1⟩, hw.2.2.2.1.F ht⟩) hw.2.2.2.1.2.2 dX3_beginsLine_108
          · have r_v_11 : RI v_11 1 0 := rc_eq1 r_v_11 rl_0 (ti_eq c_100) (by decide)
            exact (r_v_11.no (by decide)).elim
    · have r_p2 : RI p2 137 128 := rc_lt2 rl_136 r_p2 (ti_nle c_11) (by decide)
      exact (r_p2.no (by decide)).elim
abbrev wr_X3_numberOf__5 : List (Nat × Nat) := []
abbrev wa_X3_numberOf__5 : List Nat := []
set_option maxHeartbeats 4000000 in
set_option maxRecDepth 100000 in
theorem c_X3_numberOf__5 (l : Launch) (D : va_G) (cy : Nat → ClassId) (z : Nat → Nat) (sz : Nat) (Ps : PSI) (w0 : va_W) (hT : HT cy GG Ps w0) (p0 : Nat) (p1 : Int64) (p2 : Int32) (s0 : OS) (h_p0 : (p0, 25) ∈ Ps) (r_p1 : RJ p1 (-9223372036854775808) 9223372036854775807) (r_p2 : RI p2 0 3) (o_p0 : OV vw_POST Ps w0 p0 s0) : Met l yX3_numberOf (Cond.code yX3_numberOf cX3_numberOf 5 (some .int) :: gT) ({ frames := 0, cells := 0, slots := 0, locals := 200 } : Room) (va_Pc [.ref p0, .long p1, .int p2] (PRE D cy z w0 sz)) (va_Qi (fun (r : Int32) (u : Unit) => ((f_X3_numberOf__5 p1 p2 s0) = r ∧ True) ∧ (RI r (-1) 7 ∧ (r = 0 → True) ∧ (¬ r = 0 → True))) (BB D cy (va_A w0 sz) (fun (u : Unit) => w0)) (va_A w0 sz)) 0 0 (va_A w0 sz) := by
  refine Met.ofW (cc := cX3_numberOf) (maxL := 5) (ret := (some .int)) (by decide) rfl ?_
  intro p e s m args below meth c s₁ B hml hv
  obtain ⟨rfl, hsz, hP, hK, hD0, hSD⟩ := hv
  have hx := B.exec
  have hb := B.bytes
  have hr := B.returns
  have hlocks := B.notSynchronized
  have hts : ∀ w ∈ gT, w.before _ s = true := fun w h => atoms_spec (ws := Cond.code yX3_numberOf cX3_numberOf 5 (some .int) :: gT) B.pre w (List.mem_cons_of_mem _ h)
  have hown : s.vm.findClass RX3 = some m.cls := findClass_of_methodNamed B.named
  subst hsz
  have hD := hD0.self (sz := s.heap.size)
  generalize hAe : va_A w0 s.heap.size = A at hD hSD ⊢
  have hA : ∀ q : Nat, s.heap.size ≤ q → A q := fun q h => by rw [← hAe]; exact Or.inr h
  have hl := lv_entry ([.ref p0, .long p1, .int p2]) (n := 5) (Nat.le_of_ble_eq_true rfl)
  rw [lg_entry_eq]
  generalize (lg_sl ([.ref p0, .long p1, .int p2]) ++ List.replicate (5 - (lg_sl ([.ref p0, .long p1, .int p2])).length) Slot.unset).toArray = ls at hl ⊢
  have hl : lv_has ls 5 [(0, .ref p0), (1, .long p1), (3, .int p2)] := hl
  refine nameQ (fun Q hQ => ?_)
  have hw : WD D cy GG A s wr_X3_numberOf__5 wa_X3_numberOf__5 Ps w0 Ps w0 s.heap [] := ⟨hT, hP, hD, va_S.rf, FR.rf, hT.1, [], (List.append_nil _).symm⟩
  obtain ⟨R9, hR⟩ : ∃ q9 : Int32, f_X3_numberOf__5 p1 p2 s0 = q9 := ⟨_, rfl⟩
  have hE := hR
  have B3 : ∀ (nf : Nat) (x4 : Int32) (s0 : OS) (H : Heap) (locs : List Loc) (ls : Array Slot), 8 - x4.toInt < (nf : Int) → RJ p1 (-9223372036854775808) 9223372036854775807 → RI p2 0 3 → RI x4 0 8 → OV vw_POST Ps w0 p0 s0 → f_X3_numberOf__5_3 p1 p2 nf x4 s0 = R9 → WD D cy GG A s wr_X3_numberOf__5 wa_X3_numberOf__5 Ps w0 Ps w0 H locs → lv_has ls 5 [(0, .ref p0), (1, .long p1), (3, .int p2), (4, .int x4)] → W p l e (headSpec (Cond.code yX3_numberOf cX3_numberOf 5 (some .int) :: gT) ({ frames := 0, cells := 0, slots := 0, locals := 200 } : Room)).room s m ([.ref p0, .long p1, .int p2] : List Value).toArray below meth c H locs 0 0 Q (F0 m 3 ls []) := by
    intro nf3
    induction nf3 with
    | zero =>
      intro x4 s0 H locs ls hn3 r_p1 r_p2 r_x4 o_p0 hE hw hl
      exact absurd hn3 (by have q0 := r_x4.1; have u0 := r_x4.2; omega)
    | succ nf3 ih3 =>
      intro x4 s0 H locs ls hn3 r_p1 r_p2 r_x4 o_p0 hE hw hl
      refine lv_iload hx hb dX3_numberOf_3 (lv_at hl 3 rfl) ?_
      refine lv_aload_n hx hb dX3_numberOf_5 rfl (lv_at hl 0 rfl) ?_
      refine tg_get (ci := 3) (ts := ty_POST) (C := RX3) (T := TX3) (N := 9) hx hb hts inX3 hown hK hw h_p0 rfl rfl 1 (by decide) (hts _ tw_201) (fun _ h9 => h9) (ft := vR 4) rfl dX3_numberOf_6 (fun u_1 hv_u_1 m_u_1 => ?_)
      obtain ⟨vu_1, rfl, h_vu_1⟩ := hv_u_1
      refine lv_iload_n hx hb dX3_numberOf_9 rfl (lv_at hl 2 rfl) ?_
      refine tg_iald (lo := 0) (hi := 8) hx hb hK hw h_vu_1 rfl 0 3 r_p2 (by decide) (by decide +kernel) dX3_numberOf_10 (fun v_2 r_v_2 m_v_2 o_v_2 => ?_)
      have q_v_2 : s0.2.2.1 1 (Int32.toNatClampNeg p2) = v_2 := OV.eqA (V := vw_POST) (t := 4) hw.2.2.1 o_p0 m_u_1 m_v_2 (by decide)
      refine lv_icmp_ge (tgt := 40) hx hb dX3_numberOf_11 (by decide) (fun c_11 => ?_) (fun c_11 => ?_)
      · refine lv_iconst (v := (-1)) hx hb dX3_numberOf_40 (by decide) ?_
        simp only [f_X3_numberOf__5_3, ↓reduceIte, q_v_2, eq_true c_11] at hE
        subst hQ
        exact W.iret (v := (-1)) hx hb hr (fun t ht hW => ⟨⟨(-1), (), rfl, ⟨⟨(by rw [hR, ← hE]), trivial⟩, rl_m1.to (by decide), (fun _ => trivial), (fun h0 => trivial)⟩, by rw [ht]; exact hw.2.1, va_K.moved hW.alike hK, hw.2.2.1⟩, hw.2.2.2.1.F ht⟩) hw.2.2.2.1.2.2 dX3_numberOf_41
      · have r_x4 : RI x4 0 7 := rc_lt1 r_x4 r_v_2 (ti_nle c_11) (by decide)
        have r_v_2 : RI v_2 1 8 := rc_lt2 r_x4 r_v_2 (ti_nle c_11) (by decide)
        refine lv_aload_n hx hb dX3_numberOf_14 rfl (lv_at hl 0 rfl) ?_
        refine tg_get (ci := 3) (ts := ty_POST) (C := RX3) (T := TX3) (N := 9) hx hb hts inX3 hown hK hw h_p0 rfl rfl 0 (by decide) (hts _ tw_200) (fun _ h9 => h9) (ft := vR 1) rfl dX3_numberOf_15 (fun u_3 hv_u_3 m_u_3 => ?_)
        obtain ⟨vu_3, rfl, h_vu_3⟩ := hv_u_3
        refine lv_iload_n hx hb dX3_numberOf_18 rfl (lv_at hl 2 rfl) ?_
        refine lv_bipush (v := 8) hx hb dX3_numberOf_19 (by decide) ?_
        refine lv_imul hx hb dX3_numberOf_21 (lv_topi (fun v_4 e_v_4 => ?_))
        obtain ⟨t_v_4, r_v_4⟩ := tq_mul (lo := 0) (hi := 24) r_p2 rl_8 (by decide +kernel) e_v_4
        have t_v_4 : v_4.toInt = p2.toInt * 8 := t_v_4
        have q_v_4 : p2 * (8 : Int32) = v_4 := e_v_4.symm
        refine lv_iload hx hb dX3_numberOf_22 (lv_at hl 3 rfl) ?_
        refine lv_iadd hx hb dX3_numberOf_24 (lv_topi (fun v_5 e_v_5 => ?_))
        obtain ⟨t_v_5, r_v_5⟩ := tq_add (lo := 0) (hi := 31) r_v_4 r_x4 (by decide +kernel) e_v_5
        have q_v_5 : v_4 + x4 = v_5 := e_v_5.symm
        refine tg_laldE hx hb hK hw h_vu_3 rfl r_v_5 (by decide) dX3_numberOf_25 (fun w_6 r_w_6 l_w_6 => ?_)
        have q_w_6 : s0.2.2.2 0 (Int32.toNatClampNeg v_5) = w_6 := OV.eqB (V := vw_POST) (t := 1) hw.2.2.1 o_p0 m_u_3 l_w_6 (by decide)
        refine lv_lload_n hx hb dX3_numberOf_26 rfl (lv_at hl 1 rfl) ?_
        refine W.lcmp hx hb dX3_numberOf_27 (lv_topi (fun v_7 e_v_7 => ?_))
        have r_v_7 := ri_any v_7
        have q_v_7 : lg_cmp w_6 p1 = v_7 := e_v_7.symm
        refine lv_if_ne (tgt := 34) hx hb dX3_numberOf_28 (by decide) (fun c_28 => ?_) (fun c_28 => ?_)
        · obtain ⟨v_8, e_v_8⟩ : ∃ q9 : Int32, q9 = x4 + Int32.ofInt 1 := ⟨_, rfl⟩
          obtain ⟨t_v_8, r_v_8⟩ := tq_add (lo := 1) (hi := 8) r_x4 (show RI (Int32.ofInt 1) 1 1 by unfold RI; decide +kernel) (by decide +kernel) e_v_8
          have t_v_8 : v_8.toInt = x4.toInt + 1 := t_v_8
          refine lv_iinc (v := v_8) (lv' := [(4, .int v_8), (0, .ref p0), (1, .long p1), (3, .int p2)]) hx hb dX3_numberOf_34 hl (k := 3) rfl e_v_8.symm (by decide) rfl (fun ls hl => ?_)
          have q_v_8 : x4 + (1 : Int32) = v_8 := by rw [e_v_8, show Int32.ofInt 1 = (1 : Int32) by decide]
          refine lv_goto (tgt := 3) hx hb dX3_numberOf_37 (by decide) ?_
          simp only [f_X3_numberOf__5_3, ↓reduceIte, q_v_2, eq_false c_11, q_v_4, q_v_5, q_w_6, q_v_7, eq_false c_28, q_v_8] at hE
          exact ih3 v_8 s0 _ _ ls (by have q0 := r_v_8.1; have u0 := r_v_8.2; have o0 := r_x4.1; have p0 := r_x4.2; omega) r_p1 r_p2 (r_v_8.to (by decide)) o_p0 hE hw (lv_sub hl [1, 2, 3, 0] rfl)
        · have r_v_7 : RI v_7 0 0 := rc_eq1 r_v_7 rl_0 (ti_eq c_28) (by decide)
          refine lv_iload hx hb dX3_numberOf_31 (lv_at hl 3 rfl) ?_
          simp only [f_X3_numberOf__5_3, ↓reduceIte, q_v_2, eq_false c_11, q_v_4, q_v_5, q_w_6, q_v_7, eq_true c_28] at hE
          subst hQ
          exact W.iret (v := x4) hx hb hr (fun t ht hW => ⟨⟨x4, (), rfl, ⟨⟨(by rw [hR, ← hE]), trivial⟩, r_x4.to (by decide), (fun h0 => trivial), (fun h0 => trivial)⟩, by rw [ht]; exact hw.2.1, va_K.moved hW.alike hK, hw.2.2.1⟩, hw.2.2.2.1.F ht⟩) hw.2.2.2.1.2.2 dX3_numberOf_33
  refine lv_iconst (v := 0) hx hb dX3_numberOf_0 (by decide) ?_
  refine lv_istore (lv' := [(4, .int 0), (0, .ref p0), (1, .long p1), (3, .int p2)]) hx hb dX3_numberOf_1 hl (by decide) rfl (fun ls hl => ?_)
  simp only [f_X3_numberOf__5, ↓reduceIte] at hE
  exact B3 4294967298 0 s0 _ _ ls (by have q0 := rl_0.1; have u0 := rl_0.2; omega) r_p1 r_p2 (rl_0.to (by decide)) o_p0 hE hw (lv_sub hl [1, 2, 3, 0] rfl)
abbrev wr_X3_isTold__1 : List (Nat × Nat) := []
abbrev wa_X3_isTold__1 : List Nat := []
set_option maxHeartbeats 4000000 in
set_option maxRecDepth 100000 in
theorem c_X3_isTold__1 (l : Launch) (D : va_G) (cy : Nat → ClassId) (z : Nat → Nat) (sz : Nat) (Ps : PSI) (w0 : va_W) (hT : HT cy GG Ps w0) (p0 : Nat) (p1 : Int64) (s0 : OS) (h_p0 : (p0, 25) ∈ Ps) (r_p1 : RJ p1 (-9223372036854775808) 9223372036854775807) (o_p0 : OV vw_POST Ps w0 p0 s0) : Met l yX3_isTold (Cond.code yX3_isTold cX3_isTold 4 (some .boolean) :: gT) ({ frames := 2, cells := 0, slots := 0, locals := 400 } : Room) (va_Pc [.ref p0, .long p1] (PRE D cy z w0 sz)) (va_Qi (fun (r : Int32) (u : Unit) => ((f_X3_isTold__1 p1 s0) = r ∧ True) ∧ (RI r 0 1 ∧ (r = 0 → True) ∧ (¬ r = 0 → True))) (BB D cy (va_A w0 sz) (fun (u : Unit) => w0)) (va_A w0 sz)) 0 0 (va_A w0 sz) := by
  refine Met.ofW (cc := cX3_isTold) (maxL := 4) (ret := (some .boolean)) (by decide) rfl ?_
  intro p e s m args below meth c s₁ B hml hv
  obtain ⟨rfl, hsz, hP, hK, hD0, hSD⟩ := hv
  have hx := B.exec
  have hb := B.bytes
  have hr := B.returns
  have hlocks := B.notSynchronized
  have hts : ∀ w ∈ gT, w.before _ s = true := fun w h => atoms_spec (ws := Cond.code yX3_isTold cX3_isTold 4 (some .boolean) :: gT) B.pre w (List.mem_cons_of_mem _ h)
  have hown : s.vm.findClass RX3 = some m.cls := findClass_of_methodNamed B.named
  subst hsz
  have hD := hD0.self (sz := s.heap.size)
  generalize hAe : va_A w0 s.heap.size = A at hD hSD ⊢
  have hA : ∀ q : Nat, s.heap.size ≤ q → A q := fun q h => by rw [← hAe]; exact Or.inr h
  have hl := lv_entry ([.ref p0, .long p1]) (n := 4) (Nat.le_of_ble_eq_true rfl)
  rw [lg_entry_eq]
  generalize (lg_sl ([.ref p0, .long p1]) ++ List.replicate (4 - (lg_sl ([.ref p0, .long p1])).length) Slot.unset).toArray = ls at hl ⊢
  have hl : lv_has ls 4 [(0, .ref p0), (1, .long p1)] := hl
  refine nameQ (fun Q hQ => ?_)
  have hw : WD D cy GG A s wr_X3_isTold__1 wa_X3_isTold__1 Ps w0 Ps w0 s.heap [] := ⟨hT, hP, hD, va_S.rf, FR.rf, hT.1, [], (List.append_nil _).symm⟩
  obtain ⟨R9, hR⟩ : ∃ q9 : Int32, f_X3_isTold__1 p1 s0 = q9 := ⟨_, rfl⟩
  have hE := hR
  have B2 : ∀ (nf : Nat) (x3 : Int32) (s0 : OS) (H : Heap) (locs : List Loc) (ls : Array Slot), 4 - x3.toInt < (nf : Int) → RJ p1 (-9223372036854775808) 9223372036854775807 → RI x3 0 4 → OV vw_POST Ps w0 p0 s0 → f_X3_isTold__1_2 p1 nf x3 s0 = R9 → WD D cy GG A s wr_X3_isTold__1 wa_X3_isTold__1 Ps w0 Ps w0 H locs → lv_has ls 4 [(0, .ref p0), (1, .long p1), (3, .int x3)] → W p l e (headSpec (Cond.code yX3_isTold cX3_isTold 4 (some .boolean) :: gT) ({ frames := 2, cells := 0, slots := 0, locals := 400 } : Room)).room s m ([.ref p0, .long p1] : List Value).toArray below meth c H locs 0 0 Q (F0 m 2 ls []) := by
    intro nf2
    induction nf2 with
    | zero =>
      intro x3 s0 H locs ls hn2 r_p1 r_x3 o_p0 hE hw hl
      exact absurd hn2 (by have q0 := r_x3.1; have u0 := r_x3.2; omega)
    | succ nf2 ih2 =>
      intro x3 s0 H locs ls hn2 r_p1 r_x3 o_p0 hE hw hl
      refine lv_iload_n hx hb dX3_isTold_2 rfl (lv_at hl 2 rfl) ?_
      refine lv_aload_n hx hb dX3_isTold_3 rfl (lv_at hl 0 rfl) ?_
      refine tg_get (ci := 3) (ts := ty_POST) (C := RX3) (T := TX3) (N := 9) hx hb hts inX3 hown hK hw h_p0 rfl rfl 1 (by decide) (hts _ tw_201) (fun _ h9 => h9) (ft := vR 4) rfl dX3_isTold_4 (fun u_1 hv_u_1 m_u_1 => ?_)
      obtain ⟨vu_1, rfl, h_vu_1⟩ := hv_u_1
      refine tg_alenI (t0 := 1) (v := 4) hx hb hK hw h_vu_1 rfl rfl rfl dX3_isTold_7 ?_
      refine lv_icmp_ge (tgt := 29) hx hb dX3_isTold_8 (by decide) (fun c_8 => ?_) (fun c_8 => ?_)
      · have r_x3 : RI x3 4 4 := rc_le2 rl_4 r_x3 (ti_le c_8) (by decide)
        refine lv_iconst (v := 0) hx hb dX3_isTold_29 (by decide) ?_
        simp only [f_X3_isTold__1_2, ↓reduceIte, eq_true c_8] at hE
        subst hQ
        exact W.zret (v := 0) hx hb hr (rfl) (fun t ht hW => ⟨⟨0, (), rfl, ⟨⟨(by rw [hR, ← hE]), trivial⟩, rl_0.to (by decide), (fun h0 => trivial), (fun _ => trivial)⟩, by rw [ht]; exact hw.2.1, va_K.moved hW.alike hK, hw.2.2.1⟩, hw.2.2.2.1.F ht⟩) hw.2.2.2.1.2.2 dX3_isTold_30
      · have r_x3 : RI x3 0 3 := rc_lt1 r_x3 rl_4 (ti_nle c_8) (by decide)
        refine lv_aload_n hx hb dX3_isTold_11 rfl (lv_at hl 0 rfl) ?_
        refine lv_lload_n hx hb dX3_isTold_12 rfl (lv_at hl 1 rfl) ?_
        refine lv_iload_n hx hb dX3_isTold_13 rfl (lv_at hl 2 rfl) ?_
        refine tk_ir (va_runV (As := [.long p1, .int x3]) (rest := []) ⟨hx, hb, hml, hown, hts⟩ (c_X3_numberOf__5 l D cy z H.size Ps w0 hw.1 p0 p1 x3 s0 h_p0 r_p1 r_x3 o_p0) (cwV 2 hts (gV tw_511 tw_461 tw_462 tw_11 tw_463) rfl rfl rfl (by decide +kernel) ⟨Nat.le_of_ble_eq_true rfl, Nat.le_of_ble_eq_true rfl⟩) (tg_preV hw hK hSD hA (ci := 3) (q := (RX3, TX3, 9)) rfl h_p0 rfl) rfl rfl hl.1 rfl (lv_room (Nat.le_of_ble_eq_true rfl)) dX3_isTold_14 ⟨Nat.le_of_ble_eq_true rfl, Nat.le_of_ble_eq_true rfl⟩) hw hA (fun v_2  H locs hp_v_2 hw => ?_)
        obtain ⟨hfn, hp_v_2⟩ := hp_v_2
        have q_v_2 : (f_X3_numberOf__5 p1 x3 s0) = v_2 := hfn.1
        have r_v_2 : RI v_2 (-1) 7 := hp_v_2.1
        refine lv_iconst (v := (-1)) hx hb dX3_isTold_17 (by decide) ?_
        refine lv_icmp_eq (tgt := 23) hx hb dX3_isTold_18 (by decide) (fun c_18 => ?_) (fun c_18 => ?_)
        · have r_v_2 : RI v_2 (-1) (-1) := rc_eq1 r_v_2 rl_m1 (ti_eq c_18) (by decide)
          obtain ⟨v_3, e_v_3⟩ : ∃ q9 : Int32, q9 = x3 + Int32.ofInt 1 := ⟨_, rfl⟩
          obtain ⟨t_v_3, r_v_3⟩ := tq_add (lo := 1) (hi := 4) r_x3 (show RI (Int32.ofInt 1) 1 1 by unfold RI; decide +kernel) (by decide +kernel) e_v_3
          have t_v_3 : v_3.toInt = x3.toInt + 1 := t_v_3
          refine lv_iinc (v := v_3) (lv' := [(3, .int v_3), (0, .ref p0), (1, .long p1)]) hx hb dX3_isTold_23 hl (k := 2) rfl e_v_3.symm (by decide) rfl (fun ls hl => ?_)
          have q_v_3 : x3 + (1 : Int32) = v_3 := by rw [e_v_3, show Int32.ofInt 1 = (1 : Int32) by decide]
          refine lv_goto (tgt := 2) hx hb dX3_isTold_26 (by decide) ?_
          simp only [f_X3_isTold__1_2, ↓reduceIte, eq_false c_8, q_v_2, eq_true c_18, q_v_3] at hE
          exact ih2 v_3 s0 _ _ ls (by have q0 := r_v_3.1; have u0 := r_v_3.2; have o0 := r_x3.1; have p0 := r_x3.2; omega) r_p1 (r_v_3.to (by decide)) o_p0 hE hw (lv_sub hl [1, 2, 0] rfl)
        · have r_v_2 : RI v_2 0 7 := rc_neL r_v_2 rl_m1 (ti_ne c_18) (by decide)
          refine lv_iconst (v := 1) hx hb dX3_isTold_21 (by decide) ?_
          simp only [f_X3_isTold__1_2, ↓reduceIte, eq_false c_8, q_v_2, eq_false c_18] at hE
          subst hQ
          exact W.zret (v := 1) hx hb hr (rfl) (fun t ht hW => ⟨⟨1, (), rfl, ⟨⟨(by rw [hR, ← hE]), trivial⟩, rl_1.to (by decide), (fun _ => trivial), (fun h0 => trivial)⟩, by rw [ht]; exact hw.2.1, va_K.moved hW.alike hK, hw.2.2.1⟩, hw.2.2.2.1.F ht⟩) hw.2.2.2.1.2.2 dX3_isTold_22
  refine lv_iconst (v := 0) hx hb dX3_isTold_0 (by decide) ?_
  refine lv_istore_n (lv' := [(3, .int 0), (0, .ref p0), (1, .long p1)]) hx hb dX3_isTold_1 rfl hl (by decide) rfl (fun ls hl => ?_)
  simp only [f_X3_isTold__1, ↓reduceIte] at hE
  exact B2 4294967298 0 s0 _ _ ls (by have q0 := rl_0.1; have u0 := rl_0.2; omega) r_p1 (rl_0.to (by decide)) o_p0 hE hw (lv_sub hl [1, 2, 0] rfl)
abbrev wr_X3_tellName__4 : List (Nat × Nat) := [(7, 5), (7, 6), (7, 7), (7, 8), (7, 9), (7, 10), (7, 11)]
abbrev wa_X3_tellName__4 : List Nat := [1, 4]
set_option maxHeartbeats 4000000 in
set_option maxRecDepth 100000 in
theorem c_X3_tellName__4 (l : Launch) (D : va_G) (cy : Nat → ClassId) (z : Nat → Nat) (sz : Nat) (Ps : PSI) (w0 : va_W) (hT : HT cy GG Ps w0) (p0 : Nat) (p1 : Nat) (p2 : Int32) (s0 : OS) (s1 : OS) (h_p0 : (p0, 25) ∈ Ps) (h_p1 : (p1, 26) ∈ Ps) (r_p2 : RI p2 0 0) (x_MLT_p0_0 : AXC 3 1 4 (fun f => (f 0).toInt < 6) Ps w0 p0) (o_p0 : OV vw_POST Ps w0 p0 s0) (o_p1 : OV vw_TAPE Ps w0 p1 s1) : Met l yX3_tellName (Cond.code yX3_tellName cX3_tellName 4 (some .int) :: gT) ({ frames := 3, cells := 0, slots := 0, locals := 600 } : Room) (va_Pc [.ref p0, .ref p1, .int p2] (PRE D cy z w0 sz)) (va_Qi (fun (r : Int32) (u : va_W) => ((OV vw_POST Ps u p0 ((f_X3_tellName__4 p2 s0 s1).1) ∧ OV vw_TAPE Ps u p1 ((f_X3_tellName__4 p2 s0 s1).2.1) ∧ (f_X3_tellName__4 p2 s0 s1).2.2 = r ∧ True) ∧ (RI r (-1) 5 ∧ (r = 0 → (∃ v9 : Int32, FLD u p1 7 10 (.int v9) ∧ RI v9 0 0) ∧ True) ∧ (¬ r = 0 → True))) ∧ HT cy GG Ps u ∧ FR wr_X3_tellName__4 wa_X3_tellName__4 Ps w0 u) (BB D cy (va_A w0 sz) (fun (u : va_W) => u)) (va_A w0 sz)) 0 0 (va_A w0 sz) := by
  refine Met.ofW (cc := cX3_tellName) (maxL := 4) (ret := (some .int)) (by decide) rfl ?_
  intro p e s m args below meth c s₁ B hml hv
  obtain ⟨rfl, hsz, hP, hK, hD0, hSD⟩ := hv
  have hx := B.exec
  have hb := B.bytes
  have hr := B.returns
  have hlocks := B.notSynchronized
  have hts : ∀ w ∈ gT, w.before _ s = true := fun w h => atoms_spec (ws := Cond.code yX3_tellName cX3_tellName 4 (some .int) :: gT) B.pre w (List.mem_cons_of_mem _ h)
  have hown : s.vm.findClass RX3 = some m.cls := findClass_of_methodNamed B.named
  subst hsz
  have hD := hD0.self (sz := s.heap.size)
  generalize hAe : va_A w0 s.heap.size = A at hD hSD ⊢
  have hA : ∀ q : Nat, s.heap.size ≤ q → A q := fun q h => by rw [← hAe]; exact Or.inr h
  have hl := lv_entry ([.ref p0, .ref p1, .int p2]) (n := 4) (Nat.le_of_ble_eq_true rfl)
  rw [lg_entry_eq]
  generalize (lg_sl ([.ref p0, .ref p1, .int p2]) ++ List.replicate (4 - (lg_sl ([.ref p0, .ref p1, .int p2])).length) Slot.unset).toArray = ls at hl ⊢
  have hl : lv_has ls 4 [(0, .ref p0), (1, .ref p1), (2, .int p2)] := hl
  refine nameQ (fun Q hQ => ?_)
  have hw : WD D cy GG A s wr_X3_tellName__4 wa_X3_tellName__4 Ps w0 Ps w0 s.heap [] := ⟨hT, hP, hD, va_S.rf, FR.rf, hT.1, [], (List.append_nil _).symm⟩
  obtain ⟨R9, hR⟩ : ∃ q9 : OS × OS × Int32, f_X3_tellName__4 p2 s0 s1 = q9 := ⟨_, rfl⟩
  have hE := hR
  have B32 : ∀ (s0 : OS) (s1 : OS) (ws : va_W) (H : Heap) (locs : List Loc) (ls : Array Slot), RI p2 0 0 → AXC 3 1 4 (fun f => (f 0).toInt < 6) Ps ws p0 → OV vw_POST Ps ws p0 s0 → OV vw_TAPE Ps ws p1 s1 → f_X3_tellName__4_32 p2 s0 s1 = R9 → WD D cy GG A s wr_X3_tellName__4 wa_X3_tellName__4 Ps w0 Ps ws H locs → lv_has ls 4 [(0, .ref p0), (1, .ref p1), (2, .int p2)] → W p l e (headSpec (Cond.code yX3_tellName cX3_tellName 4 (some .int) :: gT) ({ frames := 3, cells := 0, slots := 0, locals := 600 } : Room)).room s m ([.ref p0, .ref p1, .int p2] : List Value).toArray below meth c H locs 0 0 Q (F0 m 32 ls []) := by
    intro s0 s1 ws H locs ls r_p2 x_MLT_p0_0 o_p0 o_p1 hE hw hl
    refine lv_aload_n hx hb dX3_tellName_32 rfl (lv_at hl 1 rfl) ?_
    refine tg_getN (ci := 7) (ts := ty_TAPE) (C := RX7) (T := TX7) (N := 12) hx hb hts inX7 hown hK hw h_p1 rfl rfl 10 (by decide) (hSD.nest tn_105) (fun _ h9 => h9) (ft := vI 0 4) rfl dX3_tellName_33 (fun u_1 hv_u_1 m_u_1 => ?_)
    obtain ⟨vu_1, rfl, r_vu_1⟩ := hv_u_1
    have q_vu_1 : s1.1 10 = vu_1 := OV.eqI (V := vw_TAPE) hw.2.2.1 o_p1 m_u_1 (by decide)
    refine lv_if_eq (tgt := 41) hx hb dX3_tellName_36 (by decide) (fun c_36 => ?_) (fun c_36 => ?_)
    · have r_vu_1 : RI vu_1 0 0 := rc_eq1 r_vu_1 rl_0 (ti_eq c_36) (by decide)
      refine lv_aload_n hx hb dX3_tellName_41 rfl (lv_at hl 0 rfl) ?_
      refine tg_get (ci := 3) (ts := ty_POST) (C := RX3) (T := TX3) (N := 9) hx hb hts inX3 hown hK hw h_p0 rfl rfl 1 (by decide) (hts _ tw_201) (fun _ h9 => h9) (ft := vR 4) rfl dX3_tellName_42 (fun u_2 hv_u_2 m_u_2 => ?_)
      obtain ⟨vu_2, rfl, h_vu_2⟩ := hv_u_2
      refine lv_iload_n hx hb dX3_tellName_45 rfl (lv_at hl 2 rfl) ?_
      refine tg_iald (lo := 0) (hi := 6) hx hb hK hw h_vu_2 rfl 0 0 r_p2 (by decide) (by decide +kernel) dX3_tellName_46 (fun v_3 r_v_3 m_v_3 o_v_3 => ?_)
      have q_v_3 : s0.2.2.1 1 (Int32.toNatClampNeg p2) = v_3 := OV.eqA (V := vw_POST) (t := 4) hw.2.2.1 o_p0 m_u_2 m_v_3 (by decide)
      have r_v_3 : RI v_3 0 5 := ⟨r_v_3.1, by obtain ⟨f9, q9, e9⟩ := AXC.use hw x_MLT_p0_0 m_u_2 m_v_3; have j9 : Int32.toNatClampNeg p2 = 0 := (by have k1 := r_p2.cl (by decide); have k2 := r_p2.eq; omega); rw [j9] at e9; have q8 : (f9 0).toInt < 6 := q9; rw [e9] at q8; omega⟩
      refine lv_istore_n (lv' := [(3, .int v_3), (0, .ref p0), (1, .ref p1), (2, .int p2)]) hx hb dX3_tellName_47 rfl hl (by decide) rfl (fun ls hl => ?_)
      refine lv_aload_n hx hb dX3_tellName_48 rfl (lv_at hl 1 rfl) ?_
      refine tg_get (ci := 3) (ts := ty_POST) (C := RX3) (T := TX3) (N := 9) hx hb hts inX3 hown hK hw h_p0 rfl rfl 0 (by decide) (hts _ tw_200) (fun _ h9 => h9) (ft := vR 1) rfl dX3_tellName_49 (fun u_4 hv_u_4 m_u_4 => ?_)
      obtain ⟨vu_4, rfl, h_vu_4⟩ := hv_u_4
      refine lv_iload_n hx hb dX3_tellName_52 rfl (lv_at hl 3 rfl) ?_
      refine lv_bipush (v := 8) hx hb dX3_tellName_53 (by decide) ?_
      refine lv_imul hx hb dX3_tellName_55 (lv_topi (fun v_5 e_v_5 => ?_))
      obtain ⟨t_v_5, r_v_5⟩ := tq_mul (lo := 0) (hi := 0) r_p2 rl_8 (by decide +kernel) e_v_5
      have t_v_5 : v_5.toInt = p2.toInt * 8 := t_v_5
      have q_v_5 : p2 * (8 : Int32) = v_5 := e_v_5.symm
      refine lv_iload_n hx hb dX3_tellName_56 rfl (lv_at hl 0 rfl) ?_
      refine lv_iadd hx hb dX3_tellName_57 (lv_topi (fun v_6 e_v_6 => ?_))
      obtain ⟨t_v_6, r_v_6⟩ := tq_add (lo := 0) (hi := 5) r_v_5 r_v_3 (by decide +kernel) e_v_6
      have q_v_6 : v_5 + v_3 = v_6 := e_v_6.symm
      refine lv_aload_n hx hb dX3_tellName_58 rfl (lv_at hl 2 rfl) ?_
      refine tg_getN (ci := 7) (ts := ty_TAPE) (C := RX7) (T := TX7) (N := 12) hx hb hts inX7 hown hK hw h_p1 rfl rfl 8 (by decide) (hSD.nest tn_99) (fun _ h9 => h9) (ft := vJ (-9223372036854775808) 9223372036854775807) rfl dX3_tellName_59 (fun u_7 hv_u_7 m_u_7 => ?_)
      obtain ⟨vu_7, rfl, r_vu_7⟩ := hv_u_7
      have q_vu_7 : s1.2.1 8 = vu_7 := OV.eqL (V := vw_TAPE) hw.2.2.1 o_p1 m_u_7 (by decide)
      have mo9 := m_u_4
      refine tg_lastE hx hb hK hw h_vu_4 rfl r_v_6 (by decide) r_vu_7 (by decide) (by decide) dX3_tellName_62 (fun ws H locs hw hF9 hU9 => ?_)
      have x_MLT_p0_0 := AXC.over hF9 x_MLT_p0_0 (by decide)
      have m_u_1 := FLD.over hF9 m_u_1 (by decide)
      have m_u_2 := FLD.over hF9 m_u_2 (by decide)
      have m_u_4 := FLD.over hF9 m_u_4 (by decide)
      have m_u_7 := FLD.over hF9 m_u_7 (by decide)
      have o_p1 := OV.over (V := vw_TAPE) hF9 o_p1 (by decide)
      obtain ⟨sg_8, q_sg_8⟩ : ∃ q9 : OS, sB s0 0 (Int32.toNatClampNeg v_6) vu_7 = q9 := ⟨_, rfl⟩
      have o_p0 : OV vw_POST Ps ws p0 sg_8 := by rw [← q_sg_8]; exact OV.putB (V := vw_POST) (t := 1) hF9 hU9 o_p0 mo9 (by decide) (by decide)
      refine lv_aload_n hx hb dX3_tellName_63 rfl (lv_at hl 1 rfl) ?_
      refine tg_mem (ci := 3) (C := RX3) (T := TX3) (N := 9) hx hb hts inX3 hown hK hw 1 m_u_2 rfl (by decide) (hts _ tw_201) (fun _ h9 => h9) dX3_tellName_64 ?_
      refine lv_iload_n hx hb dX3_tellName_67 rfl (lv_at hl 3 rfl) ?_
      refine lv_iload_n hx hb dX3_tellName_68 rfl (lv_at hl 0 rfl) ?_
      refine lv_iconst (v := 1) hx hb dX3_tellName_69 (by decide) ?_
      refine lv_iadd hx hb dX3_tellName_70 (lv_topi (fun v_9 e_v_9 => ?_))
      obtain ⟨t_v_9, r_v_9⟩ := tq_add (lo := 1) (hi := 6) r_v_3 rl_1 (by decide +kernel) e_v_9
      have t_v_9 : v_9.toInt = v_3.toInt + 1 := t_v_9
      have q_v_9 : v_3 + (1 : Int32) = v_9 := e_v_9.symm
      have mo9 := m_u_2
      refine tg_iast hx hb hK hw h_vu_2 rfl 0 0 r_p2 (by decide) r_v_9 (by decide +kernel) (fun _ _ _ _ _ => trivial) (by decide) dX3_tellName_71 (fun ws H locs hw hF9 hU9 => ?_)
      have m_u_1 := FLD.over hF9 m_u_1 (by decide)
      have m_u_2 := FLD.over hF9 m_u_2 (by decide)
      have m_u_4 := FLD.over hF9 m_u_4 (by decide)
      have m_u_7 := FLD.over hF9 m_u_7 (by decide)
      have o_p1 := OV.over (V := vw_TAPE) hF9 o_p1 (by decide)
      obtain ⟨sg_10, q_sg_10⟩ : ∃ q9 : OS, sA sg_8 1 (Int32.toNatClampNeg p2) v_9 = q9 := ⟨_, rfl⟩
      have o_p0 : OV vw_POST Ps ws p0 sg_10 := by rw [← q_sg_10]; exact OV.putA (V := vw_POST) (t := 4) hF9 hU9 o_p0 mo9 (by decide) (by decide)
      refine lv_aload_n hx hb dX3_tellName_72 rfl (lv_at hl 2 rfl) ?_
      refine tk_v (va_runV (As := []) (rest := []) ⟨hx, hb, hml, hown, hts⟩ (c_X7_pass__5 l D cy z H.size Ps ws hw.1 p1 vu_1 s1 h_p1 r_vu_1 m_u_1 o_p1) (cwV 0 hts (gV tw_451 tw_425 tw_426 tw_2 tw_427) rfl rfl rfl (by decide +kernel) ⟨Nat.le_of_ble_eq_true rfl, Nat.le_of_ble_eq_true rfl⟩) (tg_preV hw hK hSD hA (ci := 7) (q := (RX7, TX7, 12)) rfl h_p1 rfl) rfl rfl hl.1 rfl (lv_room (Nat.le_of_ble_eq_true rfl)) dX3_tellName_73 ⟨Nat.le_of_ble_eq_true rfl, Nat.le_of_ble_eq_true rfl⟩) hw hA ⟨by decide, by decide⟩ (fun ws H locs hp_v_11 hw hF9 => ?_)
      have m_u_1 := FLD.over hF9 m_u_1 (by decide)
      have m_u_2 := FLD.over hF9 m_u_2 (by decide)
      have m_u_4 := FLD.over hF9 m_u_4 (by decide)
      obtain ⟨hfn, hp_v_11⟩ := hp_v_11
      have o_p0 := OV.over (V := vw_POST) hF9 o_p0 (by decide)
      obtain ⟨sg_12, q_sg_12⟩ : ∃ q9 : OS, (f_X7_pass__5 s1) = q9 := ⟨_, rfl⟩
      have o_p1 : OV vw_TAPE Ps ws p1 sg_12 := by rw [← q_sg_12]; exact hfn.1
      obtain ⟨v_13, m_v_13, r_v_13⟩ := (hp_v_11.1)
      refine lv_iload_n hx hb dX3_tellName_76 rfl (lv_at hl 0 rfl) ?_
      simp only [f_X3_tellName__4_32, ↓reduceIte, q_vu_1, eq_true c_36, q_v_3, q_v_5, q_v_6, q_vu_7, q_sg_8, q_v_9, q_sg_10, q_sg_12] at hE
      subst hQ
      exact W.iret (v := v_3) hx hb hr (fun t ht hW => ⟨⟨v_3, ws, rfl, ⟨⟨⟨(by rw [hR, ← hE]; exact o_p0), (by rw [hR, ← hE]; exact o_p1), (by rw [hR, ← hE]), trivial⟩, r_v_3.to (by decide), (fun h0 => ⟨⟨_, m_v_13, r_v_13⟩, trivial⟩), (fun h0 => trivial)⟩, hw.1, hw.2.2.2.2.1⟩, by rw [ht]; exact hw.2.1, va_K.moved hW.alike hK, hw.2.2.1⟩, hw.2.2.2.1.F ht⟩) hw.2.2.2.1.2.2 dX3_tellName_77
    · have r_vu_1 : RI vu_1 1 4 := rc_neL r_vu_1 rl_0 (ti_ne c_36) (by decide)
      refine lv_iconst (v := (-1)) hx hb dX3_tellName_39 (by decide) ?_
      simp only [f_X3_tellName__4_32, ↓reduceIte, q_vu_1, eq_false c_36] at hE
      subst hQ
      exact W.iret (v := (-1)) hx hb hr (fun t ht hW => ⟨⟨(-1), ws, rfl, ⟨⟨⟨(by rw [hR, ← hE]; exact o_p0), (by rw [hR, ← hE]; exact o_p1), (by rw [hR, ← hE]), trivial⟩, rl_m1.to (by decide), (fun h0 => absurd h0 (by decide)), (fun h0 => trivial)⟩, hw.1, hw.2.2.2.2.1⟩, by rw [ht]; exact hw.2.1, va_K.moved hW.alike hK, hw.2.2.1⟩, hw.2.2.2.1.F ht⟩) hw.2.2.2.1.2.2 dX3_tellName_40
  refine lv_aload_n hx hb dX3_tellName_0 rfl (lv_at hl 1 rfl) ?_
  refine tg_getN (ci := 7) (ts := ty_TAPE) (C := RX7) (T := TX7) (N := 12) hx hb hts inX7 hown hK hw h_p1 rfl rfl 7 (by decide) (hSD.nest tn_97) (fun _ h9 => h9) (ft := vI (-2147483648) 2147483647) rfl dX3_tellName_1 (fun u_14 hv_u_14 m_u_14 => ?_)
  obtain ⟨vu_14, rfl, r_vu_14⟩ := hv_u_14
  have q_vu_14 : s1.1 7 = vu_14 := OV.eqI (V := vw_TAPE) hw.2.2.1 o_p1 m_u_14 (by decide)
  refine lv_iconst (v := 2) hx hb dX3_tellName_4 (by decide) ?_
  refine lv_icmp_eq (tgt := 16) hx hb dX3_tellName_5 (by decide) (fun c_5 => ?_) (fun c_5 => ?_)
  · have r_vu_14 : RI vu_14 2 2 := rc_eq1 r_vu_14 rl_2 (ti_eq c_5) (by decide)
    refine lv_aload_n hx hb dX3_tellName_16 rfl (lv_at hl 0 rfl) ?_
    refine lv_aload_n hx hb dX3_tellName_17 rfl (lv_at hl 1 rfl) ?_
    refine tg_getN (ci := 7) (ts := ty_TAPE) (C := RX7) (T := TX7) (N := 12) hx hb hts inX7 hown hK hw h_p1 rfl rfl 8 (by decide) (hSD.nest tn_99) (fun _ h9 => h9) (ft := vJ (-9223372036854775808) 9223372036854775807) rfl dX3_tellName_18 (fun u_15 hv_u_15 m_u_15 => ?_)
    obtain ⟨vu_15, rfl, r_vu_15⟩ := hv_u_15
    have q_vu_15 : s1.2.1 8 = vu_15 := OV.eqL (V := vw_TAPE) hw.2.2.1 o_p1 m_u_15 (by decide)
    refine tk_ir (va_runV (As := [.long vu_15]) (rest := []) ⟨hx, hb, hml, hown, hts⟩ (c_X3_isTold__1 l D cy z s.heap.size Ps w0 hw.1 p0 vu_15 s0 h_p0 r_vu_15 o_p0) (cwV 1 hts (gV tw_507 tw_509 ts_8 tw_11 tw_510) rfl rfl rfl (by decide +kernel) ⟨Nat.le_of_ble_eq_true rfl, Nat.le_of_ble_eq_true rfl⟩) (tg_preV hw hK hSD hA (ci := 3) (q := (RX3, TX3, 9)) rfl h_p0 rfl) rfl rfl hl.1 rfl (lv_room (Nat.le_of_ble_eq_true rfl)) dX3_tellName_21 ⟨Nat.le_of_ble_eq_true rfl, Nat.le_of_ble_eq_true rfl⟩) hw hA (fun v_16  H locs hp_v_16 hw => ?_)
    obtain ⟨hfn, hp_v_16⟩ := hp_v_16
    have q_v_16 : (f_X3_isTold__1 vu_15 s0) = v_16 := hfn.1
    have r_v_16 : RI v_16 0 1 := hp_v_16.1
    refine lv_if_eq (tgt := 32) hx hb dX3_tellName_24 (by decide) (fun c_24 => ?_) (fun c_24 => ?_)
    · have r_v_16 : RI v_16 0 0 := rc_eq1 r_v_16 rl_0 (ti_eq c_24) (by decide)
      simp only [f_X3_tellName__4, ↓reduceIte, q_vu_14, eq_true c_5, q_vu_15, q_v_16, eq_true c_24] at hE
      exact B32 s0 s1 w0 _ _ ls r_p2 x_MLT_p0_0 o_p0 o_p1 hE hw hl
    · have r_v_16 : RI v_16 1 1 := rc_neL r_v_16 rl_0 (ti_ne c_24) (by decide)
      refine lv_aload_n hx hb dX3_tellName_27 rfl (lv_at hl 1 rfl) ?_
      refine lv_iconst (v := 3) hx hb dX3_tellName_28 (by decide) ?_
      refine tk_v (va_runV (As := [.int 3]) (rest := []) ⟨hx, hb, hml, hown, hts⟩ (c_X7_refuse__4 l D cy z H.size Ps w0 hw.1 p1 3 s1 h_p1 (rl_3.to (by decide)) o_p1) (cwV 1 hts (gV tw_450 tw_443 tw_444 tw_2 tw_445) rfl rfl rfl (by decide +kernel) ⟨Nat.le_of_ble_eq_true rfl, Nat.le_of_ble_eq_true rfl⟩) (tg_preV hw hK hSD hA (ci := 7) (q := (RX7, TX7, 12)) rfl h_p1 rfl) rfl rfl hl.1 rfl (lv_room (Nat.le_of_ble_eq_true rfl)) dX3_tellName_29 ⟨Nat.le_of_ble_eq_true rfl, Nat.le_of_ble_eq_true rfl⟩) hw hA ⟨by decide, by decide⟩ (fun ws H locs hp_v_17 hw hF9 => ?_)
      have m_u_14 := FLD.over hF9 m_u_14 (by decide)
      have m_u_15 := FLD.over hF9 m_u_15 (by decide)
      have x_MLT_p0_0 := AXC.over hF9 x_MLT_p0_0 (by decide)
      obtain ⟨hfn, hp_v_17⟩ := hp_v_17
      have o_p0 := OV.over (V := vw_POST) hF9 o_p0 (by decide)
      obtain ⟨sg_18, q_sg_18⟩ : ∃ q9 : OS, (f_X7_refuse__4 (3 : Int32) s1) = q9 := ⟨_, rfl⟩
      have o_p1 : OV vw_TAPE Ps ws p1 sg_18 := by rw [← q_sg_18]; exact hfn.1
      obtain ⟨v_19, m_v_19, r_v_19⟩ := (hp_v_17.1)
      simp only [f_X3_tellName__4, ↓reduceIte, q_vu_14, eq_true c_5, q_vu_15, q_v_16, eq_false c_24, q_sg_18] at hE
      exact B32 s0 sg_18 ws _ _ ls r_p2 x_MLT_p0_0 o_p0 o_p1 hE hw hl
  · refine lv_aload_n hx hb dX3_tellName_8 rfl (lv_at hl 1 rfl) ?_
    refine lv_iconst (v := 1) hx hb dX3_tellName_9 (by decide) ?_
    refine tk_v (va_runV (As := [.int 1]) (rest := []) ⟨hx, hb, hml, hown, hts⟩ (c_X7_refuse__4 l D cy z s.heap.size Ps w0 hw.1 p1 1 s1 h_p1 (rl_1.to (by decide)) o_p1) (cwV 1 hts (gV tw_450 tw_443 tw_444 tw_2 tw_445) rfl rfl rfl (by decide +kernel) ⟨Nat.le_of_ble_eq_true rfl, Nat.le_of_ble_eq_true rfl⟩) (tg_preV hw hK hSD hA (ci := 7) (q := (RX7, TX7, 12)) rfl h_p1 rfl) rfl rfl hl.1 rfl (lv_room (Nat.le_of_ble_eq_true rfl)) dX3_tellName_10 ⟨Nat.le_of_ble_eq_true rfl, Nat.le_of_ble_eq_true rfl⟩) hw hA ⟨by decide, by decide⟩ (fun ws H locs hp_v_20 hw hF9 => ?_)
    have m_u_14 := FLD.over hF9 m_u_14 (by decide)
    have x_MLT_p0_0 := AXC.over hF9 x_MLT_p0_0 (by decide)
    obtain ⟨hfn, hp_v_20⟩ := hp_v_20
    have o_p0 := OV.over (V := vw_POST) hF9 o_p0 (by decide)
    obtain ⟨sg_21, q_sg_21⟩ : ∃ q9 : OS, (f_X7_refuse__4 (1 : Int32) s1) = q9 := ⟨_, rfl⟩
    have o_p1 : OV vw_TAPE Ps ws p1 sg_21 := by rw [← q_sg_21]; exact hfn.1
    obtain ⟨v_22, m_v_22, r_v_22⟩ := (hp_v_20.1)
    refine lv_goto (tgt := 32) hx hb dX3_tellName_13 (by decide) ?_
    simp only [f_X3_tellName__4, ↓reduceIte, q_vu_14, eq_false c_5, q_sg_21] at hE
    exact B32 s0 sg_21 ws _ _ ls r_p2 x_MLT_p0_0 o_p0 o_p1 hE hw hl
abbrev wr_X7_pass__6 : List (Nat × Nat) := [(7, 5), (7, 6), (7, 7), (7, 8), (7, 9)]
abbrev wa_X7_pass__6 : List Nat := []
set_option maxHeartbeats 4000000 in
set_option maxRecDepth 100000 in
theorem c_X7_pass__6 (l : Launch) (D : va_G) (cy : Nat → ClassId) (z : Nat → Nat) (sz : Nat) (Ps : PSI) (w0 : va_W) (hT : HT cy GG Ps w0) (p0 : Nat) (s0 : OS) (h_p0 : (p0, 26) ∈ Ps) (o_p0 : OV vw_TAPE Ps w0 p0 s0) : Met l yX7_pass (Cond.code yX7_pass cX7_pass 2 none :: gT) ({ frames := 2, cells := 0, slots := 0, locals := 400 } : Room) (va_Pc [.ref p0] (PRE D cy z w0 sz)) (va_Qv (fun (u : va_W) => ((OV vw_TAPE Ps u p0 ((f_X7_pass__6 s0)) ∧ True) ∧ (True)) ∧ HT cy GG Ps u ∧ FR wr_X7_pass__6 wa_X7_pass__6 Ps w0 u) (BB D cy (va_A w0 sz) (fun (u : va_W) => u)) (va_A w0 sz)) 0 0 (va_A w0 sz) := by
  refine Met.ofW (cc := cX7_pass) (maxL := 2) (ret := none) (by decide) rfl ?_
  intro p e s m args below meth c s₁ B hml hv
  obtain ⟨rfl, hsz, hP, hK, hD0, hSD⟩ := hv
  have hx := B.exec
  have hb := B.bytes
  have hr := B.returns
  have hlocks := B.notSynchronized
  have hts : ∀ w ∈ gT, w.before _ s = true := fun w h => atoms_spec (ws := Cond.code yX7_pass cX7_pass 2 none :: gT) B.pre w (List.mem_cons_of_mem _ h)
  have hown : s.vm.findClass RX7 = some m.cls := findClass_of_methodNamed B.named
  subst hsz
  have hD := hD0.self (sz := s.heap.size)
  generalize hAe : va_A w0 s.heap.size = A at hD hSD ⊢
  have hA : ∀ q : Nat, s.heap.size ≤ q → A q := fun q h => by rw [← hAe]; exact Or.inr h
  have hl := lv_entry ([.ref p0]) (n := 2) (Nat.le_of_ble_eq_true rfl)
  rw [lg_entry_eq]
  generalize (lg_sl ([.ref p0]) ++ List.replicate (2 - (lg_sl ([.ref p0])).length) Slot.unset).toArray = ls at hl ⊢
  have hl : lv_has ls 2 [(0, .ref p0)] := hl
  refine nameQ (fun Q hQ => ?_)
  have hw : WD D cy GG A s wr_X7_pass__6 wa_X7_pass__6 Ps w0 Ps w0 s.heap [] := ⟨hT, hP, hD, va_S.rf, FR.rf, hT.1, [], (List.append_nil _).symm⟩
  obtain ⟨R9, hR⟩ : ∃ q9 : OS, f_X7_pass__6 s0 = q9 := ⟨_, rfl⟩
  have hE := hR
  have B142 : ∀ (x1 : Int32) (y0 : Int32) (z0_3 : Int32) (z0_5 : Int32) (z0_6 : Int32) (z0_10 : Int32) (s0 : OS) (ws : va_W) (H : Heap) (locs : List Loc) (ls : Array Slot), RI x1 (-128) 127 → RI y0 1 62 → RI z0_3 1 940 → FLD ws p0 7 3 (.int z0_3) → RI z0_5 0 939 → FLD ws p0 7 5 (.int z0_5) → RI z0_6 0 939 → FLD ws p0 7 6 (.int z0_6) → RI z0_10 0 0 → FLD ws p0 7 10 (.int z0_10) → OV vw_TAPE Ps ws p0 s0 → f_X7_pass__6_142 x1 y0 s0 = R9 → WD D cy GG A s wr_X7_pass__6 wa_X7_pass__6 Ps w0 Ps ws H locs → lv_has ls 2 [(0, .ref p0), (1, .int x1)] → W p l e (headSpec (Cond.code yX7_pass cX7_pass 2 none :: gT) ({ frames := 2, cells := 0, slots := 0, locals := 400 } : Room)).room s m ([.ref p0] : List Value).toArray below meth c H locs 0 0 Q (F0 m 142 ls [.int y0, .ref p0]) := by
    intro x1 y0 z0_3 z0_5 z0_6 z0_10 s0 ws H locs ls r_x1 r_y0 r_z0_3 m_z0_3 r_z0_5 m_z0_5 r_z0_6 m_z0_6 r_z0_10 m_z0_10 o_p0 hE hw hl
    have q_z0_3 : s0.1 3 = z0_3 := OV.eqI (V := vw_TAPE) hw.2.2.1 o_p0 m_z0_3 (by decide)
    have q_z0_5 : s0.1 5 = z0_5 := OV.eqI (V := vw_TAPE) hw.2.2.1 o_p0 m_z0_5 (by decide)
    have q_z0_6 : s0.1 6 = z0_6 := OV.eqI (V := vw_TAPE) hw.2.2.1 o_p0 m_z0_6 (by decide)
    have q_z0_10 : s0.1 10 = z0_10 := OV.eqI (V := vw_TAPE) hw.2.2.1 o_p0 m_z0_10 (by decide)
    refine tg_put (ci := 7) (ts := ty_TAPE) (v := .int y0) (ty := .int) (C := RX7) (T := TX7) (N := 12) hx hb hts inX7 tyX7 tyX7_ok nmX7 hown hK hw h_p0 rfl rfl 7 (by decide) (hts _ tw_98) (fun _ h9 => h9) rfl (by decide +kernel) rfl rfl (ft := vI (-2147483648) 2147483647) rfl ⟨_, rfl, (r_y0.to (by decide))⟩ (by decide) dX7_pass_142 (fun ws H locs hw n_k_1 hF9 => ?_)
    have m_z0_3 := FLD.over hF9 m_z0_3 (by decide)
    have m_z0_5 := FLD.over hF9 m_z0_5 (by decide)
    have m_z0_6 := FLD.over hF9 m_z0_6 (by decide)
    have m_z0_10 := FLD.over hF9 m_z0_10 (by decide)
    obtain ⟨sg_2, q_sg_2⟩ : ∃ q9 : OS, sI s0 7 y0 = q9 := ⟨_, rfl⟩
    have o_p0 : OV vw_TAPE Ps ws p0 sg_2 := by rw [← q_sg_2]; exact OV.putI (V := vw_TAPE) hF9 n_k_1 o_p0 (by decide)
    refine lv_aload_n hx hb dX7_pass_145 rfl (lv_at hl 0 rfl) ?_
    refine lv_dup hx hb dX7_pass_146 rfl ?_
    refine tg_mem (ci := 7) (C := RX7) (T := TX7) (N := 12) hx hb hts inX7 hown hK hw 6 m_z0_6 rfl (by decide) (hts _ tw_94) (fun _ h9 => h9) dX7_pass_147 ?_
    refine lv_iconst (v := 1) hx hb dX7_pass_150 (by decide) ?_
    refine lv_iadd hx hb dX7_pass_151 (lv_topi (fun v_3 e_v_3 => ?_))
    obtain ⟨t_v_3, r_v_3⟩ := tq_add (lo := 1) (hi := 940) r_z0_6 rl_1 (by decide +kernel) e_v_3
    have t_v_3 : v_3.toInt = z0_6.toInt + 1 := t_v_3
    have q_v_3 : z0_6 + (1 : Int32) = v_3 := e_v_3.symm
    refine tg_put (ci := 7) (ts := ty_TAPE) (v := .int v_3) (ty := .int) (C := RX7) (T := TX7) (N := 12) hx hb hts inX7 tyX7 tyX7_ok nmX7 hown hK hw h_p0 rfl rfl 6 (by decide) (hts _ tw_94) (fun _ h9 => h9) rfl (by decide +kernel) rfl rfl (ft := vI 0 940) rfl ⟨_, rfl, (r_v_3.to (by decide))⟩ (by decide) dX7_pass_152 (fun ws H locs hw n_k_4 hF9 => ?_)
    have m_z0_3 := FLD.over hF9 m_z0_3 (by decide)
    have m_z0_5 := FLD.over hF9 m_z0_5 (by decide)
    have m_z0_10 := FLD.over hF9 m_z0_10 (by decide)
    have n_k_1 := FLD.over hF9 n_k_1 (by decide)
    obtain ⟨sg_5, q_sg_5⟩ : ∃ q9 : OS, sI sg_2 6 v_3 = q9 := ⟨_, rfl⟩
    have o_p0 : OV vw_TAPE Ps ws p0 sg_5 := by rw [← q_sg_5]; exact OV.putI (V := vw_TAPE) hF9 n_k_4 o_p0 (by decide)
    simp only [f_X7_pass__6_142, ↓reduceIte, q_z0_3, q_z0_5, q_z0_6, q_z0_10, q_sg_2, q_v_3, q_sg_5] at hE
    subst hQ
    exact W.vret hx hb hr (fun t ht hW => ⟨⟨ws, rfl, ⟨⟨⟨(by rw [hR, ← hE]; exact o_p0), trivial⟩, trivial⟩, hw.1, hw.2.2.2.2.1⟩, by rw [ht]; exact hw.2.1, va_K.moved hW.alike hK, hw.2.2.1⟩, hw.2.2.2.1.F ht⟩) hw.2.2.2.1.2.2 dX7_pass_155
  have B129 : ∀ (x1 : Int32) (z0_3 : Int32) (z0_5 : Int32) (z0_6 : Int32) (z0_10 : Int32) (s0 : OS) (ws : va_W) (H : Heap) (locs : List Loc) (ls : Array Slot), RI x1 (-128) 127 → RI z0_3 1 940 → FLD ws p0 7 3 (.int z0_3) → RI z0_5 0 939 → FLD ws p0 7 5 (.int z0_5) → RI z0_6 0 939 → FLD ws p0 7 6 (.int z0_6) → RI z0_10 0 0 → FLD ws p0 7 10 (.int z0_10) → OV vw_TAPE Ps ws p0 s0 → f_X7_pass__6_129 x1 s0 = R9 → WD D cy GG A s wr_X7_pass__6 wa_X7_pass__6 Ps w0 Ps ws H locs → lv_has ls 2 [(0, .ref p0), (1, .int x1)] → W p l e (headSpec (Cond.code yX7_pass cX7_pass 2 none :: gT) ({ frames := 2, cells := 0, slots := 0, locals := 400 } : Room)).room s m ([.ref p0] : List Value).toArray below meth c H locs 0 0 Q (F0 m 129 ls []) := by
    intro x1 z0_3 z0_5 z0_6 z0_10 s0 ws H locs ls r_x1 r_z0_3 m_z0_3 r_z0_5 m_z0_5 r_z0_6 m_z0_6 r_z0_10 m_z0_10 o_p0 hE hw hl
    have q_z0_3 : s0.1 3 = z0_3 := OV.eqI (V := vw_TAPE) hw.2.2.1 o_p0 m_z0_3 (by decide)
    have q_z0_5 : s0.1 5 = z0_5 := OV.eqI (V := vw_TAPE) hw.2.2.1 o_p0 m_z0_5 (by decide)
    have q_z0_6 : s0.1 6 = z0_6 := OV.eqI (V := vw_TAPE) hw.2.2.1 o_p0 m_z0_6 (by decide)
    have q_z0_10 : s0.1 10 = z0_10 := OV.eqI (V := vw_TAPE) hw.2.2.1 o_p0 m_z0_10 (by decide)
    refine lv_aload_n hx hb dX7_pass_129 rfl (lv_at hl 0 rfl) ?_
    refine lv_iload_n hx hb dX7_pass_130 rfl (lv_at hl 1 rfl) ?_
    refine tk_ir (va_runS (As := [.int x1]) (rest := [.ref p0]) ⟨hx, hb, hml, hown, hts⟩ (c_X7_isSign__1 l D cy z H.size Ps ws hw.1 x1 (r_x1.to (by decide))) (va_cwS 1 hts (gS tw_435 tw_436 tw_2 tw_437) rfl rfl rfl (by decide +kernel) ⟨Nat.le_of_ble_eq_true rfl, Nat.le_of_ble_eq_true rfl⟩) (tg_preS hw hK hSD hA) rfl rfl hl.1 rfl (lv_room (Nat.le_of_ble_eq_true rfl)) dX7_pass_131 ⟨Nat.le_of_ble_eq_true rfl, Nat.le_of_ble_eq_true rfl⟩) hw hA (fun v_6  H locs hp_v_6 hw => ?_)
    obtain ⟨hfn, hp_v_6⟩ := hp_v_6
    have q_v_6 : (f_X7_isSign__1 x1) = v_6 := hfn.1
    have r_v_6 : RI v_6 0 1 := hp_v_6.1
    refine lv_if_eq (tgt := 141) hx hb dX7_pass_134 (by decide) (fun c_134 => ?_) (fun c_134 => ?_)
    · have r_v_6 : RI v_6 0 0 := rc_eq1 r_v_6 rl_0 (ti_eq c_134) (by decide)
      refine lv_iconst (v := 1) hx hb dX7_pass_141 (by decide) ?_
      simp only [f_X7_pass__6_129, ↓reduceIte, q_z0_3, q_z0_5, q_z0_6, q_z0_10, q_v_6, eq_true c_134] at hE
      exact B142 x1 1 z0_3 z0_5 z0_6 z0_10 s0 ws _ _ ls r_x1 (rl_1.to (by decide)) r_z0_3 m_z0_3 r_z0_5 m_z0_5 r_z0_6 m_z0_6 r_z0_10 m_z0_10 o_p0 hE hw hl
    · have r_v_6 : RI v_6 1 1 := rc_neL r_v_6 rl_0 (ti_ne c_134) (by decide)
      have r_x1 : RI x1 40 62 := ((hp_v_6.2.2 c_134).1)
      refine lv_iload_n hx hb dX7_pass_137 rfl (lv_at hl 1 rfl) ?_
      refine lv_goto (tgt := 142) hx hb dX7_pass_138 (by decide) ?_
      simp only [f_X7_pass__6_129, ↓reduceIte, q_z0_3, q_z0_5, q_z0_6, q_z0_10, q_v_6, eq_false c_134] at hE
      exact B142 x1 x1 z0_3 z0_5 z0_6 z0_10 s0 ws _ _ ls (r_x1.to (by decide)) (r_x1.to (by decide)) r_z0_3 m_z0_3 r_z0_5 m_z0_5 r_z0_6 m_z0_6 r_z0_10 m_z0_10 o_p0 hE hw hl
  have B122 : ∀ (x1 : Int32) (z0_3 : Int32) (z0_5 : Int32) (z0_6 : Int32) (z0_10 : Int32) (s0 : OS) (ws : va_W) (H : Heap) (locs : List Loc) (ls : Array Slot), RI x1 48 122 → RI z0_3 1 940 → FLD ws p0 7 3 (.int z0_3) → RI z0_5 0 939 → FLD ws p0 7 5 (.int z0_5) → RI z0_6 0 939 → FLD ws p0 7 6 (.int z0_6) → RI z0_10 0 0 → FLD ws p0 7 10 (.int z0_10) → OV vw_TAPE Ps ws p0 s0 → f_X7_pass__6_122 x1 s0 = R9 → WD D cy GG A s wr_X7_pass__6 wa_X7_pass__6 Ps w0 Ps ws H locs → lv_has ls 2 [(0, .ref p0), (1, .int x1)] → W p l e (headSpec (Cond.code yX7_pass cX7_pass 2 none :: gT) ({ frames := 2, cells := 0, slots := 0, locals := 400 } : Room)).room s m ([.ref p0] : List Value).toArray below meth c H locs 0 0 Q (F0 m 122 ls []) := by
    intro x1 z0_3 z0_5 z0_6 z0_10 s0 ws H locs ls r_x1 r_z0_3 m_z0_3 r_z0_5 m_z0_5 r_z0_6 m_z0_6 r_z0_10 m_z0_10 o_p0 hE hw hl
    have q_z0_3 : s0.1 3 = z0_3 := OV.eqI (V := vw_TAPE) hw.2.2.1 o_p0 m_z0_3 (by decide)
    have q_z0_5 : s0.1 5 = z0_5 := OV.eqI (V := vw_TAPE) hw.2.2.1 o_p0 m_z0_5 (by decide)
    have q_z0_6 : s0.1 6 = z0_6 := OV.eqI (V := vw_TAPE) hw.2.2.1 o_p0 m_z0_6 (by decide)
    have q_z0_10 : s0.1 10 = z0_10 := OV.eqI (V := vw_TAPE) hw.2.2.1 o_p0 m_z0_10 (by decide)
    refine lv_aload_n hx hb dX7_pass_122 rfl (lv_at hl 0 rfl) ?_
    refine tk_v (va_runV (As := []) (rest := []) ⟨hx, hb, hml, hown, hts⟩ (c_X7_readRun__1 l D cy z H.size Ps ws hw.1 p0 s0 h_p0 o_p0) (cwV 0 hts (gV tw_431 tw_433 ts_0 tw_2 tw_434) rfl rfl rfl (by decide +kernel) ⟨Nat.le_of_ble_eq_true rfl, Nat.le_of_ble_eq_true rfl⟩) (tg_preV hw hK hSD hA (ci := 7) (q := (RX7, TX7, 12)) rfl h_p0 rfl) rfl rfl hl.1 rfl (lv_room (Nat.le_of_ble_eq_true rfl)) dX7_pass_123 ⟨Nat.le_of_ble_eq_true rfl, Nat.le_of_ble_eq_true rfl⟩) hw hA ⟨by decide, by decide⟩ (fun ws H locs hp_v_7 hw hF9 => ?_)
    have m_z0_3 := FLD.over hF9 m_z0_3 (by decide)
    have m_z0_5 := FLD.over hF9 m_z0_5 (by decide)
    have m_z0_10 := FLD.over hF9 m_z0_10 (by decide)
    obtain ⟨hfn, hp_v_7⟩ := hp_v_7
    obtain ⟨sg_8, q_sg_8⟩ : ∃ q9 : OS, (f_X7_readRun__1 s0) = q9 := ⟨_, rfl⟩
    have o_p0 : OV vw_TAPE Ps ws p0 sg_8 := by rw [← q_sg_8]; exact hfn.1
    refine lv_goto (tgt := 155) hx hb dX7_pass_126 (by decide) ?_
    simp only [f_X7_pass__6_122, ↓reduceIte, q_z0_3, q_z0_5, q_z0_6, q_z0_10, q_sg_8] at hE
    subst hQ
    exact W.vret hx hb hr (fun t ht hW => ⟨⟨ws, rfl, ⟨⟨⟨(by rw [hR, ← hE]; exact o_p0), trivial⟩, trivial⟩, hw.1, hw.2.2.2.2.1⟩, by rw [ht]; exact hw.2.1, va_K.moved hW.alike hK, hw.2.2.1⟩, hw.2.2.2.1.F ht⟩) hw.2.2.2.1.2.2 dX7_pass_155
  have B110 : ∀ (x1 : Int32) (z0_3 : Int32) (z0_5 : Int32) (z0_6 : Int32) (z0_10 : Int32) (s0 : OS) (ws : va_W) (H : Heap) (locs : List Loc) (ls : Array Slot), RI x1 (-128) 127 → RI z0_3 1 940 → FLD ws p0 7 3 (.int z0_3) → RI z0_5 0 939 → FLD ws p0 7 5 (.int z0_5) → RI z0_6 0 939 → FLD ws p0 7 6 (.int z0_6) → RI z0_10 0 0 → FLD ws p0 7 10 (.int z0_10) → OV vw_TAPE Ps ws p0 s0 → f_X7_pass__6_110 x1 s0 = R9 → WD D cy GG A s wr_X7_pass__6 wa_X7_pass__6 Ps w0 Ps ws H locs → lv_has ls 2 [(0, .ref p0), (1, .int x1)] → W p l e (headSpec (Cond.code yX7_pass cX7_pass 2 none :: gT) ({ frames := 2, cells := 0, slots := 0, locals := 400 } : Room)).room s m ([.ref p0] : List Value).toArray below meth c H locs 0 0 Q (F0 m 110 ls []) := by
    intro x1 z0_3 z0_5 z0_6 z0_10 s0 ws H locs ls r_x1 r_z0_3 m_z0_3 r_z0_5 m_z0_5 r_z0_6 m_z0_6 r_z0_10 m_z0_10 o_p0 hE hw hl
    have q_z0_3 : s0.1 3 = z0_3 := OV.eqI (V := vw_TAPE) hw.2.2.1 o_p0 m_z0_3 (by decide)
    have q_z0_5 : s0.1 5 = z0_5 := OV.eqI (V := vw_TAPE) hw.2.2.1 o_p0 m_z0_5 (by decide)
    have q_z0_6 : s0.1 6 = z0_6 := OV.eqI (V := vw_TAPE) hw.2.2.1 o_p0 m_z0_6 (by decide)
    have q_z0_10 : s0.1 10 = z0_10 := OV.eqI (V := vw_TAPE) hw.2.2.1 o_p0 m_z0_10 (by decide)
    refine lv_iload_n hx hb dX7_pass_110 rfl (lv_at hl 1 rfl) ?_
    refine lv_bipush (v := 48) hx hb dX7_pass_111 (by decide) ?_
    refine lv_icmp_lt (tgt := 129) hx hb dX7_pass_113 (by decide) (fun c_113 => ?_) (fun c_113 => ?_)
    · have r_x1 : RI x1 (-128) 47 := rc_lt1 r_x1 rl_48 (ti_lt c_113) (by decide)
      simp only [f_X7_pass__6_110, ↓reduceIte, q_z0_3, q_z0_5, q_z0_6, q_z0_10, eq_true c_113] at hE
      exact B129 x1 z0_3 z0_5 z0_6 z0_10 s0 ws _ _ ls (r_x1.to (by decide)) r_z0_3 m_z0_3 r_z0_5 m_z0_5 r_z0_6 m_z0_6 r_z0_10 m_z0_10 o_p0 hE hw hl
    · have r_x1 : RI x1 48 127 := rc_le2 rl_48 r_x1 (ti_nlt c_113) (by decide)
      refine lv_iload_n hx hb dX7_pass_116 rfl (lv_at hl 1 rfl) ?_
      refine lv_bipush (v := 57) hx hb dX7_pass_117 (by decide) ?_
      refine lv_icmp_gt (tgt := 129) hx hb dX7_pass_119 (by decide) (fun c_119 => ?_) (fun c_119 => ?_)
      · have r_x1 : RI x1 58 127 := rc_lt2 rl_57 r_x1 (ti_lt c_119) (by decide)
        simp only [f_X7_pass__6_110, ↓reduceIte, q_z0_3, q_z0_5, q_z0_6, q_z0_10, eq_false c_113, eq_true c_119] at hE
        exact B129 x1 z0_3 z0_5 z0_6 z0_10 s0 ws _ _ ls (r_x1.to (by decide)) r_z0_3 m_z0_3 r_z0_5 m_z0_5 r_z0_6 m_z0_6 r_z0_10 m_z0_10 o_p0 hE hw hl
      · have r_x1 : RI x1 48 57 := rc_le1 r_x1 rl_57 (ti_nlt c_119) (by decide)
        simp only [f_X7_pass__6_110, ↓reduceIte, q_z0_3, q_z0_5, q_z0_6, q_z0_10, eq_false c_113, eq_false c_119] at hE
        exact B122 x1 z0_3 z0_5 z0_6 z0_10 s0 ws _ _ ls (r_x1.to (by decide)) r_z0_3 m_z0_3 r_z0_5 m_z0_5 r_z0_6 m_z0_6 r_z0_10 m_z0_10 o_p0 hE hw hl
  have B55 : ∀ (z0_5 : Int32) (z0_10 : Int32) (s0 : OS) (ws : va_W) (H : Heap) (locs : List Loc) (ls : Array Slot), RI z0_5 0 940 → FLD ws p0 7 5 (.int z0_5) → RI z0_10 0 0 → FLD ws p0 7 10 (.int z0_10) → OV vw_TAPE Ps ws p0 s0 → f_X7_pass__6_55 s0 = R9 → WD D cy GG A s wr_X7_pass__6 wa_X7_pass__6 Ps w0 Ps ws H locs → lv_has ls 2 [(0, .ref p0)] → W p l e (headSpec (Cond.code yX7_pass cX7_pass 2 none :: gT) ({ frames := 2, cells := 0, slots := 0, locals := 400 } : Room)).room s m ([.ref p0] : List Value).toArray below meth c H locs 0 0 Q (F0 m 55 ls []) := by
    intro z0_5 z0_10 s0 ws H locs ls r_z0_5 m_z0_5 r_z0_10 m_z0_10 o_p0 hE hw hl
    have q_z0_5 : s0.1 5 = z0_5 := OV.eqI (V := vw_TAPE) hw.2.2.1 o_p0 m_z0_5 (by decide)
    have q_z0_10 : s0.1 10 = z0_10 := OV.eqI (V := vw_TAPE) hw.2.2.1 o_p0 m_z0_10 (by decide)
    refine lv_aload_n hx hb dX7_pass_55 rfl (lv_at hl 0 rfl) ?_
    refine tg_mem (ci := 7) (C := RX7) (T := TX7) (N := 12) hx hb hts inX7 hown hK hw 5 m_z0_5 rfl (by decide) (hts _ tw_93) (fun _ h9 => h9) dX7_pass_56 ?_
    refine lv_aload_n hx hb dX7_pass_59 rfl (lv_at hl 0 rfl) ?_
    refine tg_get (ci := 7) (ts := ty_TAPE) (C := RX7) (T := TX7) (N := 12) hx hb hts inX7 hown hK hw h_p0 rfl rfl 3 (by decide) (hts _ tw_91) (fun _ h9 => h9) (ft := vI 0 940) rfl dX7_pass_60 (fun u_9 hv_u_9 m_u_9 => ?_)
    obtain ⟨vu_9, rfl, r_vu_9⟩ := hv_u_9
    have q_vu_9 : s0.1 3 = vu_9 := OV.eqI (V := vw_TAPE) hw.2.2.1 o_p0 m_u_9 (by decide)
    refine lv_icmp_lt (tgt := 80) hx hb dX7_pass_63 (by decide) (fun c_63 => ?_) (fun c_63 => ?_)
    · have r_z0_5 : RI z0_5 0 939 := rc_lt1 r_z0_5 r_vu_9 (ti_lt c_63) (by decide)
      have r_vu_9 : RI vu_9 1 940 := rc_lt2 r_z0_5 r_vu_9 (ti_lt c_63) (by decide)
      refine lv_aload_n hx hb dX7_pass_80 rfl (lv_at hl 0 rfl) ?_
      refine tg_get (ci := 7) (ts := ty_TAPE) (C := RX7) (T := TX7) (N := 12) hx hb hts inX7 hown hK hw h_p0 rfl rfl 0 (by decide) (hts _ tw_87) (fun _ h9 => h9) (ft := vR 2) rfl dX7_pass_81 (fun u_10 hv_u_10 m_u_10 => ?_)
      obtain ⟨vu_10, rfl, h_vu_10⟩ := hv_u_10
      refine lv_aload_n hx hb dX7_pass_84 rfl (lv_at hl 0 rfl) ?_
      refine tg_mem (ci := 7) (C := RX7) (T := TX7) (N := 12) hx hb hts inX7 hown hK hw 5 m_z0_5 rfl (by decide) (hts _ tw_93) (fun _ h9 => h9) dX7_pass_85 ?_
      refine tg_baldE (lo := (-128)) (hi := 127) hx hb hK hw h_vu_10 rfl 0 939 r_z0_5 (by decide) (by exact fun _ _ _ => ⟨Int.le_refl _, Int.le_refl _⟩) dX7_pass_88 (fun v_11 r_v_11 l_v_11 => ?_)
      have q_v_11 : s0.2.2.1 0 (Int32.toNatClampNeg z0_5) = v_11 := OV.eqA (V := vw_TAPE) (t := 2) hw.2.2.1 o_p0 m_u_10 l_v_11 (by decide)
      refine lv_istore_n (lv' := [(1, .int v_11), (0, .ref p0)]) hx hb dX7_pass_89 rfl hl (by decide) rfl (fun ls hl => ?_)
      refine lv_aload_n hx hb dX7_pass_90 rfl (lv_at hl 1 rfl) ?_
      refine lv_aload_n hx hb dX7_pass_91 rfl (lv_at hl 1 rfl) ?_
      refine tg_mem (ci := 7) (C := RX7) (T := TX7) (N := 12) hx hb hts inX7 hown hK hw 5 m_z0_5 rfl (by decide) (hts _ tw_93) (fun _ h9 => h9) dX7_pass_92 ?_
      refine tg_put (ci := 7) (ts := ty_TAPE) (v := .int z0_5) (ty := .int) (C := RX7) (T := TX7) (N := 12) hx hb hts inX7 tyX7 tyX7_ok nmX7 hown hK hw h_p0 rfl rfl 6 (by decide) (hts _ tw_94) (fun _ h9 => h9) rfl (by decide +kernel) rfl rfl (ft := vI 0 940) rfl ⟨_, rfl, (r_z0_5.to (by decide))⟩ (by decide) dX7_pass_95 (fun ws H locs hw n_k_12 hF9 => ?_)
      have m_z0_5 := FLD.over hF9 m_z0_5 (by decide)
      have m_z0_10 := FLD.over hF9 m_z0_10 (by decide)
      have m_u_9 := FLD.over hF9 m_u_9 (by decide)
      have m_u_10 := FLD.over hF9 m_u_10 (by decide)
      obtain ⟨sg_13, q_sg_13⟩ : ∃ q9 : OS, sI s0 6 z0_5 = q9 := ⟨_, rfl⟩
      have o_p0 : OV vw_TAPE Ps ws p0 sg_13 := by rw [← q_sg_13]; exact OV.putI (V := vw_TAPE) hF9 n_k_12 o_p0 (by decide)
      refine lv_iload_n hx hb dX7_pass_98 rfl (lv_at hl 0 rfl) ?_
      refine lv_bipush (v := 97) hx hb dX7_pass_99 (by decide) ?_
      refine lv_icmp_lt (tgt := 110) hx hb dX7_pass_101 (by decide) (fun c_101 => ?_) (fun c_101 => ?_)
      · have r_v_11 : RI v_11 (-128) 96 := rc_lt1 r_v_11 rl_97 (ti_lt c_101) (by decide)
        simp only [f_X7_pass__6_55, ↓reduceIte, q_z0_5, q_z0_10, q_vu_9, eq_true c_63, q_v_11, q_sg_13, eq_true c_101] at hE
        exact B110 v_11 vu_9 z0_5 z0_5 z0_10 sg_13 ws _ _ ls (r_v_11.to (by decide)) r_vu_9 m_u_9 r_z0_5 m_z0_5 r_z0_5 n_k_12 r_z0_10 m_z0_10 o_p0 hE hw (lv_sub hl [1, 0] rfl)
      · have r_v_11 : RI v_11 97 127 := rc_le2 rl_97 r_v_11 (ti_nlt c_101) (by decide)
        refine lv_iload_n hx hb dX7_pass_104 rfl (lv_at hl 0 rfl) ?_
        refine lv_bipush (v := 122) hx hb dX7_pass_105 (by decide) ?_
        refine lv_icmp_le (tgt := 122) hx hb dX7_pass_107 (by decide) (fun c_107 => ?_) (fun c_107 => ?_)
        · have r_v_11 : RI v_11 97 122 := rc_le1 r_v_11 rl_122 (ti_le c_107) (by decide)
          simp only [f_X7_pass__6_55, ↓reduceIte, q_z0_5, q_z0_10, q_vu_9, eq_true c_63, q_v_11, q_sg_13, eq_false c_101, eq_true c_107] at hE
          exact B122 v_11 vu_9 z0_5 z0_5 z0_10 sg_13 ws _ _ ls (r_v_11.to (by decide)) r_vu_9 m_u_9 r_z0_5 m_z0_5 r_z0_5 n_k_12 r_z0_10 m_z0_10 o_p0 hE hw (lv_sub hl [1, 0] rfl)
        · have r_v_11 : RI v_11 123 127 := rc_lt2 rl_122 r_v_11 (ti_nle c_107) (by decide)
          simp only [f_X7_pass__6_55, ↓reduceIte, q_z0_5, q_z0_10, q_vu_9, eq_true c_63, q_v_11, q_sg_13, eq_false c_101, eq_false c_107] at hE
          exact B110 v_11 vu_9 z0_5 z0_5 z0_10 sg_13 ws _ _ ls (r_v_11.to (by decide)) r_vu_9 m_u_9 r_z0_5 m_z0_5 r_z0_5 n_k_12 r_z0_10 m_z0_10 o_p0 hE hw (lv_sub hl [1, 0] rfl)
    · refine lv_aload_n hx hb dX7_pass_66 rfl (lv_at hl 0 rfl) ?_
      refine lv_aload_n hx hb dX7_pass_67 rfl (lv_at hl 0 rfl) ?_
      refine tg_mem (ci := 7) (C := RX7) (T := TX7) (N := 12) hx hb hts inX7 hown hK hw 3 m_u_9 rfl (by decide) (hts _ tw_91) (fun _ h9 => h9) dX7_pass_68 ?_
      refine tg_put (ci := 7) (ts := ty_TAPE) (v := .int vu_9) (ty := .int) (C := RX7) (T := TX7) (N := 12) hx hb hts inX7 tyX7 tyX7_ok nmX7 hown hK hw h_p0 rfl rfl 5 (by decide) (hts _ tw_93) (fun _ h9 => h9) rfl (by decide +kernel) rfl rfl (ft := vI 0 940) rfl ⟨_, rfl, r_vu_9⟩ (by decide) dX7_pass_71 (fun ws H locs hw n_k_14 hF9 => ?_)
      have m_z0_10 := FLD.over hF9 m_z0_10 (by decide)
      have m_u_9 := FLD.over hF9 m_u_9 (by decide)
      obtain ⟨sg_15, q_sg_15⟩ : ∃ q9 : OS, sI s0 5 vu_9 = q9 := ⟨_, rfl⟩
      have o_p0 : OV vw_TAPE Ps ws p0 sg_15 := by rw [← q_sg_15]; exact OV.putI (V := vw_TAPE) hF9 n_k_14 o_p0 (by decide)
      refine lv_aload_n hx hb dX7_pass_74 rfl (lv_at hl 0 rfl) ?_
      refine lv_iconst (v := 0) hx hb dX7_pass_75 (by decide) ?_
      refine tg_put (ci := 7) (ts := ty_TAPE) (v := .int 0) (ty := .int) (C := RX7) (T := TX7) (N := 12) hx hb hts inX7 tyX7 tyX7_ok nmX7 hown hK hw h_p0 rfl rfl 7 (by decide) (hts _ tw_98) (fun _ h9 => h9) rfl (by decide +kernel) rfl rfl (ft := vI (-2147483648) 2147483647) rfl ⟨_, rfl, (rl_0.to (by decide))⟩ (by decide) dX7_pass_76 (fun ws H locs hw n_k_16 hF9 => ?_)
      have m_z0_10 := FLD.over hF9 m_z0_10 (by decide)
      have m_u_9 := FLD.over hF9 m_u_9 (by decide)
      have n_k_14 := FLD.over hF9 n_k_14 (by decide)
      obtain ⟨sg_17, q_sg_17⟩ : ∃ q9 : OS, sI sg_15 7 (0 : Int32) = q9 := ⟨_, rfl⟩
      have o_p0 : OV vw_TAPE Ps ws p0 sg_17 := by rw [← q_sg_17]; exact OV.putI (V := vw_TAPE) hF9 n_k_16 o_p0 (by decide)
      simp only [f_X7_pass__6_55, ↓reduceIte, q_z0_5, q_z0_10, q_vu_9, eq_false c_63, q_sg_15, q_sg_17] at hE
      subst hQ
      exact W.vret hx hb hr (fun t ht hW => ⟨⟨ws, rfl, ⟨⟨⟨(by rw [hR, ← hE]; exact o_p0), trivial⟩, trivial⟩, hw.1, hw.2.2.2.2.1⟩, by rw [ht]; exact hw.2.1, va_K.moved hW.alike hK, hw.2.2.1⟩, hw.2.2.2.1.F ht⟩) hw.2.2.2.1.2.2 dX7_pass_79
  have B16 : ∀ (nf : Nat) (z0_5 : Int32) (z0_10 : Int32) (s0 : OS) (ws : va_W) (H : Heap) (locs : List Loc) (ls : Array Slot), 940 - z0_5.toInt < (nf : Int) → RI z0_5 0 940 → FLD ws p0 7 5 (.int z0_5) → RI z0_10 0 0 → FLD ws p0 7 10 (.int z0_10) → OV vw_TAPE Ps ws p0 s0 → f_X7_pass__6_16 nf s0 = R9 → WD D cy GG A s wr_X7_pass__6 wa_X7_pass__6 Ps w0 Ps ws H locs → lv_has ls 2 [(0, .ref p0)] → W p l e (headSpec (Cond.code yX7_pass cX7_pass 2 none :: gT) ({ frames := 2, cells := 0, slots := 0, locals := 400 } : Room)).room s m ([.ref p0] : List Value).toArray below meth c H locs 0 0 Q (F0 m 16 ls []) := by
    intro nf16
    induction nf16 with
    | zero =>
      intro z0_5 z0_10 s0 ws H locs ls hn16 r_z0_5 m_z0_5 r_z0_10 m_z0_10 o_p0 hE hw hl
      exact absurd hn16 (by have q0 := r_z0_5.1; have u0 := r_z0_5.2; omega)
    | succ nf16 ih16 =>
      intro z0_5 z0_10 s0 ws H locs ls hn16 r_z0_5 m_z0_5 r_z0_10 m_z0_10 o_p0 hE hw hl
      have q_z0_5 : s0.1 5 = z0_5 := OV.eqI (V := vw_TAPE) hw.2.2.1 o_p0 m_z0_5 (by decide)
      have q_z0_10 : s0.1 10 = z0_10 := OV.eqI (V := vw_TAPE) hw.2.2.1 o_p0 m_z0_10 (by decide)
      refine lv_aload_n hx hb dX7_pass_16 rfl (lv_at hl 0 rfl) ?_
      refine tg_mem (ci := 7) (C := RX7) (T := TX7) (N := 12) hx hb hts inX7 hown hK hw 5 m_z0_5 rfl (by decide) (hts _ tw_93) (fun _ h9 => h9) dX7_pass_17 ?_
      refine lv_aload_n hx hb dX7_pass_20 rfl (lv_at hl 0 rfl) ?_
      refine tg_get (ci := 7) (ts := ty_TAPE) (C := RX7) (T := TX7) (N := 12) hx hb hts inX7 hown hK hw h_p0 rfl rfl 3 (by decide) (hts _ tw_91) (fun _ h9 => h9) (ft := vI 0 940) rfl dX7_pass_21 (fun u_18 hv_u_18 m_u_18 => ?_)
      obtain ⟨vu_18, rfl, r_vu_18⟩ := hv_u_18
      have q_vu_18 : s0.1 3 = vu_18 := OV.eqI (V := vw_TAPE) hw.2.2.1 o_p0 m_u_18 (by decide)
      refine lv_icmp_ge (tgt := 55) hx hb dX7_pass_24 (by decide) (fun c_24 => ?_) (fun c_24 => ?_)
      · simp only [f_X7_pass__6_16, ↓reduceIte, q_z0_5, q_z0_10, q_vu_18, eq_true c_24] at hE
        exact B55 z0_5 z0_10 s0 ws _ _ ls r_z0_5 m_z0_5 r_z0_10 m_z0_10 o_p0 hE hw hl
      · have r_z0_5 : RI z0_5 0 939 := rc_lt1 r_z0_5 r_vu_18 (ti_nle c_24) (by decide)
        have r_vu_18 : RI vu_18 1 940 := rc_lt2 r_z0_5 r_vu_18 (ti_nle c_24) (by decide)
        refine lv_aload_n hx hb dX7_pass_27 rfl (lv_at hl 0 rfl) ?_
        refine tg_get (ci := 7) (ts := ty_TAPE) (C := RX7) (T := TX7) (N := 12) hx hb hts inX7 hown hK hw h_p0 rfl rfl 0 (by decide) (hts _ tw_87) (fun _ h9 => h9) (ft := vR 2) rfl dX7_pass_28 (fun u_19 hv_u_19 m_u_19 => ?_)
        obtain ⟨vu_19, rfl, h_vu_19⟩ := hv_u_19
        refine lv_aload_n hx hb dX7_pass_31 rfl (lv_at hl 0 rfl) ?_
        refine tg_mem (ci := 7) (C := RX7) (T := TX7) (N := 12) hx hb hts inX7 hown hK hw 5 m_z0_5 rfl (by decide) (hts _ tw_93) (fun _ h9 => h9) dX7_pass_32 ?_
        refine tg_baldE (lo := (-128)) (hi := 127) hx hb hK hw h_vu_19 rfl 0 939 r_z0_5 (by decide) (by exact fun _ _ _ => ⟨Int.le_refl _, Int.le_refl _⟩) dX7_pass_35 (fun v_20 r_v_20 l_v_20 => ?_)
        have q_v_20 : s0.2.2.1 0 (Int32.toNatClampNeg z0_5) = v_20 := OV.eqA (V := vw_TAPE) (t := 2) hw.2.2.1 o_p0 m_u_19 l_v_20 (by decide)
        refine tk_ir (va_runS (As := [.int v_20]) (rest := []) ⟨hx, hb, hml, hown, hts⟩ (c_X7_isBlank__1 l D cy z H.size Ps ws hw.1 v_20 (r_v_20.to (by decide))) (va_cwS 1 hts (gS tw_428 tw_429 tw_2 tw_430) rfl rfl rfl (by decide +kernel) ⟨Nat.le_of_ble_eq_true rfl, Nat.le_of_ble_eq_true rfl⟩) (tg_preS hw hK hSD hA) rfl rfl hl.1 rfl (lv_room (Nat.le_of_ble_eq_true rfl)) dX7_pass_36 ⟨Nat.le_of_ble_eq_true rfl, Nat.le_of_ble_eq_true rfl⟩) hw hA (fun v_21  H locs hp_v_21 hw => ?_)
        obtain ⟨hfn, hp_v_21⟩ := hp_v_21
        have q_v_21 : (f_X7_isBlank__1 v_20) = v_21 := hfn.1
        have r_v_21 : RI v_21 0 1 := hp_v_21.1
        refine lv_if_eq (tgt := 55) hx hb dX7_pass_39 (by decide) (fun c_39 => ?_) (fun c_39 => ?_)
        · have r_v_21 : RI v_21 0 0 := rc_eq1 r_v_21 rl_0 (ti_eq c_39) (by decide)
          simp only [f_X7_pass__6_16, ↓reduceIte, q_z0_5, q_z0_10, q_vu_18, eq_false c_24, q_v_20, q_v_21, eq_true c_39] at hE
          exact B55 z0_5 z0_10 s0 ws _ _ ls (r_z0_5.to (by decide)) m_z0_5 r_z0_10 m_z0_10 o_p0 hE hw hl
        · have r_v_21 : RI v_21 1 1 := rc_neL r_v_21 rl_0 (ti_ne c_39) (by decide)
          have r_v_20 : RI v_20 10 32 := ((hp_v_21.2.2 c_39).1)
          refine lv_aload_n hx hb dX7_pass_42 rfl (lv_at hl 0 rfl) ?_
          refine lv_dup hx hb dX7_pass_43 rfl ?_
          refine tg_mem (ci := 7) (C := RX7) (T := TX7) (N := 12) hx hb hts inX7 hown hK hw 5 m_z0_5 rfl (by decide) (hts _ tw_93) (fun _ h9 => h9) dX7_pass_44 ?_
          refine lv_iconst (v := 1) hx hb dX7_pass_47 (by decide) ?_
          refine lv_iadd hx hb dX7_pass_48 (lv_topi (fun v_22 e_v_22 => ?_))
          obtain ⟨t_v_22, r_v_22⟩ := tq_add (lo := 1) (hi := 940) r_z0_5 rl_1 (by decide +kernel) e_v_22
          have t_v_22 : v_22.toInt = z0_5.toInt + 1 := t_v_22
          have q_v_22 : z0_5 + (1 : Int32) = v_22 := e_v_22.symm
          refine tg_put (ci := 7) (ts := ty_TAPE) (v := .int v_22) (ty := .int) (C := RX7) (T := TX7) (N := 12) hx hb hts inX7 tyX7 tyX7_ok nmX7 hown hK hw h_p0 rfl rfl 5 (by decide) (hts _ tw_93) (fun _ h9 => h9) rfl (by decide +kernel) rfl rfl (ft := vI 0 940) rfl ⟨_, rfl, (r_v_22.to (by decide))⟩ (by decide) dX7_pass_49 (fun ws H locs hw n_k_23 hF9 => ?_)
          have m_z0_10 := FLD.over hF9 m_z0_10 (by decide)
          have m_u_18 := FLD.over hF9 m_u_18 (by decide)
          have m_u_19 := FLD.over hF9 m_u_19 (by decide)
          obtain ⟨sg_24, q_sg_24⟩ : ∃ q9 : OS, sI s0 5 v_22 = q9 := ⟨_, rfl⟩
          have o_p0 : OV vw_TAPE Ps ws p0 sg_24 := by rw [← q_sg_24]; exact OV.putI (V := vw_TAPE) hF9 n_k_23 o_p0 (by decide)
          refine lv_goto (tgt := 16) hx hb dX7_pass_52 (by decide) ?_
          simp only [f_X7_pass__6_16, ↓reduceIte, q_z0_5, q_z0_10, q_vu_18, eq_false c_24, q_v_20, q_v_21, eq_false c_39, q_v_22, q_sg_24] at hE
          exact ih16 v_22 z0_10 sg_24 ws _ _ ls (by have q0 := r_v_22.1; have u0 := r_v_22.2; have o0 := r_z0_5.1; have p0 := r_z0_5.2; omega) (r_v_22.to (by decide)) n_k_23 r_z0_10 m_z0_10 o_p0 hE hw hl
  refine lv_aload_n hx hb dX7_pass_0 rfl (lv_at hl 0 rfl) ?_
  refine tg_get (ci := 7) (ts := ty_TAPE) (C := RX7) (T := TX7) (N := 12) hx hb hts inX7 hown hK hw h_p0 rfl rfl 10 (by decide) (hts _ tw_104) (fun _ h9 => h9) (ft := vI 0 4) rfl dX7_pass_1 (fun u_25 hv_u_25 m_u_25 => ?_)
  obtain ⟨vu_25, rfl, r_vu_25⟩ := hv_u_25
  have q_vu_25 : s0.1 10 = vu_25 := OV.eqI (V := vw_TAPE) hw.2.2.1 o_p0 m_u_25 (by decide)
  refine lv_if_eq (tgt := 8) hx hb dX7_pass_4 (by decide) (fun c_4 => ?_) (fun c_4 => ?_)
  · have r_vu_25 : RI vu_25 0 0 := rc_eq1 r_vu_25 rl_0 (ti_eq c_4) (by decide)
    refine lv_aload_n hx hb dX7_pass_8 rfl (lv_at hl 0 rfl) ?_
    refine lv_aload_n hx hb dX7_pass_9 rfl (lv_at hl 0 rfl) ?_
    refine tg_get (ci := 7) (ts := ty_TAPE) (C := RX7) (T := TX7) (N := 12) hx hb hts inX7 hown hK hw h_p0 rfl rfl 6 (by decide) (hts _ tw_94) (fun _ h9 => h9) (ft := vI 0 940) rfl dX7_pass_10 (fun u_26 hv_u_26 m_u_26 => ?_)
    obtain ⟨vu_26, rfl, r_vu_26⟩ := hv_u_26
    have q_vu_26 : s0.1 6 = vu_26 := OV.eqI (V := vw_TAPE) hw.2.2.1 o_p0 m_u_26 (by decide)
    refine tg_put (ci := 7) (ts := ty_TAPE) (v := .int vu_26) (ty := .int) (C := RX7) (T := TX7) (N := 12) hx hb hts inX7 tyX7 tyX7_ok nmX7 hown hK hw h_p0 rfl rfl 5 (by decide) (hts _ tw_93) (fun _ h9 => h9) rfl (by decide +kernel) rfl rfl (ft := vI 0 940) rfl ⟨_, rfl, r_vu_26⟩ (by decide) dX7_pass_13 (fun ws H locs hw n_k_27 hF9 => ?_)
    have m_u_25 := FLD.over hF9 m_u_25 (by decide)
    have m_u_26 := FLD.over hF9 m_u_26 (by decide)
    obtain ⟨sg_28, q_sg_28⟩ : ∃ q9 : OS, sI s0 5 vu_26 = q9 := ⟨_, rfl⟩
    have o_p0 : OV vw_TAPE Ps ws p0 sg_28 := by rw [← q_sg_28]; exact OV.putI (V := vw_TAPE) hF9 n_k_27 o_p0 (by decide)
    simp only [f_X7_pass__6, ↓reduceIte, q_vu_25, eq_true c_4, q_vu_26, q_sg_28] at hE
    exact B16 4294967298 vu_26 vu_25 sg_28 ws _ _ ls (by have q0 := r_vu_26.1; have u0 := r_vu_26.2; omega) r_vu_26 n_k_27 r_vu_25 m_u_25 o_p0 hE hw hl
  · have r_vu_25 : RI vu_25 1 4 := rc_neL r_vu_25 rl_0 (ti_ne c_4) (by decide)
    simp only [f_X7_pass__6, ↓reduceIte, q_vu_25, eq_false c_4] at hE
    subst hQ
    exact W.vret hx hb hr (fun t ht hW => ⟨⟨w0, rfl, ⟨⟨⟨(by rw [hR, ← hE]; exact o_p0), trivial⟩, trivial⟩, hw.1, hw.2.2.2.2.1⟩, by rw [ht]; exact hw.2.1, va_K.moved hW.alike hK, hw.2.2.1⟩, hw.2.2.2.1.F ht⟩) hw.2.2.2.1.2.2 dX7_pass_7
abbrev wr_X7_takeNumber__4 : List (Nat × Nat) := [(7, 5), (7, 6), (7, 7), (7, 8), (7, 9), (7, 10), (7, 11)]
abbrev wa_X7_takeNumber__4 : List Nat := []
set_option maxHeartbeats 4000000 in
set_option maxRecDepth 100000 in
theorem c_X7_takeNumber__4 (l : Launch) (D : va_G) (cy : Nat → ClassId) (z : Nat → Nat) (sz : Nat) (Ps : PSI) (w0 : va_W) (hT : HT cy GG Ps w0) (p0 : Nat) (p1 : Int32) (p2 : Int32) (f0_10 : Int32) (s0 : OS) (h_p0 : (p0, 26) ∈ Ps) (r_p1 : RI p1 (-2147483648) 2147483647) (r_p2 : RI p2 (-2147483648) 2147483647) (r_f0_10 : RI f0_10 0 0) (m_f0_10 : FLD w0 p0 7 10 (.int f0_10)) (o_p0 : OV vw_TAPE Ps w0 p0 s0) : Met l yX7_takeNumber (Cond.code yX7_takeNumber cX7_takeNumber 4 (some .int) :: gT) ({ frames := 3, cells := 0, slots := 0, locals := 600 } : Room) (va_Pc [.ref p0, .int p1, .int p2] (PRE D cy z w0 sz)) (va_Qi (fun (r : Int32) (u : va_W) => ((OV vw_TAPE Ps u p0 ((f_X7_takeNumber__4 p1 p2 s0).1) ∧ (f_X7_takeNumber__4 p1 p2 s0).2 = r ∧ True) ∧ (RI r (-2147483648) 2147483647 ∧ (r = 0 → True) ∧ (¬ r = 0 → True))) ∧ HT cy GG Ps u ∧ FR wr_X7_takeNumber__4 wa_X7_takeNumber__4 Ps w0 u) (BB D cy (va_A w0 sz) (fun (u : va_W) => u)) (va_A w0 sz)) 0 0 (va_A w0 sz) := by
  refine Met.ofW (cc := cX7_takeNumber) (maxL := 4) (ret := (some .int)) (by decide) rfl ?_
  intro p e s m args below meth c s₁ B hml hv
  obtain ⟨rfl, hsz, hP, hK, hD0, hSD⟩ := hv
  have hx := B.exec
  have hb := B.bytes
  have hr := B.returns
  have hlocks := B.notSynchronized
  have hts : ∀ w ∈ gT, w.before _ s = true := fun w h => atoms_spec (ws := Cond.code yX7_takeNumber cX7_takeNumber 4 (some .int) :: gT) B.pre w (List.mem_cons_of_mem _ h)
  have hown : s.vm.findClass RX7 = some m.cls := findClass_of_methodNamed B.named
  subst hsz
  have hD := hD0.self (sz := s.heap.size)
  generalize hAe : va_A w0 s.heap.size = A at hD hSD ⊢
  have hA : ∀ q : Nat, s.heap.size ≤ q → A q := fun q h => by rw [← hAe]; exact Or.inr h
  have hl := lv_entry ([.ref p0, .int p1, .int p2]) (n := 4) (Nat.le_of_ble_eq_true rfl)
  rw [lg_entry_eq]
  generalize (lg_sl ([.ref p0, .int p1, .int p2]) ++ List.replicate (4 - (lg_sl ([.ref p0, .int p1, .int p2])).length) Slot.unset).toArray = ls at hl ⊢
  have hl : lv_has ls 4 [(0, .ref p0), (1, .int p1), (2, .int p2)] := hl
  refine nameQ (fun Q hQ => ?_)
  have hw : WD D cy GG A s wr_X7_takeNumber__4 wa_X7_takeNumber__4 Ps w0 Ps w0 s.heap [] := ⟨hT, hP, hD, va_S.rf, FR.rf, hT.1, [], (List.append_nil _).symm⟩
  obtain ⟨R9, hR⟩ : ∃ q9 : OS × Int32, f_X7_takeNumber__4 p1 p2 s0 = q9 := ⟨_, rfl⟩
  have hE := hR
  have B36 : ∀ (x3 : Int32) (s0 : OS) (ws : va_W) (H : Heap) (locs : List Loc) (ls : Array Slot), RI p1 (-2147483648) 2147483647 → RI p2 (-2147483648) 2147483647 → RI x3 (-2147483648) 2147483647 → OV vw_TAPE Ps ws p0 s0 → f_X7_takeNumber__4_36 p1 p2 x3 s0 = R9 → WD D cy GG A s wr_X7_takeNumber__4 wa_X7_takeNumber__4 Ps w0 Ps ws H locs → lv_has ls 4 [(0, .ref p0), (1, .int p1), (2, .int p2), (3, .int x3)] → W p l e (headSpec (Cond.code yX7_takeNumber cX7_takeNumber 4 (some .int) :: gT) ({ frames := 3, cells := 0, slots := 0, locals := 600 } : Room)).room s m ([.ref p0, .int p1, .int p2] : List Value).toArray below meth c H locs 0 0 Q (F0 m 36 ls []) := by
    intro x3 s0 ws H locs ls r_p1 r_p2 r_x3 o_p0 hE hw hl
    refine lv_aload_n hx hb dX7_takeNumber_36 rfl (lv_at hl 0 rfl) ?_
    refine tk_v (va_runV (As := []) (rest := []) ⟨hx, hb, hml, hown, hts⟩ (c_X7_pass__6 l D cy z H.size Ps ws hw.1 p0 s0 h_p0 o_p0) (cwV 0 hts (gV tw_424 tw_425 tw_426 tw_2 tw_427) rfl rfl rfl (by decide +kernel) ⟨Nat.le_of_ble_eq_true rfl, Nat.le_of_ble_eq_true rfl⟩) (tg_preV hw hK hSD hA (ci := 7) (q := (RX7, TX7, 12)) rfl h_p0 rfl) rfl rfl hl.1 rfl (lv_room (Nat.le_of_ble_eq_true rfl)) dX7_takeNumber_37 ⟨Nat.le_of_ble_eq_true rfl, Nat.le_of_ble_eq_true rfl⟩) hw hA ⟨by decide, by decide⟩ (fun ws H locs hp_v_1 hw hF9 => ?_)
    obtain ⟨hfn, hp_v_1⟩ := hp_v_1
    obtain ⟨sg_2, q_sg_2⟩ : ∃ q9 : OS, (f_X7_pass__6 s0) = q9 := ⟨_, rfl⟩
    have o_p0 : OV vw_TAPE Ps ws p0 sg_2 := by rw [← q_sg_2]; exact hfn.1
    refine lv_iload_n hx hb dX7_takeNumber_40 rfl (lv_at hl 3 rfl) ?_
    simp only [f_X7_takeNumber__4_36, ↓reduceIte, q_sg_2] at hE
    subst hQ
    exact W.iret (v := x3) hx hb hr (fun t ht hW => ⟨⟨x3, ws, rfl, ⟨⟨⟨(by rw [hR, ← hE]; exact o_p0), (by rw [hR, ← hE]), trivial⟩, r_x3.to (by decide), (fun h0 => trivial), (fun h0 => trivial)⟩, hw.1, hw.2.2.2.2.1⟩, by rw [ht]; exact hw.2.1, va_K.moved hW.alike hK, hw.2.2.1⟩, hw.2.2.2.1.F ht⟩) hw.2.2.2.1.2.2 dX7_takeNumber_41
  have B31 : ∀ (x3 : Int32) (z0_7 : Int32) (z0_10 : Int32) (s0 : OS) (ws : va_W) (H : Heap) (locs : List Loc) (ls : Array Slot), RI p1 (-2147483648) 2147483647 → RI p2 (-2147483648) 2147483647 → RI x3 (-2147483648) 2147483647 → RI z0_7 3 3 → FLD ws p0 7 7 (.int z0_7) → RI z0_10 0 0 → FLD ws p0 7 10 (.int z0_10) → OV vw_TAPE Ps ws p0 s0 → f_X7_takeNumber__4_31 p1 p2 x3 s0 = R9 → WD D cy GG A s wr_X7_takeNumber__4 wa_X7_takeNumber__4 Ps w0 Ps ws H locs → lv_has ls 4 [(0, .ref p0), (1, .int p1), (2, .int p2), (3, .int x3)] → W p l e (headSpec (Cond.code yX7_takeNumber cX7_takeNumber 4 (some .int) :: gT) ({ frames := 3, cells := 0, slots := 0, locals := 600 } : Room)).room s m ([.ref p0, .int p1, .int p2] : List Value).toArray below meth c H locs 0 0 Q (F0 m 31 ls []) := by
    intro x3 z0_7 z0_10 s0 ws H locs ls r_p1 r_p2 r_x3 r_z0_7 m_z0_7 r_z0_10 m_z0_10 o_p0 hE hw hl
    have q_z0_7 : s0.1 7 = z0_7 := OV.eqI (V := vw_TAPE) hw.2.2.1 o_p0 m_z0_7 (by decide)
    have q_z0_10 : s0.1 10 = z0_10 := OV.eqI (V := vw_TAPE) hw.2.2.1 o_p0 m_z0_10 (by decide)
    refine lv_aload_n hx hb dX7_takeNumber_31 rfl (lv_at hl 0 rfl) ?_
    refine lv_iconst (v := 2) hx hb dX7_takeNumber_32 (by decide) ?_
    refine tk_v (va_runV (As := [.int 2]) (rest := []) ⟨hx, hb, hml, hown, hts⟩ (c_X7_refuse__5 l D cy z H.size Ps ws hw.1 p0 2 z0_10 s0 h_p0 (rl_2.to (by decide)) r_z0_10 m_z0_10 o_p0) (cwV 1 hts (gV tw_442 tw_443 tw_444 tw_2 tw_445) rfl rfl rfl (by decide +kernel) ⟨Nat.le_of_ble_eq_true rfl, Nat.le_of_ble_eq_true rfl⟩) (tg_preV hw hK hSD hA (ci := 7) (q := (RX7, TX7, 12)) rfl h_p0 rfl) rfl rfl hl.1 rfl (lv_room (Nat.le_of_ble_eq_true rfl)) dX7_takeNumber_33 ⟨Nat.le_of_ble_eq_true rfl, Nat.le_of_ble_eq_true rfl⟩) hw hA ⟨by decide, by decide⟩ (fun ws H locs hp_v_3 hw hF9 => ?_)
    have m_z0_7 := FLD.over hF9 m_z0_7 (by decide)
    obtain ⟨hfn, hp_v_3⟩ := hp_v_3
    obtain ⟨sg_4, q_sg_4⟩ : ∃ q9 : OS, (f_X7_refuse__5 (2 : Int32) s0) = q9 := ⟨_, rfl⟩
    have o_p0 : OV vw_TAPE Ps ws p0 sg_4 := by rw [← q_sg_4]; exact hfn.1
    obtain ⟨v_5, m_v_5, r_v_5⟩ := (hp_v_3.1)
    simp only [f_X7_takeNumber__4_31, ↓reduceIte, q_z0_7, q_z0_10, q_sg_4] at hE
    exact B36 x3 sg_4 ws _ _ ls r_p1 r_p2 r_x3 o_p0 hE hw hl
  refine lv_aload_n hx hb dX7_takeNumber_0 rfl (lv_at hl 0 rfl) ?_
  refine tg_get (ci := 7) (ts := ty_TAPE) (C := RX7) (T := TX7) (N := 12) hx hb hts inX7 hown hK hw h_p0 rfl rfl 9 (by decide) (hts _ tw_101) (fun _ h9 => h9) (ft := vI (-2147483648) 2147483647) rfl dX7_takeNumber_1 (fun u_6 hv_u_6 m_u_6 => ?_)
  obtain ⟨vu_6, rfl, r_vu_6⟩ := hv_u_6
  have q_vu_6 : s0.1 9 = vu_6 := OV.eqI (V := vw_TAPE) hw.2.2.1 o_p0 m_u_6 (by decide)
  refine lv_istore_n (lv' := [(3, .int vu_6), (0, .ref p0), (1, .int p1), (2, .int p2)]) hx hb dX7_takeNumber_4 rfl hl (by decide) rfl (fun ls hl => ?_)
  refine lv_aload_n hx hb dX7_takeNumber_5 rfl (lv_at hl 1 rfl) ?_
  refine tg_get (ci := 7) (ts := ty_TAPE) (C := RX7) (T := TX7) (N := 12) hx hb hts inX7 hown hK hw h_p0 rfl rfl 7 (by decide) (hts _ tw_98) (fun _ h9 => h9) (ft := vI (-2147483648) 2147483647) rfl dX7_takeNumber_6 (fun u_7 hv_u_7 m_u_7 => ?_)
  obtain ⟨vu_7, rfl, r_vu_7⟩ := hv_u_7
  have q_vu_7 : s0.1 7 = vu_7 := OV.eqI (V := vw_TAPE) hw.2.2.1 o_p0 m_u_7 (by decide)
  refine lv_iconst (v := 3) hx hb dX7_takeNumber_9 (by decide) ?_
  refine lv_icmp_eq (tgt := 21) hx hb dX7_takeNumber_10 (by decide) (fun c_10 => ?_) (fun c_10 => ?_)
  · have r_vu_7 : RI vu_7 3 3 := rc_eq1 r_vu_7 rl_3 (ti_eq c_10) (by decide)
    refine lv_iload_n hx hb dX7_takeNumber_21 rfl (lv_at hl 0 rfl) ?_
    refine lv_iload_n hx hb dX7_takeNumber_22 rfl (lv_at hl 2 rfl) ?_
    refine lv_icmp_lt (tgt := 31) hx hb dX7_takeNumber_23 (by decide) (fun c_23 => ?_) (fun c_23 => ?_)
    · have r_vu_6 : RI vu_6 (-2147483648) 2147483646 := rc_lt1 r_vu_6 r_p1 (ti_lt c_23) (by decide)
      have r_p1 : RI p1 (-2147483647) 2147483647 := rc_lt2 r_vu_6 r_p1 (ti_lt c_23) (by decide)
      simp only [f_X7_takeNumber__4, ↓reduceIte, q_vu_6, q_vu_7, eq_true c_10, eq_true c_23] at hE
      exact B31 vu_6 vu_7 f0_10 s0 w0 _ _ ls (r_p1.to (by decide)) r_p2 (r_vu_6.to (by decide)) r_vu_7 m_u_7 r_f0_10 m_f0_10 o_p0 hE hw (lv_sub hl [1, 2, 3, 0] rfl)
    · refine lv_iload_n hx hb dX7_takeNumber_26 rfl (lv_at hl 0 rfl) ?_
      refine lv_iload_n hx hb dX7_takeNumber_27 rfl (lv_at hl 3 rfl) ?_
      refine lv_icmp_le (tgt := 36) hx hb dX7_takeNumber_28 (by decide) (fun c_28 => ?_) (fun c_28 => ?_)
      · simp only [f_X7_takeNumber__4, ↓reduceIte, q_vu_6, q_vu_7, eq_true c_10, eq_false c_23, eq_true c_28] at hE
        exact B36 vu_6 s0 w0 _ _ ls r_p1 r_p2 r_vu_6 o_p0 hE hw (lv_sub hl [1, 2, 3, 0] rfl)
      · have r_p2 : RI p2 (-2147483648) 2147483646 := rc_lt1 r_p2 r_vu_6 (ti_nle c_28) (by decide)
        have r_vu_6 : RI vu_6 (-2147483647) 2147483647 := rc_lt2 r_p2 r_vu_6 (ti_nle c_28) (by decide)
        simp only [f_X7_takeNumber__4, ↓reduceIte, q_vu_6, q_vu_7, eq_true c_10, eq_false c_23, eq_false c_28] at hE
        exact B31 vu_6 vu_7 f0_10 s0 w0 _ _ ls r_p1 (r_p2.to (by decide)) (r_vu_6.to (by decide)) r_vu_7 m_u_7 r_f0_10 m_f0_10 o_p0 hE hw (lv_sub hl [1, 2, 3, 0] rfl)
  · refine lv_aload_n hx hb dX7_takeNumber_13 rfl (lv_at hl 1 rfl) ?_
    refine lv_iconst (v := 1) hx hb dX7_takeNumber_14 (by decide) ?_
    refine tk_v (va_runV (As := [.int 1]) (rest := []) ⟨hx, hb, hml, hown, hts⟩ (c_X7_refuse__5 l D cy z s.heap.size Ps w0 hw.1 p0 1 f0_10 s0 h_p0 (rl_1.to (by decide)) r_f0_10 m_f0_10 o_p0) (cwV 1 hts (gV tw_442 tw_443 tw_444 tw_2 tw_445) rfl rfl rfl (by decide +kernel) ⟨Nat.le_of_ble_eq_true rfl, Nat.le_of_ble_eq_true rfl⟩) (tg_preV hw hK hSD hA (ci := 7) (q := (RX7, TX7, 12)) rfl h_p0 rfl) rfl rfl hl.1 rfl (lv_room (Nat.le_of_ble_eq_true rfl)) dX7_takeNumber_15 ⟨Nat.le_of_ble_eq_true rfl, Nat.le_of_ble_eq_true rfl⟩) hw hA ⟨by decide, by decide⟩ (fun ws H locs hp_v_8 hw hF9 => ?_)
    have m_u_6 := FLD.over hF9 m_u_6 (by decide)
    have m_u_7 := FLD.over hF9 m_u_7 (by decide)
    obtain ⟨hfn, hp_v_8⟩ := hp_v_8
    obtain ⟨sg_9, q_sg_9⟩ : ∃ q9 : OS, (f_X7_refuse__5 (1 : Int32) s0) = q9 := ⟨_, rfl⟩
    have o_p0 : OV vw_TAPE Ps ws p0 sg_9 := by rw [← q_sg_9]; exact hfn.1
    obtain ⟨v_10, m_v_10, r_v_10⟩ := (hp_v_8.1)
    refine lv_goto (tgt := 36) hx hb dX7_takeNumber_18 (by decide) ?_
    simp only [f_X7_takeNumber__4, ↓reduceIte, q_vu_6, q_vu_7, eq_false c_10, q_sg_9] at hE
    exact B36 vu_6 sg_9 ws _ _ ls r_p1 r_p2 r_vu_6 o_p0 hE hw (lv_sub hl [1, 2, 3, 0] rfl)
abbrev wr_X7_takeNumber__5 : List (Nat × Nat) := [(7, 5), (7, 6), (7, 7), (7, 8), (7, 9), (7, 10), (7, 11)]
abbrev wa_X7_takeNumber__5 : List Nat := []
set_option maxHeartbeats 4000000 in
set_option maxRecDepth 100000 in
theorem c_X7_takeNumber__5 (l : Launch) (D : va_G) (cy : Nat → ClassId) (z : Nat → Nat) (sz : Nat) (Ps : PSI) (w0 : va_W) (hT : HT cy GG Ps w0) (p0 : Nat) (p1 : Int32) (p2 : Int32) (s0 : OS) (h_p0 : (p0, 26) ∈ Ps) (r_p1 : RI p1 (-2147483648) 2147483647) (r_p2 : RI p2 (-2147483648) 2147483647) (o_p0 : OV vw_TAPE Ps w0 p0 s0) : Met l yX7_takeNumber (Cond.code yX7_takeNumber cX7_takeNumber 4 (some .int) :: gT) ({ frames := 3, cells := 0, slots := 0, locals := 600 } : Room) (va_Pc [.ref p0, .int p1, .int p2] (PRE D cy z w0 sz)) (va_Qi (fun (r : Int32) (u : va_W) => ((OV vw_TAPE Ps u p0 ((f_X7_takeNumber__5 p1 p2 s0).1) ∧ (f_X7_takeNumber__5 p1 p2 s0).2 = r ∧ True) ∧ (RI r (-2147483648) 2147483647 ∧ (r = 0 → True) ∧ (¬ r = 0 → True))) ∧ HT cy GG Ps u ∧ FR wr_X7_takeNumber__5 wa_X7_takeNumber__5 Ps w0 u) (BB D cy (va_A w0 sz) (fun (u : va_W) => u)) (va_A w0 sz)) 0 0 (va_A w0 sz) := by
  refine Met.ofW (cc := cX7_takeNumber) (maxL := 4) (ret := (some .int)) (by decide) rfl ?_
  intro p e s m args below meth c s₁ B hml hv
  obtain ⟨rfl, hsz, hP, hK, hD0, hSD⟩ := hv
  have hx := B.exec
  have hb := B.bytes
  have hr := B.returns
  have hlocks := B.notSynchronized
  have hts : ∀ w ∈ gT, w.before _ s = true := fun w h => atoms_spec (ws := Cond.code yX7_takeNumber cX7_takeNumber 4 (some .int) :: gT) B.pre w (List.mem_cons_of_mem _ h)
  have hown : s.vm.findClass RX7 = some m.cls := findClass_of_methodNamed B.named
  subst hsz
  have hD := hD0.self (sz := s.heap.size)
  generalize hAe : va_A w0 s.heap.size = A at hD hSD ⊢
  have hA : ∀ q : Nat, s.heap.size ≤ q → A q := fun q h => by rw [← hAe]; exact Or.inr h
  have hl := lv_entry ([.ref p0, .int p1, .int p2]) (n := 4) (Nat.le_of_ble_eq_true rfl)
  rw [lg_entry_eq]
  generalize (lg_sl ([.ref p0, .int p1, .int p2]) ++ List.replicate (4 - (lg_sl ([.ref p0, .int p1, .int p2])).length) Slot.unset).toArray = ls at hl ⊢
  have hl : lv_has ls 4 [(0, .ref p0), (1, .int p1), (2, .int p2)] := hl
  refine nameQ (fun Q hQ => ?_)
  have hw : WD D cy GG A s wr_X7_takeNumber__5 wa_X7_takeNumber__5 Ps w0 Ps w0 s.heap [] := ⟨hT, hP, hD, va_S.rf, FR.rf, hT.1, [], (List.append_nil _).symm⟩
  obtain ⟨R9, hR⟩ : ∃ q9 : OS × Int32, f_X7_takeNumber__5 p1 p2 s0 = q9 := ⟨_, rfl⟩
  have hE := hR
  have B36 : ∀ (x3 : Int32) (s0 : OS) (ws : va_W) (H : Heap) (locs : List Loc) (ls : Array Slot), RI p1 (-2147483648) 2147483647 → RI p2 (-2147483648) 2147483647 → RI x3 (-2147483648) 2147483647 → OV vw_TAPE Ps ws p0 s0 → f_X7_takeNumber__5_36 p1 p2 x3 s0 = R9 → WD D cy GG A s wr_X7_takeNumber__5 wa_X7_takeNumber__5 Ps w0 Ps ws H locs → lv_has ls 4 [(0, .ref p0), (1, .int p1), (2, .int p2), (3, .int x3)] → W p l e (headSpec (Cond.code yX7_takeNumber cX7_takeNumber 4 (some .int) :: gT) ({ frames := 3, cells := 0, slots := 0, locals := 600 } : Room)).room s m ([.ref p0, .int p1, .int p2] : List Value).toArray below meth c H locs 0 0 Q (F0 m 36 ls []) := by
    intro x3 s0 ws H locs ls r_p1 r_p2 r_x3 o_p0 hE hw hl
    refine lv_aload_n hx hb dX7_takeNumber_36 rfl (lv_at hl 0 rfl) ?_
    refine tk_v (va_runV (As := []) (rest := []) ⟨hx, hb, hml, hown, hts⟩ (c_X7_pass__6 l D cy z H.size Ps ws hw.1 p0 s0 h_p0 o_p0) (cwV 0 hts (gV tw_424 tw_425 tw_426 tw_2 tw_427) rfl rfl rfl (by decide +kernel) ⟨Nat.le_of_ble_eq_true rfl, Nat.le_of_ble_eq_true rfl⟩) (tg_preV hw hK hSD hA (ci := 7) (q := (RX7, TX7, 12)) rfl h_p0 rfl) rfl rfl hl.1 rfl (lv_room (Nat.le_of_ble_eq_true rfl)) dX7_takeNumber_37 ⟨Nat.le_of_ble_eq_true rfl, Nat.le_of_ble_eq_true rfl⟩) hw hA ⟨by decide, by decide⟩ (fun ws H locs hp_v_1 hw hF9 => ?_)
    obtain ⟨hfn, hp_v_1⟩ := hp_v_1
    obtain ⟨sg_2, q_sg_2⟩ : ∃ q9 : OS, (f_X7_pass__6 s0) = q9 := ⟨_, rfl⟩
    have o_p0 : OV vw_TAPE Ps ws p0 sg_2 := by rw [← q_sg_2]; exact hfn.1
    refine lv_iload_n hx hb dX7_takeNumber_40 rfl (lv_at hl 3 rfl) ?_
    simp only [f_X7_takeNumber__5_36, ↓reduceIte, q_sg_2] at hE
    subst hQ
    exact W.iret (v := x3) hx hb hr (fun t ht hW => ⟨⟨x3, ws, rfl, ⟨⟨⟨(by rw [hR, ← hE]; exact o_p0), (by rw [hR, ← hE]), trivial⟩, r_x3.to (by decide), (fun h0 => trivial), (fun h0 => trivial)⟩, hw.1, hw.2.2.2.2.1⟩, by rw [ht]; exact hw.2.1, va_K.moved hW.alike hK, hw.2.2.1⟩, hw.2.2.2.1.F ht⟩) hw.2.2.2.1.2.2 dX7_takeNumber_41
  have B31 : ∀ (x3 : Int32) (z0_7 : Int32) (s0 : OS) (ws : va_W) (H : Heap) (locs : List Loc) (ls : Array Slot), RI p1 (-2147483648) 2147483647 → RI p2 (-2147483648) 2147483647 → RI x3 (-2147483648) 2147483647 → RI z0_7 3 3 → FLD ws p0 7 7 (.int z0_7) → OV vw_TAPE Ps ws p0 s0 → f_X7_takeNumber__5_31 p1 p2 x3 s0 = R9 → WD D cy GG A s wr_X7_takeNumber__5 wa_X7_takeNumber__5 Ps w0 Ps ws H locs → lv_has ls 4 [(0, .ref p0), (1, .int p1), (2, .int p2), (3, .int x3)] → W p l e (headSpec (Cond.code yX7_takeNumber cX7_takeNumber 4 (some .int) :: gT) ({ frames := 3, cells := 0, slots := 0, locals := 600 } : Room)).room s m ([.ref p0, .int p1, .int p2] : List Value).toArray below meth c H locs 0 0 Q (F0 m 31 ls []) := by
    intro x3 z0_7 s0 ws H locs ls r_p1 r_p2 r_x3 r_z0_7 m_z0_7 o_p0 hE hw hl
    have q_z0_7 : s0.1 7 = z0_7 := OV.eqI (V := vw_TAPE) hw.2.2.1 o_p0 m_z0_7 (by decide)
    refine lv_aload_n hx hb dX7_takeNumber_31 rfl (lv_at hl 0 rfl) ?_
    refine lv_iconst (v := 2) hx hb dX7_takeNumber_32 (by decide) ?_
    refine tk_v (va_runV (As := [.int 2]) (rest := []) ⟨hx, hb, hml, hown, hts⟩ (c_X7_refuse__4 l D cy z H.size Ps ws hw.1 p0 2 s0 h_p0 (rl_2.to (by decide)) o_p0) (cwV 1 hts (gV tw_442 tw_443 tw_444 tw_2 tw_445) rfl rfl rfl (by decide +kernel) ⟨Nat.le_of_ble_eq_true rfl, Nat.le_of_ble_eq_true rfl⟩) (tg_preV hw hK hSD hA (ci := 7) (q := (RX7, TX7, 12)) rfl h_p0 rfl) rfl rfl hl.1 rfl (lv_room (Nat.le_of_ble_eq_true rfl)) dX7_takeNumber_33 ⟨Nat.le_of_ble_eq_true rfl, Nat.le_of_ble_eq_true rfl⟩) hw hA ⟨by decide, by decide⟩ (fun ws H locs hp_v_3 hw hF9 => ?_)
    have m_z0_7 := FLD.over hF9 m_z0_7 (by decide)
    obtain ⟨hfn, hp_v_3⟩ := hp_v_3
    obtain ⟨sg_4, q_sg_4⟩ : ∃ q9 : OS, (f_X7_refuse__4 (2 : Int32) s0) = q9 := ⟨_, rfl⟩
    have o_p0 : OV vw_TAPE Ps ws p0 sg_4 := by rw [← q_sg_4]; exact hfn.1
    obtain ⟨v_5, m_v_5, r_v_5⟩ := (hp_v_3.1)
    simp only [f_X7_takeNumber__5_31, ↓reduceIte, q_z0_7, q_sg_4] at hE
    exact B36 x3 sg_4 ws _ _ ls r_p1 r_p2 r_x3 o_p0 hE hw hl
  refine lv_aload_n hx hb dX7_takeNumber_0 rfl (lv_at hl 0 rfl) ?_
  refine tg_get (ci := 7) (ts := ty_TAPE) (C := RX7) (T := TX7) (N := 12) hx hb hts inX7 hown hK hw h_p0 rfl rfl 9 (by decide) (hts _ tw_101) (fun _ h9 => h9) (ft := vI (-2147483648) 2147483647) rfl dX7_takeNumber_1 (fun u_6 hv_u_6 m_u_6 => ?_)
  obtain ⟨vu_6, rfl, r_vu_6⟩ := hv_u_6
  have q_vu_6 : s0.1 9 = vu_6 := OV.eqI (V := vw_TAPE) hw.2.2.1 o_p0 m_u_6 (by decide)
  refine lv_istore_n (lv' := [(3, .int vu_6), (0, .ref p0), (1, .int p1), (2, .int p2)]) hx hb dX7_takeNumber_4 rfl hl (by decide) rfl (fun ls hl => ?_)
  refine lv_aload_n hx hb dX7_takeNumber_5 rfl (lv_at hl 1 rfl) ?_
  refine tg_get (ci := 7) (ts := ty_TAPE) (C := RX7) (T := TX7) (N := 12) hx hb hts inX7 hown hK hw h_p0 rfl rfl 7 (by decide) (hts _ tw_98) (fun _ h9 => h9) (ft := vI (-2147483648) 2147483647) rfl dX7_takeNumber_6 (fun u_7 hv_u_7 m_u_7 => ?_)
  obtain ⟨vu_7, rfl, r_vu_7⟩ := hv_u_7
  have q_vu_7 : s0.1 7 = vu_7 := OV.eqI (V := vw_TAPE) hw.2.2.1 o_p0 m_u_7 (by decide)
  refine lv_iconst (v := 3) hx hb dX7_takeNumber_9 (by decide) ?_
  refine lv_icmp_eq (tgt := 21) hx hb dX7_takeNumber_10 (by decide) (fun c_10 => ?_) (fun c_10 => ?_)
  · have r_vu_7 : RI vu_7 3 3 := rc_eq1 r_vu_7 rl_3 (ti_eq c_10) (by decide)
    refine lv_iload_n hx hb dX7_takeNumber_21 rfl (lv_at hl 0 rfl) ?_
    refine lv_iload_n hx hb dX7_takeNumber_22 rfl (lv_at hl 2 rfl) ?_
    refine lv_icmp_lt (tgt := 31) hx hb dX7_takeNumber_23 (by decide) (fun c_23 => ?_) (fun c_23 => ?_)
    · have r_vu_6 : RI vu_6 (-2147483648) 2147483646 := rc_lt1 r_vu_6 r_p1 (ti_lt c_23) (by decide)
      have r_p1 : RI p1 (-2147483647) 2147483647 := rc_lt2 r_vu_6 r_p1 (ti_lt c_23) (by decide)
      simp only [f_X7_takeNumber__5, ↓reduceIte, q_vu_6, q_vu_7, eq_true c_10, eq_true c_23] at hE
      exact B31 vu_6 vu_7 s0 w0 _ _ ls (r_p1.to (by decide)) r_p2 (r_vu_6.to (by decide)) r_vu_7 m_u_7 o_p0 hE hw (lv_sub hl [1, 2, 3, 0] rfl)
    · refine lv_iload_n hx hb dX7_takeNumber_26 rfl (lv_at hl 0 rfl) ?_
      refine lv_iload_n hx hb dX7_takeNumber_27 rfl (lv_at hl 3 rfl) ?_
      refine lv_icmp_le (tgt := 36) hx hb dX7_takeNumber_28 (by decide) (fun c_28 => ?_) (fun c_28 => ?_)
      · simp only [f_X7_takeNumber__5, ↓reduceIte, q_vu_6, q_vu_7, eq_true c_10, eq_false c_23, eq_true c_28] at hE
        exact B36 vu_6 s0 w0 _ _ ls r_p1 r_p2 r_vu_6 o_p0 hE hw (lv_sub hl [1, 2, 3, 0] rfl)
      · have r_p2 : RI p2 (-2147483648) 2147483646 := rc_lt1 r_p2 r_vu_6 (ti_nle c_28) (by decide)
        have r_vu_6 : RI vu_6 (-2147483647) 2147483647 := rc_lt2 r_p2 r_vu_6 (ti_nle c_28) (by decide)
        simp only [f_X7_takeNumber__5, ↓reduceIte, q_vu_6, q_vu_7, eq_true c_10, eq_false c_23, eq_false c_28] at hE
        exact B31 vu_6 vu_7 s0 w0 _ _ ls r_p1 (r_p2.to (by decide)) (r_vu_6.to (by decide)) r_vu_7 m_u_7 o_p0 hE hw (lv_sub hl [1, 2, 3, 0] rfl)
  · refine lv_aload_n hx hb dX7_takeNumber_13 rfl (lv_at hl 1 rfl) ?_
    refine lv_iconst (v := 1) hx hb dX7_takeNumber_14 (by decide) ?_
    refine tk_v (va_runV (As := [.int 1]) (rest := []) ⟨hx, hb, hml, hown, hts⟩ (c_X7_refuse__4 l D cy z s.heap.size Ps w0 hw.1 p0 1 s0 h_p0 (rl_1.to (by decide)) o_p0) (cwV 1 hts (gV tw_442 tw_443 tw_444 tw_2 tw_445) rfl rfl rfl (by decide +kernel) ⟨Nat.le_of_ble_eq_true rfl, Nat.le_of_ble_eq_true rfl⟩) (tg_preV hw hK hSD hA (ci := 7) (q := (RX7, TX7, 12)) rfl h_p0 rfl) rfl rfl hl.1 rfl (lv_room (Nat.le_of_ble_eq_true rfl)) dX7_takeNumber_15 ⟨Nat.le_of_ble_eq_true rfl, Nat.le_of_ble_eq_true rfl⟩) hw hA ⟨by decide, by decide⟩ (fun ws H locs hp_v_8 hw hF9 => ?_)
    have m_u_6 := FLD.over hF9 m_u_6 (by decide)
    have m_u_7 := FLD.over hF9 m_u_7 (by decide)
    obtain ⟨hfn, hp_v_8⟩ := hp_v_8
    obtain ⟨sg_9, q_sg_9⟩ : ∃ q9 : OS, (f_X7_refuse__4 (1 : Int32) s0) = q9 := ⟨_, rfl⟩
    have o_p0 : OV vw_TAPE Ps ws p0 sg_9 := by rw [← q_sg_9]; exact hfn.1
    obtain ⟨v_10, m_v_10, r_v_10⟩ := (hp_v_8.1)
    refine lv_goto (tgt := 36) hx hb dX7_takeNumber_18 (by decide) ?_
    simp only [f_X7_takeNumber__5, ↓reduceIte, q_vu_6, q_vu_7, eq_false c_10, q_sg_9] at hE
    exact B36 vu_6 sg_9 ws _ _ ls r_p1 r_p2 r_vu_6 o_p0 hE hw (lv_sub hl [1, 2, 3, 0] rfl)
abbrev wr_X3_readNamed__4 : List (Nat × Nat) := [(7, 5), (7, 6), (7, 7), (7, 8), (7, 9), (7, 10), (7, 11)]
abbrev wa_X3_readNamed__4 : List Nat := [1, 4, 5]
set_option maxHeartbeats 4000000 in
set_option maxRecDepth 100000 in
theorem c_X3_readNamed__4 (l : Launch) (D : va_G) (cy : Nat → ClassId) (z : Nat → Nat) (sz : Nat) (Ps : PSI) (w0 : va_W) (hT : HT cy GG Ps w0) (p0 : Nat) (p1 : Nat) (p2 : Nat) (p3 : Int32) (s0 : OS) (s1 : OS) (s2 : OS) (h_p0 : (p0, 25) ∈ Ps) (h_p1 : (p1, 26) ∈ Ps) (h_p2 : (p2, 24) ∈ Ps) (r_p3 : RI p3 0 0) (x_MLT_p0_0 : AXC 3 1 4 (fun f => (f 0).toInt < 6) Ps w0 p0) (o_p0 : OV vw_POST Ps w0 p0 s0) (o_p1 : OV vw_TAPE Ps w0 p1 s1) (o_p2 : OV vw_WORLD Ps w0 p2 s2) : Met l yX3_readNamed (Cond.code yX3_readNamed cX3_readNamed 5 none :: gT) ({ frames := 4, cells := 0, slots := 0, locals := 800 } : Room) (va_Pc [.ref p0, .ref p1, .ref p2, .int p3] (PRE D cy z w0 sz)) (va_Qv (fun (u : va_W) => ((OV vw_POST Ps u p0 ((f_X3_readNamed__4 p3 s0 s1 s2).1) ∧ OV vw_TAPE Ps u p1 ((f_X3_readNamed__4 p3 s0 s1 s2).2.1) ∧ OV vw_WORLD Ps u p2 ((f_X3_readNamed__4 p3 s0 s1 s2).2.2) ∧ True) ∧ (True)) ∧ HT cy GG Ps u ∧ FR wr_X3_readNamed__4 wa_X3_readNamed__4 Ps w0 u) (BB D cy (va_A w0 sz) (fun (u : va_W) => u)) (va_A w0 sz)) 0 0 (va_A w0 sz) := by
  refine Met.ofW (cc := cX3_readNamed) (maxL := 5) (ret := none) (by decide) rfl ?_
  intro p e s m args below meth c s₁ B hml hv
  obtain ⟨rfl, hsz, hP, hK, hD0, hSD⟩ := hv
  have hx := B.exec
  have hb := B.bytes
  have hr := B.returns
  have hlocks := B.notSynchronized
  have hts : ∀ w ∈ gT, w.before _ s = true := fun w h => atoms_spec (ws := Cond.code yX3_readNamed cX3_readNamed 5 none :: gT) B.pre w (List.mem_cons_of_mem _ h)
  have hown : s.vm.findClass RX3 = some m.cls := findClass_of_methodNamed B.named
  subst hsz
  have hD := hD0.self (sz := s.heap.size)
  generalize hAe : va_A w0 s.heap.size = A at hD hSD ⊢
  have hA : ∀ q : Nat, s.heap.size ≤ q → A q := fun q h => by rw [← hAe]; exact Or.inr h
  have hl := lv_entry ([.ref p0, .ref p1, .ref p2, .int p3]) (n := 5) (Nat.le_of_ble_eq_true rfl)
  rw [lg_entry_eq]
  generalize (lg_sl ([.ref p0, .ref p1, .ref p2, .int p3]) ++ List.replicate (5 - (lg_sl ([.ref p0, .ref p1, .ref p2, .int p3])).length) Slot.unset).toArray = ls at hl ⊢
  have hl : lv_has ls 5 [(0, .ref p0), (1, .ref p1), (2, .ref p2), (3, .int p3)] := hl
  refine nameQ (fun Q hQ => ?_)
  have hw : WD D cy GG A s wr_X3_readNamed__4 wa_X3_readNamed__4 Ps w0 Ps w0 s.heap [] := ⟨hT, hP, hD, va_S.rf, FR.rf, hT.1, [], (List.append_nil _).symm⟩
  obtain ⟨R9, hR⟩ : ∃ q9 : OS × OS × OS, f_X3_readNamed__4 p3 s0 s1 s2 = q9 := ⟨_, rfl⟩
  have hE := hR
  refine lv_aload_n hx hb dX3_readNamed_0 rfl (lv_at hl 0 rfl) ?_
  refine lv_aload_n hx hb dX3_readNamed_1 rfl (lv_at hl 1 rfl) ?_
  refine lv_iload_n hx hb dX3_readNamed_2 rfl (lv_at hl 3 rfl) ?_
  refine tk_i (va_runV (As := [.ref p1, .int p3]) (rest := []) ⟨hx, hb, hml, hown, hts⟩ (c_X3_tellName__4 l D cy z s.heap.size Ps w0 hw.1 p0 p1 p3 s0 s1 h_p0 h_p1 r_p3 x_MLT_p0_0 o_p0 o_p1) (cwV 2 hts (gV tw_503 tw_505 ts_7 tw_11 tw_506) rfl rfl rfl (by decide +kernel) ⟨Nat.le_of_ble_eq_true rfl, Nat.le_of_ble_eq_true rfl⟩) (tg_preV hw hK hSD hA (ci := 3) (q := (RX3, TX3, 9)) rfl h_p0 rfl) rfl rfl hl.1 rfl (lv_room (Nat.le_of_ble_eq_true rfl)) dX3_readNamed_3 ⟨Nat.le_of_ble_eq_true rfl, Nat.le_of_ble_eq_true rfl⟩) hw hA ⟨by decide, by decide⟩ (fun v_1 ws H locs hp_v_1 hw hF9 => ?_)
  obtain ⟨hfn, hp_v_1⟩ := hp_v_1
  have o_p2 := OV.over (V := vw_WORLD) hF9 o_p2 (by decide)
  obtain ⟨sg_2, q_sg_2⟩ : ∃ q9 : OS, (f_X3_tellName__4 p3 s0 s1).1 = q9 := ⟨_, rfl⟩
  have o_p0 : OV vw_POST Ps ws p0 sg_2 := by rw [← q_sg_2]; exact hfn.1
  obtain ⟨sg_3, q_sg_3⟩ : ∃ q9 : OS, (f_X3_tellName__4 p3 s0 s1).2.1 = q9 := ⟨_, rfl⟩
  have o_p1 : OV vw_TAPE Ps ws p1 sg_3 := by rw [← q_sg_3]; exact hfn.2.1
  have q_v_1 : (f_X3_tellName__4 p3 s0 s1).2.2 = v_1 := hfn.2.2.1
  have r_v_1 : RI v_1 (-1) 5 := hp_v_1.1
  by_cases c9_v_1 : v_1 = 0
  · have r_v_1 : RI v_1 0 0 := by rw [c9_v_1]; exact rl_0
    obtain ⟨v_4, m_v_4, r_v_4⟩ := ((hp_v_1.2.1 c9_v_1).1)
    refine lv_istore (lv' := [(4, .int v_1), (0, .ref p0), (1, .ref p1), (2, .ref p2), (3, .int p3)]) hx hb dX3_readNamed_6 hl (by decide) rfl (fun ls hl => ?_)
    refine lv_iload hx hb dX3_readNamed_8 (lv_at hl 0 rfl) ?_
    refine lv_iconst (v := (-1)) hx hb dX3_readNamed_10 (by decide) ?_
    refine lv_icmp_ne (tgt := 15) hx hb dX3_readNamed_11 (by decide) (fun c_11 => ?_) (fun c_11 => ?_)
    · refine lv_iload_n hx hb dX3_readNamed_15 rfl (lv_at hl 4 rfl) ?_
      refine lv_if_ne (tgt := 36) hx hb dX3_readNamed_16 (by decide) (fun c_16 => ?_) (fun c_16 => ?_)
      · exact absurd (r_p3.eq.trans rl_0.eq.symm) ((ti_ne c_16))
      · refine lv_aload_n hx hb dX3_readNamed_19 rfl (lv_at hl 1 rfl) ?_
        refine tg_get (ci := 3) (ts := ty_POST) (C := RX3) (T := TX3) (N := 9) hx hb hts inX3 hown hK hw h_p0 rfl rfl 2 (by decide) (hts _ tw_205) (fun _ h9 => h9) (ft := vR 5) rfl dX3_readNamed_20 (fun u_5 hv_u_5 m_u_5 => ?_)
        obtain ⟨vu_5, rfl, h_vu_5⟩ := hv_u_5
        refine lv_iload hx hb dX3_readNamed_23 (lv_at hl 0 rfl) ?_
        refine lv_aload_n hx hb dX3_readNamed_25 rfl (lv_at hl 2 rfl) ?_
        refine lv_iconst (v := 1) hx hb dX3_readNamed_26 (by decide) ?_
        refine lv_bipush (v := 60) hx hb dX3_readNamed_27 (by decide) ?_
        refine tk_i (va_runV (As := [.int 1, .int 60]) (rest := [.int v_1, .ref vu_5]) ⟨hx, hb, hml, hown, hts⟩ (c_X7_takeNumber__4 l D cy z H.size Ps ws hw.1 p1 1 60 v_4 sg_3 h_p1 (rl_1.to (by decide)) (rl_60.to (by decide)) r_v_4 m_v_4 o_p1) (cwV 2 hts (gV tw_477 tw_478 tw_479 tw_2 tw_480) rfl rfl rfl (by decide +kernel) ⟨Nat.le_of_ble_eq_true rfl, Nat.le_of_ble_eq_true rfl⟩) (tg_preV hw hK hSD hA (ci := 7) (q := (RX7, TX7, 12)) rfl h_p1 rfl) rfl rfl hl.1 rfl (lv_room (Nat.le_of_ble_eq_true rfl)) dX3_readNamed_29 ⟨Nat.le_of_ble_eq_true rfl, Nat.le_of_ble_eq_true rfl⟩) hw hA ⟨by decide, by decide⟩ (fun v_6 ws H locs hp_v_6 hw hF9 => ?_)
        have m_u_5 := FLD.over hF9 m_u_5 (by decide)
        obtain ⟨hfn, hp_v_6⟩ := hp_v_6
        have o_p0 := OV.over (V := vw_POST) hF9 o_p0 (by decide)
        have o_p2 := OV.over (V := vw_WORLD) hF9 o_p2 (by decide)
        obtain ⟨sg_7, q_sg_7⟩ : ∃ q9 : OS, (f_X7_takeNumber__4 (1 : Int32) (60 : Int32) sg_3).1 = q9 := ⟨_, rfl⟩
        have o_p1 : OV vw_TAPE Ps ws p1 sg_7 := by rw [← q_sg_7]; exact hfn.1
        have q_v_6 : (f_X7_takeNumber__4 (1 : Int32) (60 : Int32) sg_3).2 = v_6 := hfn.2.1
        have r_v_6 : RI v_6 (-2147483648) 2147483647 := hp_v_6.1
        have mo9 := m_u_5
        refine tg_iast hx hb hK hw h_vu_5 rfl 0 0 r_v_1 (by decide) r_v_6 (by exact fun _ _ _ => by decide) (fun _ _ _ _ _ => trivial) (by decide) dX3_readNamed_32 (fun ws H locs hw hF9 hU9 => ?_)
        have m_u_5 := FLD.over hF9 m_u_5 (by decide)
        have o_p1 := OV.over (V := vw_TAPE) hF9 o_p1 (by decide)
        have o_p2 := OV.over (V := vw_WORLD) hF9 o_p2 (by decide)
        obtain ⟨sg_8, q_sg_8⟩ : ∃ q9 : OS, sA sg_2 2 (Int32.toNatClampNeg v_1) v_6 = q9 := ⟨_, rfl⟩
        have o_p0 : OV vw_POST Ps ws p0 sg_8 := by rw [← q_sg_8]; exact OV.putA (V := vw_POST) (t := 5) hF9 hU9 o_p0 mo9 (by decide) (by decide)
        refine lv_goto (tgt := 97) hx hb dX3_readNamed_33 (by decide) ?_
        simp only [f_X3_readNamed__4, ↓reduceIte, q_sg_2, q_sg_3, q_v_1, eq_true c9_v_1, eq_false c_11, eq_true c_16, q_sg_7, q_v_6, q_sg_8] at hE
        subst hQ
        exact W.vret hx hb hr (fun t ht hW => ⟨⟨ws, rfl, ⟨⟨⟨(by rw [hR, ← hE]; exact o_p0), (by rw [hR, ← hE]; exact o_p1), (by rw [hR, ← hE]; exact o_p2), trivial⟩, trivial⟩, hw.1, hw.2.2.2.2.1⟩, by rw [ht]; exact hw.2.1, va_K.moved hW.alike hK, hw.2.2.1⟩, hw.2.2.2.1.F ht⟩) hw.2.2.2.1.2.2 dX3_readNamed_97
    · have r_v_1 : RI v_1 0 (-1) := rc_eq1 r_v_1 rl_m1 (ti_eq c_11) (by decide)
      exact (r_v_1.no (by decide)).elim
  · refine lv_istore (lv' := [(4, .int v_1), (0, .ref p0), (1, .ref p1), (2, .ref p2), (3, .int p3)]) hx hb dX3_readNamed_6 hl (by decide) rfl (fun ls hl => ?_)
    refine lv_iload hx hb dX3_readNamed_8 (lv_at hl 0 rfl) ?_
    refine lv_iconst (v := (-1)) hx hb dX3_readNamed_10 (by decide) ?_
    refine lv_icmp_ne (tgt := 15) hx hb dX3_readNamed_11 (by decide) (fun c_11 => ?_) (fun c_11 => ?_)
    · have r_v_1 : RI v_1 0 5 := rc_neL r_v_1 rl_m1 (ti_ne c_11) (by decide)
      refine lv_iload_n hx hb dX3_readNamed_15 rfl (lv_at hl 4 rfl) ?_
      refine lv_if_ne (tgt := 36) hx hb dX3_readNamed_16 (by decide) (fun c_16 => ?_) (fun c_16 => ?_)
      · exact absurd (r_p3.eq.trans rl_0.eq.symm) ((ti_ne c_16))
      · refine lv_aload_n hx hb dX3_readNamed_19 rfl (lv_at hl 1 rfl) ?_
        refine tg_get (ci := 3) (ts := ty_POST) (C := RX3) (T := TX3) (N := 9) hx hb hts inX3 hown hK hw h_p0 rfl rfl 2 (by decide) (hts _ tw_205) (fun _ h9 => h9) (ft := vR 5) rfl dX3_readNamed_20 (fun u_9 hv_u_9 m_u_9 => ?_)
        obtain ⟨vu_9, rfl, h_vu_9⟩ := hv_u_9
        refine lv_iload hx hb dX3_readNamed_23 (lv_at hl 0 rfl) ?_
        refine lv_aload_n hx hb dX3_readNamed_25 rfl (lv_at hl 2 rfl) ?_
        refine lv_iconst (v := 1) hx hb dX3_readNamed_26 (by decide) ?_
        refine lv_bipush (v := 60) hx hb dX3_readNamed_27 (by decide) ?_
        refine tk_i (va_runV (As := [.int 1, .int 60]) (rest := [.int v_1, .ref vu_9]) ⟨hx, hb, hml, hown, hts⟩ (c_X7_takeNumber__5 l D cy z H.size Ps ws hw.1 p1 1 60 sg_3 h_p1 (rl_1.to (by decide)) (rl_60.to (by decide)) o_p1) (cwV 2 hts (gV tw_477 tw_478 tw_479 tw_2 tw_480) rfl rfl rfl (by decide +kernel) ⟨Nat.le_of_ble_eq_true rfl, Nat.le_of_ble_eq_true rfl⟩) (tg_preV hw hK hSD hA (ci := 7) (q := (RX7, TX7, 12)) rfl h_p1 rfl) rfl rfl hl.1 rfl (lv_room (Nat.le_of_ble_eq_true rfl)) dX3_readNamed_29 ⟨Nat.le_of_ble_eq_true rfl, Nat.le_of_ble_eq_true rfl⟩) hw hA ⟨by decide, by decide⟩ (fun v_10 ws H locs hp_v_10 hw hF9 => ?_)
        have m_u_9 := FLD.over hF9 m_u_9 (by decide)
        obtain ⟨hfn, hp_v_10⟩ := hp_v_10
        have o_p0 := OV.over (V := vw_POST) hF9 o_p0 (by decide)
        have o_p2 := OV.over (V := vw_WORLD) hF9 o_p2 (by decide)
        obtain ⟨sg_11, q_sg_11⟩ : ∃ q9 : OS, (f_X7_takeNumber__5 (1 : Int32) (60 : Int32) sg_3).1 = q9 := ⟨_, rfl⟩
        have o_p1 : OV vw_TAPE Ps ws p1 sg_11 := by rw [← q_sg_11]; exact hfn.1
        have q_v_10 : (f_X7_takeNumber__5 (1 : Int32) (60 : Int32) sg_3).2 = v_10 := hfn.2.1
        have r_v_10 : RI v_10 (-2147483648) 2147483647 := hp_v_10.1
        have mo9 := m_u_9
        refine tg_iast hx hb hK hw h_vu_9 rfl 0 5 r_v_1 (by decide) r_v_10 (by exact fun _ _ _ => by decide) (fun _ _ _ _ _ => trivial) (by decide) dX3_readNamed_32 (fun ws H locs hw hF9 hU9 => ?_)
        have m_u_9 := FLD.over hF9 m_u_9 (by decide)
        have o_p1 := OV.over (V := vw_TAPE) hF9 o_p1 (by decide)
        have o_p2 := OV.over (V := vw_WORLD) hF9 o_p2 (by decide)
        obtain ⟨sg_12, q_sg_12⟩ : ∃ q9 : OS, sA sg_2 2 (Int32.toNatClampNeg v_1) v_10 = q9 := ⟨_, rfl⟩
        have o_p0 : OV vw_POST Ps ws p0 sg_12 := by rw [← q_sg_12]; exact OV.putA (V := vw_POST) (t := 5) hF9 hU9 o_p0 mo9 (by decide) (by decide)
        refine lv_goto (tgt := 97) hx hb dX3_readNamed_33 (by decide) ?_
        simp only [f_X3_readNamed__4, ↓reduceIte, q_sg_2, q_sg_3, q_v_1, eq_false c9_v_1, eq_false c_11, eq_true c_16, q_sg_11, q_v_10, q_sg_12] at hE
        subst hQ
        exact W.vret hx hb hr (fun t ht hW => ⟨⟨ws, rfl, ⟨⟨⟨(by rw [hR, ← hE]; exact o_p0), (by rw [hR, ← hE]; exact o_p1), (by rw [hR, ← hE]; exact o_p2), trivial⟩, trivial⟩, hw.1, hw.2.2.2.2.1⟩, by rw [ht]; exact hw.2.1, va_K.moved hW.alike hK, hw.2.2.1⟩, hw.2.2.2.1.F ht⟩) hw.2.2.2.1.2.2 dX3_readNamed_97
    · have r_v_1 : RI v_1 (-1) (-1) := rc_eq1 r_v_1 rl_m1 (ti_eq c_11) (by decide)
      simp only [f_X3_readNamed__4, ↓reduceIte, q_sg_2, q_sg_3, q_v_1, eq_false c9_v_1, eq_true c_11] at hE
      subst hQ
      exact W.vret hx hb hr (fun t ht hW => ⟨⟨ws, rfl, ⟨⟨⟨(by rw [hR, ← hE]; exact o_p0), (by rw [hR, ← hE]; exact o_p1), (by rw [hR, ← hE]; exact o_p2), trivial⟩, trivial⟩, hw.1, hw.2.2.2.2.1⟩, by rw [ht]; exact hw.2.1, va_K.moved hW.alike hK, hw.2.2.1⟩, hw.2.2.2.1.F ht⟩) hw.2.2.2.1.2.2 dX3_readNamed_14
abbrev wr_X7_passOnly__3 : List (Nat × Nat) := [(7, 5), (7, 6), (7, 7), (7, 8), (7, 9), (7, 10), (7, 11)]
abbrev wa_X7_passOnly__3 : List Nat := []
set_option maxHeartbeats 4000000 in
set_option maxRecDepth 100000 in
theorem c_X7_passOnly__3 (l : Launch) (D : va_G) (cy : Nat → ClassId) (z : Nat → Nat) (sz : Nat) (Ps : PSI) (w0 : va_W) (hT : HT cy GG Ps w0) (p0 : Nat) (p1 : Int32) (s0 : OS) (h_p0 : (p0, 26) ∈ Ps) (r_p1 : RI p1 (-2147483648) 2147483647) (o_p0 : OV vw_TAPE Ps w0 p0 s0) : Met l yX7_passOnly (Cond.code yX7_passOnly cX7_passOnly 2 none :: gT) ({ frames := 3, cells := 0, slots := 0, locals := 600 } : Room) (va_Pc [.ref p0, .int p1] (PRE D cy z w0 sz)) (va_Qv (fun (u : va_W) => ((OV vw_TAPE Ps u p0 ((f_X7_passOnly__3 p1 s0)) ∧ True) ∧ (True)) ∧ HT cy GG Ps u ∧ FR wr_X7_passOnly__3 wa_X7_passOnly__3 Ps w0 u) (BB D cy (va_A w0 sz) (fun (u : va_W) => u)) (va_A w0 sz)) 0 0 (va_A w0 sz) := by
  refine Met.ofW (cc := cX7_passOnly) (maxL := 2) (ret := none) (by decide) rfl ?_
  intro p e s m args below meth c s₁ B hml hv
  obtain ⟨rfl, hsz, hP, hK, hD0, hSD⟩ := hv
  have hx := B.exec
  have hb := B.bytes
  have hr := B.returns
  have hlocks := B.notSynchronized
  have hts : ∀ w ∈ gT, w.before _ s = true := fun w h => atoms_spec (ws := Cond.code yX7_passOnly cX7_passOnly 2 none :: gT) B.pre w (List.mem_cons_of_mem _ h)
  have hown : s.vm.findClass RX7 = some m.cls := findClass_of_methodNamed B.named
  subst hsz
  have hD := hD0.self (sz := s.heap.size)
  generalize hAe : va_A w0 s.heap.size = A at hD hSD ⊢
  have hA : ∀ q : Nat, s.heap.size ≤ q → A q := fun q h => by rw [← hAe]; exact Or.inr h
  have hl := lv_entry ([.ref p0, .int p1]) (n := 2) (Nat.le_of_ble_eq_true rfl)
  rw [lg_entry_eq]
  generalize (lg_sl ([.ref p0, .int p1]) ++ List.replicate (2 - (lg_sl ([.ref p0, .int p1])).length) Slot.unset).toArray = ls at hl ⊢
  have hl : lv_has ls 2 [(0, .ref p0), (1, .int p1)] := hl
  refine nameQ (fun Q hQ => ?_)
  have hw : WD D cy GG A s wr_X7_passOnly__3 wa_X7_passOnly__3 Ps w0 Ps w0 s.heap [] := ⟨hT, hP, hD, va_S.rf, FR.rf, hT.1, [], (List.append_nil _).symm⟩
  obtain ⟨R9, hR⟩ : ∃ q9 : OS, f_X7_passOnly__3 p1 s0 = q9 := ⟨_, rfl⟩
  have hE := hR
  have B13 : ∀ (s0 : OS) (ws : va_W) (H : Heap) (locs : List Loc) (ls : Array Slot), RI p1 (-2147483648) 2147483647 → OV vw_TAPE Ps ws p0 s0 → f_X7_passOnly__3_13 p1 s0 = R9 → WD D cy GG A s wr_X7_passOnly__3 wa_X7_passOnly__3 Ps w0 Ps ws H locs → lv_has ls 2 [(0, .ref p0), (1, .int p1)] → W p l e (headSpec (Cond.code yX7_passOnly cX7_passOnly 2 none :: gT) ({ frames := 3, cells := 0, slots := 0, locals := 600 } : Room)).room s m ([.ref p0, .int p1] : List Value).toArray below meth c H locs 0 0 Q (F0 m 13 ls []) := by
    intro s0 ws H locs ls r_p1 o_p0 hE hw hl
    refine lv_aload_n hx hb dX7_passOnly_13 rfl (lv_at hl 0 rfl) ?_
    refine tk_v (va_runV (As := []) (rest := []) ⟨hx, hb, hml, hown, hts⟩ (c_X7_pass__6 l D cy z H.size Ps ws hw.1 p0 s0 h_p0 o_p0) (cwV 0 hts (gV tw_424 tw_425 tw_426 tw_2 tw_427) rfl rfl rfl (by decide +kernel) ⟨Nat.le_of_ble_eq_true rfl, Nat.le_of_ble_eq_true rfl⟩) (tg_preV hw hK hSD hA (ci := 7) (q := (RX7, TX7, 12)) rfl h_p0 rfl) rfl rfl hl.1 rfl (lv_room (Nat.le_of_ble_eq_true rfl)) dX7_passOnly_14 ⟨Nat.le_of_ble_eq_true rfl, Nat.le_of_ble_eq_true rfl⟩) hw hA ⟨by decide, by decide⟩ (fun ws H locs hp_v_1 hw hF9 => ?_)
    obtain ⟨hfn, hp_v_1⟩ := hp_v_1
    obtain ⟨sg_2, q_sg_2⟩ : ∃ q9 : OS, (f_X7_pass__6 s0) = q9 := ⟨_, rfl⟩
    have o_p0 : OV vw_TAPE Ps ws p0 sg_2 := by rw [← q_sg_2]; exact hfn.1
    simp only [f_X7_passOnly__3_13, ↓reduceIte, q_sg_2] at hE
    subst hQ
    exact W.vret hx hb hr (fun t ht hW => ⟨⟨ws, rfl, ⟨⟨⟨(by rw [hR, ← hE]; exact o_p0), trivial⟩, trivial⟩, hw.1, hw.2.2.2.2.1⟩, by rw [ht]; exact hw.2.1, va_K.moved hW.alike hK, hw.2.2.1⟩, hw.2.2.2.1.F ht⟩) hw.2.2.2.1.2.2 dX7_passOnly_17
  refine lv_aload_n hx hb dX7_passOnly_0 rfl (lv_at hl 0 rfl) ?_
  refine tg_get (ci := 7) (ts := ty_TAPE) (C := RX7) (T := TX7) (N := 12) hx hb hts inX7 hown hK hw h_p0 rfl rfl 7 (by decide) (hts _ tw_98) (fun _ h9 => h9) (ft := vI (-2147483648) 2147483647) rfl dX7_passOnly_1 (fun u_3 hv_u_3 m_u_3 => ?_)
  obtain ⟨vu_3, rfl, r_vu_3⟩ := hv_u_3
  have q_vu_3 : s0.1 7 = vu_3 := OV.eqI (V := vw_TAPE) hw.2.2.1 o_p0 m_u_3 (by decide)
  refine lv_iload_n hx hb dX7_passOnly_4 rfl (lv_at hl 1 rfl) ?_
  refine lv_icmp_eq (tgt := 13) hx hb dX7_passOnly_5 (by decide) (fun c_5 => ?_) (fun c_5 => ?_)
  · simp only [f_X7_passOnly__3, ↓reduceIte, q_vu_3, eq_true c_5] at hE
    exact B13 s0 w0 _ _ ls r_p1 o_p0 hE hw hl
  · refine lv_aload_n hx hb dX7_passOnly_8 rfl (lv_at hl 0 rfl) ?_
    refine lv_iconst (v := 1) hx hb dX7_passOnly_9 (by decide) ?_
    refine tk_v (va_runV (As := [.int 1]) (rest := []) ⟨hx, hb, hml, hown, hts⟩ (c_X7_refuse__4 l D cy z s.heap.size Ps w0 hw.1 p0 1 s0 h_p0 (rl_1.to (by decide)) o_p0) (cwV 1 hts (gV tw_442 tw_443 tw_444 tw_2 tw_445) rfl rfl rfl (by decide +kernel) ⟨Nat.le_of_ble_eq_true rfl, Nat.le_of_ble_eq_true rfl⟩) (tg_preV hw hK hSD hA (ci := 7) (q := (RX7, TX7, 12)) rfl h_p0 rfl) rfl rfl hl.1 rfl (lv_room (Nat.le_of_ble_eq_true rfl)) dX7_passOnly_10 ⟨Nat.le_of_ble_eq_true rfl, Nat.le_of_ble_eq_true rfl⟩) hw hA ⟨by decide, by decide⟩ (fun ws H locs hp_v_4 hw hF9 => ?_)
    have m_u_3 := FLD.over hF9 m_u_3 (by decide)
    obtain ⟨hfn, hp_v_4⟩ := hp_v_4
    obtain ⟨sg_5, q_sg_5⟩ : ∃ q9 : OS, (f_X7_refuse__4 (1 : Int32) s0) = q9 := ⟨_, rfl⟩
    have o_p0 : OV vw_TAPE Ps ws p0 sg_5 := by rw [← q_sg_5]; exact hfn.1
    obtain ⟨v_6, m_v_6, r_v_6⟩ := (hp_v_4.1)
    simp only [f_X7_passOnly__3, ↓reduceIte, q_vu_3, eq_false c_5, q_sg_5] at hE
    exact B13 sg_5 ws _ _ ls r_p1 o_p0 hE hw hl
abbrev wr_X3_beginsLine__14 : List (Nat × Nat) := [(7, 5), (7, 6), (7, 7), (7, 8), (7, 9), (7, 10), (7, 11)]
abbrev wa_X3_beginsLine__14 : List Nat := []
set_option maxHeartbeats 4000000 in
set_option maxRecDepth 100000 in
theorem c_X3_beginsLine__14 (l : Launch) (D : va_G) (cy : Nat → ClassId) (z : Nat → Nat) (sz : Nat) (Ps : PSI) (w0 : va_W) (hT : HT cy GG Ps w0) (p0 : Nat) (p1 : Nat) (p2 : Int32) (f1_10 : Int32) (s0 : OS) (s1 : OS) (h_p0 : (p0, 25) ∈ Ps) (h_p1 : (p1, 26) ∈ Ps) (r_p2 : RI p2 129 129) (r_f1_10 : RI f1_10 0 0) (m_f1_10 : FLD w0 p1 7 10 (.int f1_10)) (o_p0 : OV vw_POST Ps w0 p0 s0) (o_p1 : OV vw_TAPE Ps w0 p1 s1) : Met l yX3_beginsLine (Cond.code yX3_beginsLine cX3_beginsLine 3 (some .boolean) :: gT) ({ frames := 3, cells := 0, slots := 0, locals := 600 } : Room) (va_Pc [.ref p0, .ref p1, .int p2] (PRE D cy z w0 sz)) (va_Qi (fun (r : Int32) (u : va_W) => ((OV vw_POST Ps u p0 ((f_X3_beginsLine__14 p2 s0 s1).1) ∧ OV vw_TAPE Ps u p1 ((f_X3_beginsLine__14 p2 s0 s1).2.1) ∧ (f_X3_beginsLine__14 p2 s0 s1).2.2 = r ∧ True) ∧ (RI r 0 1 ∧ (r = 0 → (∃ v9 : Int32, FLD u p1 7 10 (.int v9) ∧ RI v9 1 4) ∧ True) ∧ (¬ r = 0 → (∃ v9 : Int32, FLD u p1 7 10 (.int v9) ∧ RI v9 0 0) ∧ AXC 3 1 4 (fun f => (f 1).toInt < 4) Ps u p0 ∧ True))) ∧ HT cy GG Ps u ∧ FR wr_X3_beginsLine__14 wa_X3_beginsLine__14 Ps w0 u) (BB D cy (va_A w0 sz) (fun (u : va_W) => u)) (va_A w0 sz)) 0 0 (va_A w0 sz) := by
  refine Met.ofW (cc := cX3_beginsLine) (maxL := 3) (ret := (some .boolean)) (by decide) rfl ?_
  intro p e s m args below meth c s₁ B hml hv
  obtain ⟨rfl, hsz, hP, hK, hD0, hSD⟩ := hv
  have hx := B.exec
  have hb := B.bytes
  have hr := B.returns
  have hlocks := B.notSynchronized
  have hts : ∀ w ∈ gT, w.before _ s = true := fun w h => atoms_spec (ws := Cond.code yX3_beginsLine cX3_beginsLine 3 (some .boolean) :: gT) B.pre w (List.mem_cons_of_mem _ h)
  have hown : s.vm.findClass RX3 = some m.cls := findClass_of_methodNamed B.named
  subst hsz
  have hD := hD0.self (sz := s.heap.size)
  generalize hAe : va_A w0 s.heap.size = A at hD hSD ⊢
  have hA : ∀ q : Nat, s.heap.size ≤ q → A q := fun q h => by rw [← hAe]; exact Or.inr h
  have hl := lv_entry ([.ref p0, .ref p1, .int p2]) (n := 3) (Nat.le_of_ble_eq_true rfl)
  rw [lg_entry_eq]
  generalize (lg_sl ([.ref p0, .ref p1, .int p2]) ++ List.replicate (3 - (lg_sl ([.ref p0, .ref p1, .int p2])).length) Slot.unset).toArray = ls at hl ⊢
  have hl : lv_has ls 3 [(0, .ref p0), (1, .ref p1), (2, .int p2)] := hl
  refine nameQ (fun Q hQ => ?_)
  have hw : WD D cy GG A s wr_X3_beginsLine__14 wa_X3_beginsLine__14 Ps w0 Ps w0 s.heap [] := ⟨hT, hP, hD, va_S.rf, FR.rf, hT.1, [], (List.append_nil _).symm⟩
  obtain ⟨R9, hR⟩ : ∃ q9 : OS × OS × Int32, f_X3_beginsLine__14 p2 s0 s1 = q9 := ⟨_, rfl⟩
  have hE := hR
  refine lv_iload_n hx hb dX3_beginsLine_0 rfl (lv_at hl 2 rfl) ?_
  refine lv_sipush (v := 128) hx hb dX3_beginsLine_1 (by decide) ?_
  refine lv_icmp_lt (tgt := 14) hx hb dX3_beginsLine_4 (by decide) (fun c_4 => ?_) (fun c_4 => ?_)
  · have r_p2 : RI p2 129 127 := rc_lt1 r_p2 rl_128 (ti_lt c_4) (by decide)
    exact (r_p2.no (by decide)).elim
  · refine lv_iload_n hx hb dX3_beginsLine_7 rfl (lv_at hl 2 rfl) ?_
    refine lv_sipush (v := 136) hx hb dX3_beginsLine_8 (by decide) ?_
    refine lv_icmp_le (tgt := 22) hx hb dX3_beginsLine_11 (by decide) (fun c_11 => ?_) (fun c_11 => ?_)
    · refine lv_iload_n hx hb dX3_beginsLine_22 rfl (lv_at hl 2 rfl) ?_
      refine lv_sipush (v := 131) hx hb dX3_beginsLine_23 (by decide) ?_
      refine lv_icmp_gt (tgt := 59) hx hb dX3_beginsLine_26 (by decide) (fun c_26 => ?_) (fun c_26 => ?_)
      · have r_p2 : RI p2 132 129 := rc_lt2 rl_131 r_p2 (ti_lt c_26) (by decide)
        exact (r_p2.no (by decide)).elim
      · refine lv_aload_n hx hb dX3_beginsLine_29 rfl (lv_at hl 0 rfl) ?_
        refine tg_get (ci := 3) (ts := ty_POST) (C := RX3) (T := TX3) (N := 9) hx hb hts inX3 hown hK hw h_p0 rfl rfl 1 (by decide) (hts _ tw_201) (fun _ h9 => h9) (ft := vR 4) rfl dX3_beginsLine_30 (fun u_1 hv_u_1 m_u_1 => ?_)
        obtain ⟨vu_1, rfl, h_vu_1⟩ := hv_u_1
        refine lv_iload_n hx hb dX3_beginsLine_33 rfl (lv_at hl 2 rfl) ?_
        refine lv_sipush (v := 128) hx hb dX3_beginsLine_34 (by decide) ?_
        refine lv_isub hx hb dX3_beginsLine_37 (lv_topi (fun v_2 e_v_2 => ?_))
        obtain ⟨t_v_2, r_v_2⟩ := tq_sub (lo := 1) (hi := 1) r_p2 rl_128 (by decide +kernel) e_v_2
        have t_v_2 : v_2.toInt = p2.toInt - 128 := t_v_2
        have q_v_2 : p2 - (128 : Int32) = v_2 := e_v_2.symm
        refine tg_iald (lo := 0) (hi := 4) hx hb hK hw h_vu_1 rfl 1 1 r_v_2 (by decide) (by decide +kernel) dX3_beginsLine_38 (fun v_3 r_v_3 m_v_3 o_v_3 => ?_)
        have q_v_3 : s0.2.2.1 1 (Int32.toNatClampNeg v_2) = v_3 := OV.eqA (V := vw_POST) (t := 4) hw.2.2.1 o_p0 m_u_1 m_v_3 (by decide)
        refine va_gets (v := .ref (z 0)) hx hb hSD.2.2.2.1 hw.2.2.2.1 hown (hts _ tw_198) (fun _ h9 => h9) dX3_beginsLine_39 ?_
        refine lv_iload_n hx hb dX3_beginsLine_42 rfl (lv_at hl 2 rfl) ?_
        refine lv_sipush (v := 128) hx hb dX3_beginsLine_43 (by decide) ?_
        refine lv_isub hx hb dX3_beginsLine_46 (lv_topi (fun v_4 e_v_4 => ?_))
        obtain ⟨t_v_4, r_v_4⟩ := tq_sub (lo := 1) (hi := 1) r_p2 rl_128 (by decide +kernel) e_v_4
        have t_v_4 : v_4.toInt = p2.toInt - 128 := t_v_4
        have z9 : v_2 = v_4 := q_v_2.symm.trans (e_v_4.symm)
        subst z9
        refine tz_mk 1 4 hx hb hSD.2.2.2.2.1 hw.2.2.2.1 r_v_2 (by decide) rfl dX3_beginsLine_47 (fun v_5 e_v_5 => ?_)
        have r_v_5 : RI v_5 4 4 := by rw [e_v_5]; exact rl_4
        have q_v_5 : (4 : Int32) = v_5 := e_v_5.symm
        refine lv_icmp_lt (tgt := 59) hx hb dX3_beginsLine_48 (by decide) (fun c_48 => ?_) (fun c_48 => ?_)
        · have d_48 := c_48
          rw [← q_v_5] at d_48
          have r_v_3 : RI v_3 0 3 := rc_lt1 r_v_3 r_v_5 (ti_lt c_48) (by decide)
          have x_MLT_p0_1 : AXC 3 1 4 (fun f => (f 1).toInt < 4) Ps w0 p0 := AXC.mk hw h_vu_1 rfl m_u_1 (fun f9 g9 => by have e9 := g9 _ _ m_v_3; have j9 : Int32.toNatClampNeg v_2 = 1 := (by have k1 := r_v_2.cl (by decide); have k2 := r_v_2.eq; omega); rw [j9] at e9; show _ < _; rw [e9]; have k3 := r_v_3.2; omega)
          refine lv_iload_n hx hb dX3_beginsLine_59 rfl (lv_at hl 2 rfl) ?_
          refine lv_sipush (v := 135) hx hb dX3_beginsLine_60 (by decide) ?_
          refine lv_icmp_ne (tgt := 73) hx hb dX3_beginsLine_63 (by decide) (fun c_63 => ?_) (fun c_63 => ?_)
          · refine lv_iload_n hx hb dX3_beginsLine_73 rfl (lv_at hl 2 rfl) ?_
            refine lv_sipush (v := 136) hx hb dX3_beginsLine_74 (by decide) ?_
            refine lv_icmp_ne (tgt := 92) hx hb dX3_beginsLine_77 (by decide) (fun c_77 => ?_) (fun c_77 => ?_)
            · refine lv_aload_n hx hb dX3_beginsLine_92 rfl (lv_at hl 1 rfl) ?_
              have hw8 := hw
              refine tk_v (va_runV (As := []) (rest := []) ⟨hx, hb, hml, hown, hts⟩ (c_X7_pass__5 l D cy z s.heap.size Ps w0 hw.1 p1 f1_10 s1 h_p1 r_f1_10 m_f1_10 o_p1) (cwV 0 hts (gV tw_451 tw_425 tw_426 tw_2 tw_427) rfl rfl rfl (by decide +kernel) ⟨Nat.le_of_ble_eq_true rfl, Nat.le_of_ble_eq_true rfl⟩) (tg_preV hw hK hSD hA (ci := 7) (q := (RX7, TX7, 12)) rfl h_p1 rfl) rfl rfl hl.1 rfl (lv_room (Nat.le_of_ble_eq_true rfl)) dX3_beginsLine_93 ⟨Nat.le_of_ble_eq_true rfl, Nat.le_of_ble_eq_true rfl⟩) hw hA ⟨by decide, by decide⟩ (fun ws H locs hp_v_6 hw hF9 => ?_)
              have m_v_3 := AEL.over hw8 hF9 h_vu_1 m_v_3 (by decide)
              have m_f1_10 := FLD.over hF9 m_f1_10 (by decide)
              have m_u_1 := FLD.over hF9 m_u_1 (by decide)
              have x_MLT_p0_1 := AXC.over hF9 x_MLT_p0_1 (by decide)
              obtain ⟨hfn, hp_v_6⟩ := hp_v_6
              have o_p0 := OV.over (V := vw_POST) hF9 o_p0 (by decide)
              obtain ⟨sg_7, q_sg_7⟩ : ∃ q9 : OS, (f_X7_pass__5 s1) = q9 := ⟨_, rfl⟩
              have o_p1 : OV vw_TAPE Ps ws p1 sg_7 := by rw [← q_sg_7]; exact hfn.1
              obtain ⟨v_8, m_v_8, r_v_8⟩ := (hp_v_6.1)
              refine lv_aload_n hx hb dX3_beginsLine_96 rfl (lv_at hl 1 rfl) ?_
              refine tg_memN (ci := 7) (C := RX7) (T := TX7) (N := 12) hx hb hts inX7 hown hK hw 10 m_v_8 rfl (by decide) (hSD.nest tn_105) (fun _ h9 => h9) dX3_beginsLine_97 ?_
              have q_v_8 : sg_7.1 10 = v_8 := OV.eqI (V := vw_TAPE) hw.2.2.1 o_p1 m_v_8 (by decide)
              refine lv_if_ne (tgt := 107) hx hb dX3_beginsLine_100 (by decide) (fun c_100 => ?_) (fun c_100 => ?_)
              · exact absurd (r_v_8.eq.trans rl_0.eq.symm) ((ti_ne c_100))
              · refine lv_iconst (v := 1) hx hb dX3_beginsLine_103 (by decide) ?_
                refine lv_goto (tgt := 108) hx hb dX3_beginsLine_104 (by decide) ?_
                simp only [f_X3_beginsLine__14, ↓reduceIte, eq_false c_4, eq_true c_11, eq_false c_26, q_v_2, q_v_3, eq_true d_48, eq_false c_63, eq_false c_77, q_sg_7, q_v_8, eq_true c_100] at hE
                subst hQ
                exact W.zret (v := 1) hx hb hr (rfl) (fun t ht hW => ⟨⟨1, ws, rfl, ⟨⟨⟨(by rw [hR, ← hE]; exact o_p0), (by rw [hR, ← hE]; exact o_p1), (by rw [hR, ← hE]), trivial⟩, rl_1.to (by decide), (fun h0 => absurd h0 (by decide)), (fun h0 => ⟨⟨_, m_v_8, r_v_8⟩, x_MLT_p0_1, trivial⟩)⟩, hw.1, hw.2.2.2.2.1⟩, by rw [ht]; exact hw.2.1, va_K.moved hW.alike hK, hw.2.2.1⟩, hw.2.2.2.1.F ht⟩) hw.2.2.2.1.2.2 dX3_beginsLine_108
            · have r_p2 : RI p2 136 129 := rc_eq1 r_p2 rl_136 (ti_eq c_77) (by decide)
              exact (r_p2.no (by decide)).elim
          · have r_p2 : RI p2 135 129 := rc_eq1 r_p2 rl_135 (ti_eq c_63) (by decide)
            exact (r_p2.no (by decide)).elim
        · have d_48 := c_48
          rw [← q_v_5] at d_48
          have r_v_3 : RI v_3 4 4 := rc_le2 r_v_5 r_v_3 (ti_nlt c_48) (by decide)
          refine lv_aload_n hx hb dX3_beginsLine_51 rfl (lv_at hl 1 rfl) ?_
          refine lv_iconst (v := 4) hx hb dX3_beginsLine_52 (by decide) ?_
          have hw8 := hw
          refine tk_v (va_runV (As := [.int 4]) (rest := []) ⟨hx, hb, hml, hown, hts⟩ (c_X7_refuse__5 l D cy z s.heap.size Ps w0 hw.1 p1 4 f1_10 s1 h_p1 (rl_4.to (by decide)) r_f1_10 m_f1_10 o_p1) (cwV 1 hts (gV tw_450 tw_443 tw_444 tw_2 tw_445) rfl rfl rfl (by decide +kernel) ⟨Nat.le_of_ble_eq_true rfl, Nat.le_of_ble_eq_true rfl⟩) (tg_preV hw hK hSD hA (ci := 7) (q := (RX7, TX7, 12)) rfl h_p1 rfl) rfl rfl hl.1 rfl (lv_room (Nat.le_of_ble_eq_true rfl)) dX3_beginsLine_53 ⟨Nat.le_of_ble_eq_true rfl, Nat.le_of_ble_eq_true rfl⟩) hw hA ⟨by decide, by decide⟩ (fun ws H locs hp_v_9 hw hF9 => ?_)
          have m_v_3 := AEL.over hw8 hF9 h_vu_1 m_v_3 (by decide)
          have m_u_1 := FLD.over hF9 m_u_1 (by decide)
          obtain ⟨hfn, hp_v_9⟩ := hp_v_9
          have o_p0 := OV.over (V := vw_POST) hF9 o_p0 (by decide)
          obtain ⟨sg_10, q_sg_10⟩ : ∃ q9 : OS, (f_X7_refuse__5 (4 : Int32) s1) = q9 := ⟨_, rfl⟩
          have o_p1 : OV vw_TAPE Ps ws p1 sg_10 := by rw [← q_sg_10]; exact hfn.1
          obtain ⟨v_11, m_v_11, r_v_11⟩ := (hp_v_9.1)
          refine lv_goto (tgt := 92) hx hb dX3_beginsLine_56 (by decide) ?_
          refine lv_aload_n hx hb dX3_beginsLine_92 rfl (lv_at hl 1 rfl) ?_
          refine tk_vr (va_runV (As := []) (rest := []) ⟨hx, hb, hml, hown, hts⟩ (c_X7_pass__4 l D cy z H.size Ps ws hw.1 p1 v_11 sg_10 h_p1 r_v_11 m_v_11 o_p1) (cwV 0 hts (gV tw_451 tw_425 tw_426 tw_2 tw_427) rfl rfl rfl (by decide +kernel) ⟨Nat.le_of_ble_eq_true rfl, Nat.le_of_ble_eq_true rfl⟩) (tg_preV hw hK hSD hA (ci := 7) (q := (RX7, TX7, 12)) rfl h_p1 rfl) rfl rfl hl.1 rfl (lv_room (Nat.le_of_ble_eq_true rfl)) dX3_beginsLine_93 ⟨Nat.le_of_ble_eq_true rfl, Nat.le_of_ble_eq_true rfl⟩) hw hA (fun  H locs hp_v_12 hw => ?_)
          obtain ⟨hfn, hp_v_12⟩ := hp_v_12
          refine lv_aload_n hx hb dX3_beginsLine_96 rfl (lv_at hl 1 rfl) ?_
          refine tg_memN (ci := 7) (C := RX7) (T := TX7) (N := 12) hx hb hts inX7 hown hK hw 10 m_v_11 rfl (by decide) (hSD.nest tn_105) (fun _ h9 => h9) dX3_beginsLine_97 ?_
          have q_v_11 : sg_10.1 10 = v_11 := OV.eqI (V := vw_TAPE) hw.2.2.1 o_p1 m_v_11 (by decide)
          refine lv_if_ne (tgt := 107) hx hb dX3_beginsLine_100 (by decide) (fun c_100 => ?_) (fun c_100 => ?_)
          · refine lv_iconst (v := 0) hx hb dX3_beginsLine_107 (by decide) ?_
            simp only [f_X3_beginsLine__14, ↓reduceIte, eq_false c_4, eq_true c_11, eq_false c_26, q_v_2, q_v_3, eq_false d_48, q_sg_10, q_v_11, eq_false c_100] at hE
            subst hQ
            exact W.zret (v := 0) hx hb hr (rfl) (fun t ht hW => ⟨⟨0, ws, rfl, ⟨⟨⟨(by rw [hR, ← hE]; exact o_p0), (by rw [hR, ← hE]; exact o_p1), (by rw [hR, ← hE]), trivial⟩, rl_0.to (by decide), (fun h0 => ⟨⟨_, m_v_11, r_v_11⟩, trivial⟩), (fun h0 => absurd rfl h0)⟩, hw.1, hw.2.2.2.2.1⟩, by rw [ht]; exact hw.2.1, va_K.moved hW.alike hK, hw.2.2.1⟩, hw.2.2.2.1.F ht⟩) hw.2.2.2.1.2.2 dX3_beginsLine_108
          · have r_v_11 : RI v_11 1 0 := rc_eq1 r_v_11 rl_0 (ti_eq c_100) (by decide)
            exact (r_v_11.no (by decide)).elim
    · have r_p2 : RI p2 137 129 := rc_lt2 rl_136 r_p2 (ti_nle c_11) (by decide)
      exact (r_p2.no (by decide)).elim
abbrev wr_X3_tellName__5 : List (Nat × Nat) := [(7, 5), (7, 6), (7, 7), (7, 8), (7, 9), (7, 10), (7, 11)]
abbrev wa_X3_tellName__5 : List Nat := [1, 4]
set_option maxHeartbeats 4000000 in
set_option maxRecDepth 100000 in
theorem c_X3_tellName__5 (l : Launch) (D : va_G) (cy : Nat → ClassId) (z : Nat → Nat) (sz : Nat) (Ps : PSI) (w0 : va_W) (hT : HT cy GG Ps w0) (p0 : Nat) (p1 : Nat) (p2 : Int32) (s0 : OS) (s1 : OS) (h_p0 : (p0, 25) ∈ Ps) (h_p1 : (p1, 26) ∈ Ps) (r_p2 : RI p2 1 1) (x_MLT_p0_1 : AXC 3 1 4 (fun f => (f 1).toInt < 4) Ps w0 p0) (o_p0 : OV vw_POST Ps w0 p0 s0) (o_p1 : OV vw_TAPE Ps w0 p1 s1) : Met l yX3_tellName (Cond.code yX3_tellName cX3_tellName 4 (some .int) :: gT) ({ frames := 3, cells := 0, slots := 0, locals := 600 } : Room) (va_Pc [.ref p0, .ref p1, .int p2] (PRE D cy z w0 sz)) (va_Qi (fun (r : Int32) (u : va_W) => ((OV vw_POST Ps u p0 ((f_X3_tellName__4 p2 s0 s1).1) ∧ OV vw_TAPE Ps u p1 ((f_X3_tellName__4 p2 s0 s1).2.1) ∧ (f_X3_tellName__4 p2 s0 s1).2.2 = r ∧ True) ∧ (RI r (-1) 3 ∧ (r = 0 → (∃ v9 : Int32, FLD u p1 7 10 (.int v9) ∧ RI v9 0 0) ∧ True) ∧ (¬ r = 0 → True))) ∧ HT cy GG Ps u ∧ FR wr_X3_tellName__5 wa_X3_tellName__5 Ps w0 u) (BB D cy (va_A w0 sz) (fun (u : va_W) => u)) (va_A w0 sz)) 0 0 (va_A w0 sz) := by
  refine Met.ofW (cc := cX3_tellName) (maxL := 4) (ret := (some .int)) (by decide) rfl ?_
  intro p e s m args below meth c s₁ B hml hv
  obtain ⟨rfl, hsz, hP, hK, hD0, hSD⟩ := hv
  have hx := B.exec
  have hb := B.bytes
  have hr := B.returns
  have hlocks := B.notSynchronized
  have hts : ∀ w ∈ gT, w.before _ s = true := fun w h => atoms_spec (ws := Cond.code yX3_tellName cX3_tellName 4 (some .int) :: gT) B.pre w (List.mem_cons_of_mem _ h)
  have hown : s.vm.findClass RX3 = some m.cls := findClass_of_methodNamed B.named
  subst hsz
  have hD := hD0.self (sz := s.heap.size)
  generalize hAe : va_A w0 s.heap.size = A at hD hSD ⊢
  have hA : ∀ q : Nat, s.heap.size ≤ q → A q := fun q h => by rw [← hAe]; exact Or.inr h
  have hl := lv_entry ([.ref p0, .ref p1, .int p2]) (n := 4) (Nat.le_of_ble_eq_true rfl)
  rw [lg_entry_eq]
  generalize (lg_sl ([.ref p0, .ref p1, .int p2]) ++ List.replicate (4 - (lg_sl ([.ref p0, .ref p1, .int p2])).length) Slot.unset).toArray = ls at hl ⊢
  have hl : lv_has ls 4 [(0, .ref p0), (1, .ref p1), (2, .int p2)] := hl
  refine nameQ (fun Q hQ => ?_)
  have hw : WD D cy GG A s wr_X3_tellName__5 wa_X3_tellName__5 Ps w0 Ps w0 s.heap [] := ⟨hT, hP, hD, va_S.rf, FR.rf, hT.1, [], (List.append_nil _).symm⟩
  obtain ⟨R9, hR⟩ : ∃ q9 : OS × OS × Int32, f_X3_tellName__4 p2 s0 s1 = q9 := ⟨_, rfl⟩
  have hE := hR
  have B32 : ∀ (s0 : OS) (s1 : OS) (ws : va_W) (H : Heap) (locs : List Loc) (ls : Array Slot), RI p2 1 1 → AXC 3 1 4 (fun f => (f 1).toInt < 4) Ps ws p0 → OV vw_POST Ps ws p0 s0 → OV vw_TAPE Ps ws p1 s1 → f_X3_tellName__4_32 p2 s0 s1 = R9 → WD D cy GG A s wr_X3_tellName__5 wa_X3_tellName__5 Ps w0 Ps ws H locs → lv_has ls 4 [(0, .ref p0), (1, .ref p1), (2, .int p2)] → W p l e (headSpec (Cond.code yX3_tellName cX3_tellName 4 (some .int) :: gT) ({ frames := 3, cells := 0, slots := 0, locals := 600 } : Room)).room s m ([.ref p0, .ref p1, .int p2] : List Value).toArray below meth c H locs 0 0 Q (F0 m 32 ls []) := by
    intro s0 s1 ws H locs ls r_p2 x_MLT_p0_1 o_p0 o_p1 hE hw hl
    refine lv_aload_n hx hb dX3_tellName_32 rfl (lv_at hl 1 rfl) ?_
    refine tg_getN (ci := 7) (ts := ty_TAPE) (C := RX7) (T := TX7) (N := 12) hx hb hts inX7 hown hK hw h_p1 rfl rfl 10 (by decide) (hSD.nest tn_105) (fun _ h9 => h9) (ft := vI 0 4) rfl dX3_tellName_33 (fun u_1 hv_u_1 m_u_1 => ?_)
    obtain ⟨vu_1, rfl, r_vu_1⟩ := hv_u_1
    have q_vu_1 : s1.1 10 = vu_1 := OV.eqI (V := vw_TAPE) hw.2.2.1 o_p1 m_u_1 (by decide)
    refine lv_if_eq (tgt := 41) hx hb dX3_tellName_36 (by decide) (fun c_36 => ?_) (fun c_36 => ?_)
    · have r_vu_1 : RI vu_1 0 0 := rc_eq1 r_vu_1 rl_0 (ti_eq c_36) (by decide)
      refine lv_aload_n hx hb dX3_tellName_41 rfl (lv_at hl 0 rfl) ?_
      refine tg_get (ci := 3) (ts := ty_POST) (C := RX3) (T := TX3) (N := 9) hx hb hts inX3 hown hK hw h_p0 rfl rfl 1 (by decide) (hts _ tw_201) (fun _ h9 => h9) (ft := vR 4) rfl dX3_tellName_42 (fun u_2 hv_u_2 m_u_2 => ?_)
      obtain ⟨vu_2, rfl, h_vu_2⟩ := hv_u_2
      refine lv_iload_n hx hb dX3_tellName_45 rfl (lv_at hl 2 rfl) ?_
      refine tg_iald (lo := 0) (hi := 4) hx hb hK hw h_vu_2 rfl 1 1 r_p2 (by decide) (by decide +kernel) dX3_tellName_46 (fun v_3 r_v_3 m_v_3 o_v_3 => ?_)
      have q_v_3 : s0.2.2.1 1 (Int32.toNatClampNeg p2) = v_3 := OV.eqA (V := vw_POST) (t := 4) hw.2.2.1 o_p0 m_u_2 m_v_3 (by decide)
      have r_v_3 : RI v_3 0 3 := ⟨r_v_3.1, by obtain ⟨f9, q9, e9⟩ := AXC.use hw x_MLT_p0_1 m_u_2 m_v_3; have j9 : Int32.toNatClampNeg p2 = 1 := (by have k1 := r_p2.cl (by decide); have k2 := r_p2.eq; omega); rw [j9] at e9; have q8 : (f9 1).toInt < 4 := q9; rw [e9] at q8; omega⟩
      refine lv_istore_n (lv' := [(3, .int v_3), (0, .ref p0), (1, .ref p1), (2, .int p2)]) hx hb dX3_tellName_47 rfl hl (by decide) rfl (fun ls hl => ?_)
      refine lv_aload_n hx hb dX3_tellName_48 rfl (lv_at hl 1 rfl) ?_
      refine tg_get (ci := 3) (ts := ty_POST) (C := RX3) (T := TX3) (N := 9) hx hb hts inX3 hown hK hw h_p0 rfl rfl 0 (by decide) (hts _ tw_200) (fun _ h9 => h9) (ft := vR 1) rfl dX3_tellName_49 (fun u_4 hv_u_4 m_u_4 => ?_)
      obtain ⟨vu_4, rfl, h_vu_4⟩ := hv_u_4
      refine lv_iload_n hx hb dX3_tellName_52 rfl (lv_at hl 3 rfl) ?_
      refine lv_bipush (v := 8) hx hb dX3_tellName_53 (by decide) ?_
      refine lv_imul hx hb dX3_tellName_55 (lv_topi (fun v_5 e_v_5 => ?_))
      obtain ⟨t_v_5, r_v_5⟩ := tq_mul (lo := 8) (hi := 8) r_p2 rl_8 (by decide +kernel) e_v_5
      have t_v_5 : v_5.toInt = p2.toInt * 8 := t_v_5
      have q_v_5 : p2 * (8 : Int32) = v_5 := e_v_5.symm
      refine lv_iload_n hx hb dX3_tellName_56 rfl (lv_at hl 0 rfl) ?_
      refine lv_iadd hx hb dX3_tellName_57 (lv_topi (fun v_6 e_v_6 => ?_))
      obtain ⟨t_v_6, r_v_6⟩ := tq_add (lo := 8) (hi := 11) r_v_5 r_v_3 (by decide +kernel) e_v_6
      have q_v_6 : v_5 + v_3 = v_6 := e_v_6.symm
      refine lv_aload_n hx hb dX3_tellName_58 rfl (lv_at hl 2 rfl) ?_
      refine tg_getN (ci := 7) (ts := ty_TAPE) (C := RX7) (T := TX7) (N := 12) hx hb hts inX7 hown hK hw h_p1 rfl rfl 8 (by decide) (hSD.nest tn_99) (fun _ h9 => h9) (ft := vJ (-9223372036854775808) 9223372036854775807) rfl dX3_tellName_59 (fun u_7 hv_u_7 m_u_7 => ?_)
      obtain ⟨vu_7, rfl, r_vu_7⟩ := hv_u_7
      have q_vu_7 : s1.2.1 8 = vu_7 := OV.eqL (V := vw_TAPE) hw.2.2.1 o_p1 m_u_7 (by decide)
      have mo9 := m_u_4
      refine tg_lastE hx hb hK hw h_vu_4 rfl r_v_6 (by decide) r_vu_7 (by decide) (by decide) dX3_tellName_62 (fun ws H locs hw hF9 hU9 => ?_)
      have x_MLT_p0_1 := AXC.over hF9 x_MLT_p0_1 (by decide)
      have m_u_1 := FLD.over hF9 m_u_1 (by decide)
      have m_u_2 := FLD.over hF9 m_u_2 (by decide)
      have m_u_4 := FLD.over hF9 m_u_4 (by decide)
      have m_u_7 := FLD.over hF9 m_u_7 (by decide)
      have o_p1 := OV.over (V := vw_TAPE) hF9 o_p1 (by decide)
      obtain ⟨sg_8, q_sg_8⟩ : ∃ q9 : OS, sB s0 0 (Int32.toNatClampNeg v_6) vu_7 = q9 := ⟨_, rfl⟩
      have o_p0 : OV vw_POST Ps ws p0 sg_8 := by rw [← q_sg_8]; exact OV.putB (V := vw_POST) (t := 1) hF9 hU9 o_p0 mo9 (by decide) (by decide)
      refine lv_aload_n hx hb dX3_tellName_63 rfl (lv_at hl 1 rfl) ?_
      refine tg_mem (ci := 3) (C := RX3) (T := TX3) (N := 9) hx hb hts inX3 hown hK hw 1 m_u_2 rfl (by decide) (hts _ tw_201) (fun _ h9 => h9) dX3_tellName_64 ?_
      refine lv_iload_n hx hb dX3_tellName_67 rfl (lv_at hl 3 rfl) ?_
      refine lv_iload_n hx hb dX3_tellName_68 rfl (lv_at hl 0 rfl) ?_
      refine lv_iconst (v := 1) hx hb dX3_tellName_69 (by decide) ?_
      refine lv_iadd hx hb dX3_tellName_70 (lv_topi (fun v_9 e_v_9 => ?_))
      obtain ⟨t_v_9, r_v_9⟩ := tq_add (lo := 1) (hi := 4) r_v_3 rl_1 (by decide +kernel) e_v_9
      have t_v_9 : v_9.toInt = v_3.toInt + 1 := t_v_9
      have q_v_9 : v_3 + (1 : Int32) = v_9 := e_v_9.symm
      have mo9 := m_u_2
      refine tg_iast hx hb hK hw h_vu_2 rfl 1 1 r_p2 (by decide) r_v_9 (by decide +kernel) (fun _ _ _ _ _ => trivial) (by decide) dX3_tellName_71 (fun ws H locs hw hF9 hU9 => ?_)
      have m_u_1 := FLD.over hF9 m_u_1 (by decide)
      have m_u_2 := FLD.over hF9 m_u_2 (by decide)
      have m_u_4 := FLD.over hF9 m_u_4 (by decide)
      have m_u_7 := FLD.over hF9 m_u_7 (by decide)
      have o_p1 := OV.over (V := vw_TAPE) hF9 o_p1 (by decide)
      obtain ⟨sg_10, q_sg_10⟩ : ∃ q9 : OS, sA sg_8 1 (Int32.toNatClampNeg p2) v_9 = q9 := ⟨_, rfl⟩
      have o_p0 : OV vw_POST Ps ws p0 sg_10 := by rw [← q_sg_10]; exact OV.putA (V := vw_POST) (t := 4) hF9 hU9 o_p0 mo9 (by decide) (by decide)
      refine lv_aload_n hx hb dX3_tellName_72 rfl (lv_at hl 2 rfl) ?_
      refine tk_v (va_runV (As := []) (rest := []) ⟨hx, hb, hml, hown, hts⟩ (c_X7_pass__5 l D cy z H.size Ps ws hw.1 p1 vu_1 s1 h_p1 r_vu_1 m_u_1 o_p1) (cwV 0 hts (gV tw_451 tw_425 tw_426 tw_2 tw_427) rfl rfl rfl (by decide +kernel) ⟨Nat.le_of_ble_eq_true rfl, Nat.le_of_ble_eq_true rfl⟩) (tg_preV hw hK hSD hA (ci := 7) (q := (RX7, TX7, 12)) rfl h_p1 rfl) rfl rfl hl.1 rfl (lv_room (Nat.le_of_ble_eq_true rfl)) dX3_tellName_73 ⟨Nat.le_of_ble_eq_true rfl, Nat.le_of_ble_eq_true rfl⟩) hw hA ⟨by decide, by decide⟩ (fun ws H locs hp_v_11 hw hF9 => ?_)
      have m_u_1 := FLD.over hF9 m_u_1 (by decide)
      have m_u_2 := FLD.over hF9 m_u_2 (by decide)
      have m_u_4 := FLD.over hF9 m_u_4 (by decide)
      obtain ⟨hfn, hp_v_11⟩ := hp_v_11
      have o_p0 := OV.over (V := vw_POST) hF9 o_p0 (by decide)
      obtain ⟨sg_12, q_sg_12⟩ : ∃ q9 : OS, (f_X7_pass__5 s1) = q9 := ⟨_, rfl⟩
      have o_p1 : OV vw_TAPE Ps ws p1 sg_12 := by rw [← q_sg_12]; exact hfn.1
      obtain ⟨v_13, m_v_13, r_v_13⟩ := (hp_v_11.1)
      refine lv_iload_n hx hb dX3_tellName_76 rfl (lv_at hl 0 rfl) ?_
      simp only [f_X3_tellName__4_32, ↓reduceIte, q_vu_1, eq_true c_36, q_v_3, q_v_5, q_v_6, q_vu_7, q_sg_8, q_v_9, q_sg_10, q_sg_12] at hE
      subst hQ
      exact W.iret (v := v_3) hx hb hr (fun t ht hW => ⟨⟨v_3, ws, rfl, ⟨⟨⟨(by rw [hR, ← hE]; exact o_p0), (by rw [hR, ← hE]; exact o_p1), (by rw [hR, ← hE]), trivial⟩, r_v_3.to (by decide), (fun h0 => ⟨⟨_, m_v_13, r_v_13⟩, trivial⟩), (fun h0 => trivial)⟩, hw.1, hw.2.2.2.2.1⟩, by rw [ht]; exact hw.2.1, va_K.moved hW.alike hK, hw.2.2.1⟩, hw.2.2.2.1.F ht⟩) hw.2.2.2.1.2.2 dX3_tellName_77
    · have r_vu_1 : RI vu_1 1 4 := rc_neL r_vu_1 rl_0 (ti_ne c_36) (by decide)
      refine lv_iconst (v := (-1)) hx hb dX3_tellName_39 (by decide) ?_
      simp only [f_X3_tellName__4_32, ↓reduceIte, q_vu_1, eq_false c_36] at hE
      subst hQ
      exact W.iret (v := (-1)) hx hb hr (fun t ht hW => ⟨⟨(-1), ws, rfl, ⟨⟨⟨(by rw [hR, ← hE]; exact o_p0), (by rw [hR, ← hE]; exact o_p1), (by rw [hR, ← hE]), trivial⟩, rl_m1.to (by decide), (fun h0 => absurd h0 (by decide)), (fun h0 => trivial)⟩, hw.1, hw.2.2.2.2.1⟩, by rw [ht]; exact hw.2.1, va_K.moved hW.alike hK, hw.2.2.1⟩, hw.2.2.2.1.F ht⟩) hw.2.2.2.1.2.2 dX3_tellName_40
  refine lv_aload_n hx hb dX3_tellName_0 rfl (lv_at hl 1 rfl) ?_
  refine tg_getN (ci := 7) (ts := ty_TAPE) (C := RX7) (T := TX7) (N := 12) hx hb hts inX7 hown hK hw h_p1 rfl rfl 7 (by decide) (hSD.nest tn_97) (fun _ h9 => h9) (ft := vI (-2147483648) 2147483647) rfl dX3_tellName_1 (fun u_14 hv_u_14 m_u_14 => ?_)
  obtain ⟨vu_14, rfl, r_vu_14⟩ := hv_u_14
  have q_vu_14 : s1.1 7 = vu_14 := OV.eqI (V := vw_TAPE) hw.2.2.1 o_p1 m_u_14 (by decide)
  refine lv_iconst (v := 2) hx hb dX3_tellName_4 (by decide) ?_
  refine lv_icmp_eq (tgt := 16) hx hb dX3_tellName_5 (by decide) (fun c_5 => ?_) (fun c_5 => ?_)
  · have r_vu_14 : RI vu_14 2 2 := rc_eq1 r_vu_14 rl_2 (ti_eq c_5) (by decide)
    refine lv_aload_n hx hb dX3_tellName_16 rfl (lv_at hl 0 rfl) ?_
    refine lv_aload_n hx hb dX3_tellName_17 rfl (lv_at hl 1 rfl) ?_
    refine tg_getN (ci := 7) (ts := ty_TAPE) (C := RX7) (T := TX7) (N := 12) hx hb hts inX7 hown hK hw h_p1 rfl rfl 8 (by decide) (hSD.nest tn_99) (fun _ h9 => h9) (ft := vJ (-9223372036854775808) 9223372036854775807) rfl dX3_tellName_18 (fun u_15 hv_u_15 m_u_15 => ?_)
    obtain ⟨vu_15, rfl, r_vu_15⟩ := hv_u_15
    have q_vu_15 : s1.2.1 8 = vu_15 := OV.eqL (V := vw_TAPE) hw.2.2.1 o_p1 m_u_15 (by decide)
    refine tk_ir (va_runV (As := [.long vu_15]) (rest := []) ⟨hx, hb, hml, hown, hts⟩ (c_X3_isTold__1 l D cy z s.heap.size Ps w0 hw.1 p0 vu_15 s0 h_p0 r_vu_15 o_p0) (cwV 1 hts (gV tw_507 tw_509 ts_8 tw_11 tw_510) rfl rfl rfl (by decide +kernel) ⟨Nat.le_of_ble_eq_true rfl, Nat.le_of_ble_eq_true rfl⟩) (tg_preV hw hK hSD hA (ci := 3) (q := (RX3, TX3, 9)) rfl h_p0 rfl) rfl rfl hl.1 rfl (lv_room (Nat.le_of_ble_eq_true rfl)) dX3_tellName_21 ⟨Nat.le_of_ble_eq_true rfl, Nat.le_of_ble_eq_true rfl⟩) hw hA (fun v_16  H locs hp_v_16 hw => ?_)
    obtain ⟨hfn, hp_v_16⟩ := hp_v_16
    have q_v_16 : (f_X3_isTold__1 vu_15 s0) = v_16 := hfn.1
    have r_v_16 : RI v_16 0 1 := hp_v_16.1
    refine lv_if_eq (tgt := 32) hx hb dX3_tellName_24 (by decide) (fun c_24 => ?_) (fun c_24 => ?_)
    · have r_v_16 : RI v_16 0 0 := rc_eq1 r_v_16 rl_0 (ti_eq c_24) (by decide)
      simp only [f_X3_tellName__4, ↓reduceIte, q_vu_14, eq_true c_5, q_vu_15, q_v_16, eq_true c_24] at hE
      exact B32 s0 s1 w0 _ _ ls r_p2 x_MLT_p0_1 o_p0 o_p1 hE hw hl
    · have r_v_16 : RI v_16 1 1 := rc_neL r_v_16 rl_0 (ti_ne c_24) (by decide)
      refine lv_aload_n hx hb dX3_tellName_27 rfl (lv_at hl 1 rfl) ?_
      refine lv_iconst (v := 3) hx hb dX3_tellName_28 (by decide) ?_
      refine tk_v (va_runV (As := [.int 3]) (rest := []) ⟨hx, hb, hml, hown, hts⟩ (c_X7_refuse__4 l D cy z H.size Ps w0 hw.1 p1 3 s1 h_p1 (rl_3.to (by decide)) o_p1) (cwV 1 hts (gV tw_450 tw_443 tw_444 tw_2 tw_445) rfl rfl rfl (by decide +kernel) ⟨Nat.le_of_ble_eq_true rfl, Nat.le_of_ble_eq_true rfl⟩) (tg_preV hw hK hSD hA (ci := 7) (q := (RX7, TX7, 12)) rfl h_p1 rfl) rfl rfl hl.1 rfl (lv_room (Nat.le_of_ble_eq_true rfl)) dX3_tellName_29 ⟨Nat.le_of_ble_eq_true rfl, Nat.le_of_ble_eq_true rfl⟩) hw hA ⟨by decide, by decide⟩ (fun ws H locs hp_v_17 hw hF9 => ?_)
      have m_u_14 := FLD.over hF9 m_u_14 (by decide)
      have m_u_15 := FLD.over hF9 m_u_15 (by decide)
      have x_MLT_p0_1 := AXC.over hF9 x_MLT_p0_1 (by decide)
      obtain ⟨hfn, hp_v_17⟩ := hp_v_17
      have o_p0 := OV.over (V := vw_POST) hF9 o_p0 (by decide)
      obtain ⟨sg_18, q_sg_18⟩ : ∃ q9 : OS, (f_X7_refuse__4 (3 : Int32) s1) = q9 := ⟨_, rfl⟩
      have o_p1 : OV vw_TAPE Ps ws p1 sg_18 := by rw [← q_sg_18]; exact hfn.1
      obtain ⟨v_19, m_v_19, r_v_19⟩ := (hp_v_17.1)
      simp only [f_X3_tellName__4, ↓reduceIte, q_vu_14, eq_true c_5, q_vu_15, q_v_16, eq_false c_24, q_sg_18] at hE
      exact B32 s0 sg_18 ws _ _ ls r_p2 x_MLT_p0_1 o_p0 o_p1 hE hw hl
  · refine lv_aload_n hx hb dX3_tellName_8 rfl (lv_at hl 1 rfl) ?_
    refine lv_iconst (v := 1) hx hb dX3_tellName_9 (by decide) ?_
    refine tk_v (va_runV (As := [.int 1]) (rest := []) ⟨hx, hb, hml, hown, hts⟩ (c_X7_refuse__4 l D cy z s.heap.size Ps w0 hw.1 p1 1 s1 h_p1 (rl_1.to (by decide)) o_p1) (cwV 1 hts (gV tw_450 tw_443 tw_444 tw_2 tw_445) rfl rfl rfl (by decide +kernel) ⟨Nat.le_of_ble_eq_true rfl, Nat.le_of_ble_eq_true rfl⟩) (tg_preV hw hK hSD hA (ci := 7) (q := (RX7, TX7, 12)) rfl h_p1 rfl) rfl rfl hl.1 rfl (lv_room (Nat.le_of_ble_eq_true rfl)) dX3_tellName_10 ⟨Nat.le_of_ble_eq_true rfl, Nat.le_of_ble_eq_true rfl⟩) hw hA ⟨by decide, by decide⟩ (fun ws H locs hp_v_20 hw hF9 => ?_)
    have m_u_14 := FLD.over hF9 m_u_14 (by decide)
    have x_MLT_p0_1 := AXC.over hF9 x_MLT_p0_1 (by decide)
    obtain ⟨hfn, hp_v_20⟩ := hp_v_20
    have o_p0 := OV.over (V := vw_POST) hF9 o_p0 (by decide)
    obtain ⟨sg_21, q_sg_21⟩ : ∃ q9 : OS, (f_X7_refuse__4 (1 : Int32) s1) = q9 := ⟨_, rfl⟩
    have o_p1 : OV vw_TAPE Ps ws p1 sg_21 := by rw [← q_sg_21]; exact hfn.1
    obtain ⟨v_22, m_v_22, r_v_22⟩ := (hp_v_20.1)
    refine lv_goto (tgt := 32) hx hb dX3_tellName_13 (by decide) ?_
    simp only [f_X3_tellName__4, ↓reduceIte, q_vu_14, eq_false c_5, q_sg_21] at hE
    exact B32 s0 sg_21 ws _ _ ls r_p2 x_MLT_p0_1 o_p0 o_p1 hE hw hl
abbrev wr_X3_readNamed__5 : List (Nat × Nat) := [(7, 5), (7, 6), (7, 7), (7, 8), (7, 9), (7, 10), (7, 11)]
abbrev wa_X3_readNamed__5 : List Nat := [1, 4]
set_option maxHeartbeats 4000000 in
set_option maxRecDepth 100000 in
theorem c_X3_readNamed__5 (l : Launch) (D : va_G) (cy : Nat → ClassId) (z : Nat → Nat) (sz : Nat) (Ps : PSI) (w0 : va_W) (hT : HT cy GG Ps w0) (p0 : Nat) (p1 : Nat) (p2 : Nat) (p3 : Int32) (s0 : OS) (s1 : OS) (s2 : OS) (h_p0 : (p0, 25) ∈ Ps) (h_p1 : (p1, 26) ∈ Ps) (h_p2 : (p2, 24) ∈ Ps) (r_p3 : RI p3 1 1) (x_MLT_p0_1 : AXC 3 1 4 (fun f => (f 1).toInt < 4) Ps w0 p0) (o_p0 : OV vw_POST Ps w0 p0 s0) (o_p1 : OV vw_TAPE Ps w0 p1 s1) (o_p2 : OV vw_WORLD Ps w0 p2 s2) : Met l yX3_readNamed (Cond.code yX3_readNamed cX3_readNamed 5 none :: gT) ({ frames := 4, cells := 0, slots := 0, locals := 800 } : Room) (va_Pc [.ref p0, .ref p1, .ref p2, .int p3] (PRE D cy z w0 sz)) (va_Qv (fun (u : va_W) => ((OV vw_POST Ps u p0 ((f_X3_readNamed__5 p3 s0 s1 s2).1) ∧ OV vw_TAPE Ps u p1 ((f_X3_readNamed__5 p3 s0 s1 s2).2.1) ∧ OV vw_WORLD Ps u p2 ((f_X3_readNamed__5 p3 s0 s1 s2).2.2) ∧ True) ∧ (True)) ∧ HT cy GG Ps u ∧ FR wr_X3_readNamed__5 wa_X3_readNamed__5 Ps w0 u) (BB D cy (va_A w0 sz) (fun (u : va_W) => u)) (va_A w0 sz)) 0 0 (va_A w0 sz) := by
  refine Met.ofW (cc := cX3_readNamed) (maxL := 5) (ret := none) (by decide) rfl ?_
  intro p e s m args below meth c s₁ B hml hv
  obtain ⟨rfl, hsz, hP, hK, hD0, hSD⟩ := hv
  have hx := B.exec
  have hb := B.bytes
  have hr := B.returns
  have hlocks := B.notSynchronized
  have hts : ∀ w ∈ gT, w.before _ s = true := fun w h => atoms_spec (ws := Cond.code yX3_readNamed cX3_readNamed 5 none :: gT) B.pre w (List.mem_cons_of_mem _ h)
  have hown : s.vm.findClass RX3 = some m.cls := findClass_of_methodNamed B.named
  subst hsz
  have hD := hD0.self (sz := s.heap.size)
  generalize hAe : va_A w0 s.heap.size = A at hD hSD ⊢
  have hA : ∀ q : Nat, s.heap.size ≤ q → A q := fun q h => by rw [← hAe]; exact Or.inr h
  have hl := lv_entry ([.ref p0, .ref p1, .ref p2, .int p3]) (n := 5) (Nat.le_of_ble_eq_true rfl)
  rw [lg_entry_eq]
  generalize (lg_sl ([.ref p0, .ref p1, .ref p2, .int p3]) ++ List.replicate (5 - (lg_sl ([.ref p0, .ref p1, .ref p2, .int p3])).length) Slot.unset).toArray = ls at hl ⊢
  have hl : lv_has ls 5 [(0, .ref p0), (1, .ref p1), (2, .ref p2), (3, .int p3)] := hl
  refine nameQ (fun Q hQ => ?_)
  have hw : WD D cy GG A s wr_X3_readNamed__5 wa_X3_readNamed__5 Ps w0 Ps w0 s.heap [] := ⟨hT, hP, hD, va_S.rf, FR.rf, hT.1, [], (List.append_nil _).symm⟩
  obtain ⟨R9, hR⟩ : ∃ q9 : OS × OS × OS, f_X3_readNamed__5 p3 s0 s1 s2 = q9 := ⟨_, rfl⟩
  have hE := hR
  refine lv_aload_n hx hb dX3_readNamed_0 rfl (lv_at hl 0 rfl) ?_
  refine lv_aload_n hx hb dX3_readNamed_1 rfl (lv_at hl 1 rfl) ?_
  refine lv_iload_n hx hb dX3_readNamed_2 rfl (lv_at hl 3 rfl) ?_
  refine tk_i (va_runV (As := [.ref p1, .int p3]) (rest := []) ⟨hx, hb, hml, hown, hts⟩ (c_X3_tellName__5 l D cy z s.heap.size Ps w0 hw.1 p0 p1 p3 s0 s1 h_p0 h_p1 r_p3 x_MLT_p0_1 o_p0 o_p1) (cwV 2 hts (gV tw_503 tw_505 ts_7 tw_11 tw_506) rfl rfl rfl (by decide +kernel) ⟨Nat.le_of_ble_eq_true rfl, Nat.le_of_ble_eq_true rfl⟩) (tg_preV hw hK hSD hA (ci := 3) (q := (RX3, TX3, 9)) rfl h_p0 rfl) rfl rfl hl.1 rfl (lv_room (Nat.le_of_ble_eq_true rfl)) dX3_readNamed_3 ⟨Nat.le_of_ble_eq_true rfl, Nat.le_of_ble_eq_true rfl⟩) hw hA ⟨by decide, by decide⟩ (fun v_1 ws H locs hp_v_1 hw hF9 => ?_)
  obtain ⟨hfn, hp_v_1⟩ := hp_v_1
  have o_p2 := OV.over (V := vw_WORLD) hF9 o_p2 (by decide)
  obtain ⟨sg_2, q_sg_2⟩ : ∃ q9 : OS, (f_X3_tellName__4 p3 s0 s1).1 = q9 := ⟨_, rfl⟩
  have o_p0 : OV vw_POST Ps ws p0 sg_2 := by rw [← q_sg_2]; exact hfn.1
  obtain ⟨sg_3, q_sg_3⟩ : ∃ q9 : OS, (f_X3_tellName__4 p3 s0 s1).2.1 = q9 := ⟨_, rfl⟩
  have o_p1 : OV vw_TAPE Ps ws p1 sg_3 := by rw [← q_sg_3]; exact hfn.2.1
  have q_v_1 : (f_X3_tellName__4 p3 s0 s1).2.2 = v_1 := hfn.2.2.1
  have r_v_1 : RI v_1 (-1) 3 := hp_v_1.1
  by_cases c9_v_1 : v_1 = 0
  · have r_v_1 : RI v_1 0 0 := by rw [c9_v_1]; exact rl_0
    obtain ⟨v_4, m_v_4, r_v_4⟩ := ((hp_v_1.2.1 c9_v_1).1)
    refine lv_istore (lv' := [(4, .int v_1), (0, .ref p0), (1, .ref p1), (2, .ref p2), (3, .int p3)]) hx hb dX3_readNamed_6 hl (by decide) rfl (fun ls hl => ?_)
    refine lv_iload hx hb dX3_readNamed_8 (lv_at hl 0 rfl) ?_
    refine lv_iconst (v := (-1)) hx hb dX3_readNamed_10 (by decide) ?_
    refine lv_icmp_ne (tgt := 15) hx hb dX3_readNamed_11 (by decide) (fun c_11 => ?_) (fun c_11 => ?_)
    · refine lv_iload_n hx hb dX3_readNamed_15 rfl (lv_at hl 4 rfl) ?_
      refine lv_if_ne (tgt := 36) hx hb dX3_readNamed_16 (by decide) (fun c_16 => ?_) (fun c_16 => ?_)
      · refine lv_iload_n hx hb dX3_readNamed_36 rfl (lv_at hl 4 rfl) ?_
        refine lv_iconst (v := 2) hx hb dX3_readNamed_37 (by decide) ?_
        refine lv_icmp_ne (tgt := 61) hx hb dX3_readNamed_38 (by decide) (fun c_38 => ?_) (fun c_38 => ?_)
        · refine lv_iload_n hx hb dX3_readNamed_61 rfl (lv_at hl 4 rfl) ?_
          refine lv_iconst (v := 3) hx hb dX3_readNamed_62 (by decide) ?_
          refine lv_icmp_ne (tgt := 97) hx hb dX3_readNamed_63 (by decide) (fun c_63 => ?_) (fun c_63 => ?_)
          · simp only [f_X3_readNamed__5, ↓reduceIte, q_sg_2, q_sg_3, q_v_1, eq_true c9_v_1, eq_false c_11, eq_false c_16, eq_false c_38, eq_false c_63] at hE
            subst hQ
            exact W.vret hx hb hr (fun t ht hW => ⟨⟨ws, rfl, ⟨⟨⟨(by rw [hR, ← hE]; exact o_p0), (by rw [hR, ← hE]; exact o_p1), (by rw [hR, ← hE]; exact o_p2), trivial⟩, trivial⟩, hw.1, hw.2.2.2.2.1⟩, by rw [ht]; exact hw.2.1, va_K.moved hW.alike hK, hw.2.2.1⟩, hw.2.2.2.1.F ht⟩) hw.2.2.2.1.2.2 dX3_readNamed_97
          · have r_p3 : RI p3 3 1 := rc_eq1 r_p3 rl_3 (ti_eq c_63) (by decide)
            exact (r_p3.no (by decide)).elim
        · have r_p3 : RI p3 2 1 := rc_eq1 r_p3 rl_2 (ti_eq c_38) (by decide)
          exact (r_p3.no (by decide)).elim
      · have r_p3 : RI p3 1 0 := rc_eq1 r_p3 rl_0 (ti_eq c_16) (by decide)
        exact (r_p3.no (by decide)).elim
    · have r_v_1 : RI v_1 0 (-1) := rc_eq1 r_v_1 rl_m1 (ti_eq c_11) (by decide)
      exact (r_v_1.no (by decide)).elim
  · refine lv_istore (lv' := [(4, .int v_1), (0, .ref p0), (1, .ref p1), (2, .ref p2), (3, .int p3)]) hx hb dX3_readNamed_6 hl (by decide) rfl (fun ls hl => ?_)
    refine lv_iload hx hb dX3_readNamed_8 (lv_at hl 0 rfl) ?_
    refine lv_iconst (v := (-1)) hx hb dX3_readNamed_10 (by decide) ?_
    refine lv_icmp_ne (tgt := 15) hx hb dX3_readNamed_11 (by decide) (fun c_11 => ?_) (fun c_11 => ?_)
    · have r_v_1 : RI v_1 0 3 := rc_neL r_v_1 rl_m1 (ti_ne c_11) (by decide)
      refine lv_iload_n hx hb dX3_readNamed_15 rfl (lv_at hl 4 rfl) ?_
      refine lv_if_ne (tgt := 36) hx hb dX3_readNamed_16 (by decide) (fun c_16 => ?_) (fun c_16 => ?_)
      · refine lv_iload_n hx hb dX3_readNamed_36 rfl (lv_at hl 4 rfl) ?_
        refine lv_iconst (v := 2) hx hb dX3_readNamed_37 (by decide) ?_
        refine lv_icmp_ne (tgt := 61) hx hb dX3_readNamed_38 (by decide) (fun c_38 => ?_) (fun c_38 => ?_)
        · refine lv_iload_n hx hb dX3_readNamed_61 rfl (lv_at hl 4 rfl) ?_
          refine lv_iconst (v := 3) hx hb dX3_readNamed_62 (by decide) ?_
          refine lv_icmp_ne (tgt := 97) hx hb dX3_readNamed_63 (by decide) (fun c_63 => ?_) (fun c_63 => ?_)
          · simp only [f_X3_readNamed__5, ↓reduceIte, q_sg_2, q_sg_3, q_v_1, eq_false c9_v_1, eq_false c_11, eq_false c_16, eq_false c_38, eq_false c_63] at hE
            subst hQ
            exact W.vret hx hb hr (fun t ht hW => ⟨⟨ws, rfl, ⟨⟨⟨(by rw [hR, ← hE]; exact o_p0), (by rw [hR, ← hE]; exact o_p1), (by rw [hR, ← hE]; exact o_p2), trivial⟩, trivial⟩, hw.1, hw.2.2.2.2.1⟩, by rw [ht]; exact hw.2.1, va_K.moved hW.alike hK, hw.2.2.1⟩, hw.2.2.2.1.F ht⟩) hw.2.2.2.1.2.2 dX3_readNamed_97
          · have r_p3 : RI p3 3 1 := rc_eq1 r_p3 rl_3 (ti_eq c_63) (by decide)
            exact (r_p3.no (by decide)).elim
        · have r_p3 : RI p3 2 1 := rc_eq1 r_p3 rl_2 (ti_eq c_38) (by decide)
          exact (r_p3.no (by decide)).elim
      · have r_p3 : RI p3 1 0 := rc_eq1 r_p3 rl_0 (ti_eq c_16) (by decide)
        exact (r_p3.no (by decide)).elim
    · have r_v_1 : RI v_1 (-1) (-1) := rc_eq1 r_v_1 rl_m1 (ti_eq c_11) (by decide)
      simp only [f_X3_readNamed__5, ↓reduceIte, q_sg_2, q_sg_3, q_v_1, eq_false c9_v_1, eq_true c_11] at hE
      subst hQ
      exact W.vret hx hb hr (fun t ht hW => ⟨⟨ws, rfl, ⟨⟨⟨(by rw [hR, ← hE]; exact o_p0), (by rw [hR, ← hE]; exact o_p1), (by rw [hR, ← hE]; exact o_p2), trivial⟩, trivial⟩, hw.1, hw.2.2.2.2.1⟩, by rw [ht]; exact hw.2.1, va_K.moved hW.alike hK, hw.2.2.1⟩, hw.2.2.2.1.F ht⟩) hw.2.2.2.1.2.2 dX3_readNamed_14
abbrev wr_X3_beginsLine__15 : List (Nat × Nat) := [(7, 5), (7, 6), (7, 7), (7, 8), (7, 9), (7, 10), (7, 11)]
abbrev wa_X3_beginsLine__15 : List Nat := []
set_option maxHeartbeats 4000000 in
set_option maxRecDepth 100000 in
theorem c_X3_beginsLine__15 (l : Launch) (D : va_G) (cy : Nat → ClassId) (z : Nat → Nat) (sz : Nat) (Ps : PSI) (w0 : va_W) (hT : HT cy GG Ps w0) (p0 : Nat) (p1 : Nat) (p2 : Int32) (f1_10 : Int32) (s0 : OS) (s1 : OS) (h_p0 : (p0, 25) ∈ Ps) (h_p1 : (p1, 26) ∈ Ps) (r_p2 : RI p2 130 130) (r_f1_10 : RI f1_10 0 0) (m_f1_10 : FLD w0 p1 7 10 (.int f1_10)) (o_p0 : OV vw_POST Ps w0 p0 s0) (o_p1 : OV vw_TAPE Ps w0 p1 s1) : Met l yX3_beginsLine (Cond.code yX3_beginsLine cX3_beginsLine 3 (some .boolean) :: gT) ({ frames := 3, cells := 0, slots := 0, locals := 600 } : Room) (va_Pc [.ref p0, .ref p1, .int p2] (PRE D cy z w0 sz)) (va_Qi (fun (r : Int32) (u : va_W) => ((OV vw_POST Ps u p0 ((f_X3_beginsLine__13 p2 s0 s1).1) ∧ OV vw_TAPE Ps u p1 ((f_X3_beginsLine__13 p2 s0 s1).2.1) ∧ (f_X3_beginsLine__13 p2 s0 s1).2.2 = r ∧ True) ∧ (RI r 0 1 ∧ (r = 0 → (∃ v9 : Int32, FLD u p1 7 10 (.int v9) ∧ RI v9 1 4) ∧ True) ∧ (¬ r = 0 → (∃ v9 : Int32, FLD u p1 7 10 (.int v9) ∧ RI v9 0 0) ∧ AXC 3 1 4 (fun f => (f 2).toInt < 6) Ps u p0 ∧ True))) ∧ HT cy GG Ps u ∧ FR wr_X3_beginsLine__15 wa_X3_beginsLine__15 Ps w0 u) (BB D cy (va_A w0 sz) (fun (u : va_W) => u)) (va_A w0 sz)) 0 0 (va_A w0 sz) := by
  refine Met.ofW (cc := cX3_beginsLine) (maxL := 3) (ret := (some .boolean)) (by decide) rfl ?_
  intro p e s m args below meth c s₁ B hml hv
  obtain ⟨rfl, hsz, hP, hK, hD0, hSD⟩ := hv
  have hx := B.exec
  have hb := B.bytes
  have hr := B.returns
  have hlocks := B.notSynchronized
  have hts : ∀ w ∈ gT, w.before _ s = true := fun w h => atoms_spec (ws := Cond.code yX3_beginsLine cX3_beginsLine 3 (some .boolean) :: gT) B.pre w (List.mem_cons_of_mem _ h)
  have hown : s.vm.findClass RX3 = some m.cls := findClass_of_methodNamed B.named
  subst hsz
  have hD := hD0.self (sz := s.heap.size)
  generalize hAe : va_A w0 s.heap.size = A at hD hSD ⊢
  have hA : ∀ q : Nat, s.heap.size ≤ q → A q := fun q h => by rw [← hAe]; exact Or.inr h
  have hl := lv_entry ([.ref p0, .ref p1, .int p2]) (n := 3) (Nat.le_of_ble_eq_true rfl)
  rw [lg_entry_eq]
  generalize (lg_sl ([.ref p0, .ref p1, .int p2]) ++ List.replicate (3 - (lg_sl ([.ref p0, .ref p1, .int p2])).length) Slot.unset).toArray = ls at hl ⊢
  have hl : lv_has ls 3 [(0, .ref p0), (1, .ref p1), (2, .int p2)] := hl
  refine nameQ (fun Q hQ => ?_)
  have hw : WD D cy GG A s wr_X3_beginsLine__15 wa_X3_beginsLine__15 Ps w0 Ps w0 s.heap [] := ⟨hT, hP, hD, va_S.rf, FR.rf, hT.1, [], (List.append_nil _).symm⟩
  obtain ⟨R9, hR⟩ : ∃ q9 : OS × OS × Int32, f_X3_beginsLine__13 p2 s0 s1 = q9 := ⟨_, rfl⟩
  have hE := hR
  refine lv_iload_n hx hb dX3_beginsLine_0 rfl (lv_at hl 2 rfl) ?_
  refine lv_sipush (v := 128) hx hb dX3_beginsLine_1 (by decide) ?_
  refine lv_icmp_lt (tgt := 14) hx hb dX3_beginsLine_4 (by decide) (fun c_4 => ?_) (fun c_4 => ?_)
  · have r_p2 : RI p2 130 127 := rc_lt1 r_p2 rl_128 (ti_lt c_4) (by decide)
    exact (r_p2.no (by decide)).elim
  · refine lv_iload_n hx hb dX3_beginsLine_7 rfl (lv_at hl 2 rfl) ?_
    refine lv_sipush (v := 136) hx hb dX3_beginsLine_8 (by decide) ?_
    refine lv_icmp_le (tgt := 22) hx hb dX3_beginsLine_11 (by decide) (fun c_11 => ?_) (fun c_11 => ?_)
    · refine lv_iload_n hx hb dX3_beginsLine_22 rfl (lv_at hl 2 rfl) ?_
      refine lv_sipush (v := 131) hx hb dX3_beginsLine_23 (by decide) ?_
      refine lv_icmp_gt (tgt := 59) hx hb dX3_beginsLine_26 (by decide) (fun c_26 => ?_) (fun c_26 => ?_)
      · have r_p2 : RI p2 132 130 := rc_lt2 rl_131 r_p2 (ti_lt c_26) (by decide)
        exact (r_p2.no (by decide)).elim
      · refine lv_aload_n hx hb dX3_beginsLine_29 rfl (lv_at hl 0 rfl) ?_
        refine tg_get (ci := 3) (ts := ty_POST) (C := RX3) (T := TX3) (N := 9) hx hb hts inX3 hown hK hw h_p0 rfl rfl 1 (by decide) (hts _ tw_201) (fun _ h9 => h9) (ft := vR 4) rfl dX3_beginsLine_30 (fun u_1 hv_u_1 m_u_1 => ?_)
        obtain ⟨vu_1, rfl, h_vu_1⟩ := hv_u_1
        refine lv_iload_n hx hb dX3_beginsLine_33 rfl (lv_at hl 2 rfl) ?_
        refine lv_sipush (v := 128) hx hb dX3_beginsLine_34 (by decide) ?_
        refine lv_isub hx hb dX3_beginsLine_37 (lv_topi (fun v_2 e_v_2 => ?_))
        obtain ⟨t_v_2, r_v_2⟩ := tq_sub (lo := 2) (hi := 2) r_p2 rl_128 (by decide +kernel) e_v_2
        have t_v_2 : v_2.toInt = p2.toInt - 128 := t_v_2
        have q_v_2 : p2 - (128 : Int32) = v_2 := e_v_2.symm
        refine tg_iald (lo := 0) (hi := 6) hx hb hK hw h_vu_1 rfl 2 2 r_v_2 (by decide) (by decide +kernel) dX3_beginsLine_38 (fun v_3 r_v_3 m_v_3 o_v_3 => ?_)
        have q_v_3 : s0.2.2.1 1 (Int32.toNatClampNeg v_2) = v_3 := OV.eqA (V := vw_POST) (t := 4) hw.2.2.1 o_p0 m_u_1 m_v_3 (by decide)
        refine va_gets (v := .ref (z 0)) hx hb hSD.2.2.2.1 hw.2.2.2.1 hown (hts _ tw_198) (fun _ h9 => h9) dX3_beginsLine_39 ?_
        refine lv_iload_n hx hb dX3_beginsLine_42 rfl (lv_at hl 2 rfl) ?_
        refine lv_sipush (v := 128) hx hb dX3_beginsLine_43 (by decide) ?_
        refine lv_isub hx hb dX3_beginsLine_46 (lv_topi (fun v_4 e_v_4 => ?_))
        obtain ⟨t_v_4, r_v_4⟩ := tq_sub (lo := 2) (hi := 2) r_p2 rl_128 (by decide +kernel) e_v_4
        have t_v_4 : v_4.toInt = p2.toInt - 128 := t_v_4
        have z9 : v_2 = v_4 := q_v_2.symm.trans (e_v_4.symm)
        subst z9
        refine tz_mk 2 6 hx hb hSD.2.2.2.2.1 hw.2.2.2.1 r_v_2 (by decide) rfl dX3_beginsLine_47 (fun v_5 e_v_5 => ?_)
        have r_v_5 : RI v_5 6 6 := by rw [e_v_5]; exact rl_6
        have q_v_5 : (6 : Int32) = v_5 := e_v_5.symm
        refine lv_icmp_lt (tgt := 59) hx hb dX3_beginsLine_48 (by decide) (fun c_48 => ?_) (fun c_48 => ?_)
        · have d_48 := c_48
          rw [← q_v_5] at d_48
          have r_v_3 : RI v_3 0 5 := rc_lt1 r_v_3 r_v_5 (ti_lt c_48) (by decide)
          have x_MLT_p0_2 : AXC 3 1 4 (fun f => (f 2).toInt < 6) Ps w0 p0 := AXC.mk hw h_vu_1 rfl m_u_1 (fun f9 g9 => by have e9 := g9 _ _ m_v_3; have j9 : Int32.toNatClampNeg v_2 = 2 := (by have k1 := r_v_2.cl (by decide); have k2 := r_v_2.eq; omega); rw [j9] at e9; show _ < _; rw [e9]; have k3 := r_v_3.2; omega)
          refine lv_iload_n hx hb dX3_beginsLine_59 rfl (lv_at hl 2 rfl) ?_
          refine lv_sipush (v := 135) hx hb dX3_beginsLine_60 (by decide) ?_
          refine lv_icmp_ne (tgt := 73) hx hb dX3_beginsLine_63 (by decide) (fun c_63 => ?_) (fun c_63 => ?_)
          · refine lv_iload_n hx hb dX3_beginsLine_73 rfl (lv_at hl 2 rfl) ?_
            refine lv_sipush (v := 136) hx hb dX3_beginsLine_74 (by decide) ?_
            refine lv_icmp_ne (tgt := 92) hx hb dX3_beginsLine_77 (by decide) (fun c_77 => ?_) (fun c_77 => ?_)
            · refine lv_aload_n hx hb dX3_beginsLine_92 rfl (lv_at hl 1 rfl) ?_
              have hw8 := hw
              refine tk_v (va_runV (As := []) (rest := []) ⟨hx, hb, hml, hown, hts⟩ (c_X7_pass__5 l D cy z s.heap.size Ps w0 hw.1 p1 f1_10 s1 h_p1 r_f1_10 m_f1_10 o_p1) (cwV 0 hts (gV tw_451 tw_425 tw_426 tw_2 tw_427) rfl rfl rfl (by decide +kernel) ⟨Nat.le_of_ble_eq_true rfl, Nat.le_of_ble_eq_true rfl⟩) (tg_preV hw hK hSD hA (ci := 7) (q := (RX7, TX7, 12)) rfl h_p1 rfl) rfl rfl hl.1 rfl (lv_room (Nat.le_of_ble_eq_true rfl)) dX3_beginsLine_93 ⟨Nat.le_of_ble_eq_true rfl, Nat.le_of_ble_eq_true rfl⟩) hw hA ⟨by decide, by decide⟩ (fun ws H locs hp_v_6 hw hF9 => ?_)
              have m_v_3 := AEL.over hw8 hF9 h_vu_1 m_v_3 (by decide)
              have m_f1_10 := FLD.over hF9 m_f1_10 (by decide)
              have m_u_1 := FLD.over hF9 m_u_1 (by decide)
              have x_MLT_p0_2 := AXC.over hF9 x_MLT_p0_2 (by decide)
              obtain ⟨hfn, hp_v_6⟩ := hp_v_6
              have o_p0 := OV.over (V := vw_POST) hF9 o_p0 (by decide)
              obtain ⟨sg_7, q_sg_7⟩ : ∃ q9 : OS, (f_X7_pass__5 s1) = q9 := ⟨_, rfl⟩
              have o_p1 : OV vw_TAPE Ps ws p1 sg_7 := by rw [← q_sg_7]; exact hfn.1
              obtain ⟨v_8, m_v_8, r_v_8⟩ := (hp_v_6.1)
              refine lv_aload_n hx hb dX3_beginsLine_96 rfl (lv_at hl 1 rfl) ?_
              refine tg_memN (ci := 7) (C := RX7) (T := TX7) (N := 12) hx hb hts inX7 hown hK hw 10 m_v_8 rfl (by decide) (hSD.nest tn_105) (fun _ h9 => h9) dX3_beginsLine_97 ?_
              have q_v_8 : sg_7.1 10 = v_8 := OV.eqI (V := vw_TAPE) hw.2.2.1 o_p1 m_v_8 (by decide)
              refine lv_if_ne (tgt := 107) hx hb dX3_beginsLine_100 (by decide) (fun c_100 => ?_) (fun c_100 => ?_)
              · exact absurd (r_v_8.eq.trans rl_0.eq.symm) ((ti_ne c_100))
              · refine lv_iconst (v := 1) hx hb dX3_beginsLine_103 (by decide) ?_
                refine lv_goto (tgt := 108) hx hb dX3_beginsLine_104 (by decide) ?_
                simp only [f_X3_beginsLine__13, ↓reduceIte, eq_false c_4, eq_true c_11, eq_false c_26, q_v_2, q_v_3, eq_true d_48, eq_false c_63, eq_false c_77, q_sg_7, q_v_8, eq_true c_100] at hE
                subst hQ
                exact W.zret (v := 1) hx hb hr (rfl) (fun t ht hW => ⟨⟨1, ws, rfl, ⟨⟨⟨(by rw [hR, ← hE]; exact o_p0), (by rw [hR, ← hE]; exact o_p1), (by rw [hR, ← hE]), trivial⟩, rl_1.to (by decide), (fun h0 => absurd h0 (by decide)), (fun h0 => ⟨⟨_, m_v_8, r_v_8⟩, x_MLT_p0_2, trivial⟩)⟩, hw.1, hw.2.2.2.2.1⟩, by rw [ht]; exact hw.2.1, va_K.moved hW.alike hK, hw.2.2.1⟩, hw.2.2.2.1.F ht⟩) hw.2.2.2.1.2.2 dX3_beginsLine_108
            · have r_p2 : RI p2 136 130 := rc_eq1 r_p2 rl_136 (ti_eq c_77) (by decide)
              exact (r_p2.no (by decide)).elim
          · have r_p2 : RI p2 135 130 := rc_eq1 r_p2 rl_135 (ti_eq c_63) (by decide)
            exact (r_p2.no (by decide)).elim
        · have d_48 := c_48
          rw [← q_v_5] at d_48
          have r_v_3 : RI v_3 6 6 := rc_le2 r_v_5 r_v_3 (ti_nlt c_48) (by decide)
          refine lv_aload_n hx hb dX3_beginsLine_51 rfl (lv_at hl 1 rfl) ?_
          refine lv_iconst (v := 4) hx hb dX3_beginsLine_52 (by decide) ?_
          have hw8 := hw
          refine tk_v (va_runV (As := [.int 4]) (rest := []) ⟨hx, hb, hml, hown, hts⟩ (c_X7_refuse__5 l D cy z s.heap.size Ps w0 hw.1 p1 4 f1_10 s1 h_p1 (rl_4.to (by decide)) r_f1_10 m_f1_10 o_p1) (cwV 1 hts (gV tw_450 tw_443 tw_444 tw_2 tw_445) rfl rfl rfl (by decide +kernel) ⟨Nat.le_of_ble_eq_true rfl, Nat.le_of_ble_eq_true rfl⟩) (tg_preV hw hK hSD hA (ci := 7) (q := (RX7, TX7, 12)) rfl h_p1 rfl) rfl rfl hl.1 rfl (lv_room (Nat.le_of_ble_eq_true rfl)) dX3_beginsLine_53 ⟨Nat.le_of_ble_eq_true rfl, Nat.le_of_ble_eq_true rfl⟩) hw hA ⟨by decide, by decide⟩ (fun ws H locs hp_v_9 hw hF9 => ?_)
          have m_v_3 := AEL.over hw8 hF9 h_vu_1 m_v_3 (by decide)
          have m_u_1 := FLD.over hF9 m_u_1 (by decide)
          obtain ⟨hfn, hp_v_9⟩ := hp_v_9
          have o_p0 := OV.over (V := vw_POST) hF9 o_p0 (by decide)
          obtain ⟨sg_10, q_sg_10⟩ : ∃ q9 : OS, (f_X7_refuse__5 (4 : Int32) s1) = q9 := ⟨_, rfl⟩
          have o_p1 : OV vw_TAPE Ps ws p1 sg_10 := by rw [← q_sg_10]; exact hfn.1
          obtain ⟨v_11, m_v_11, r_v_11⟩ := (hp_v_9.1)
          refine lv_goto (tgt := 92) hx hb dX3_beginsLine_56 (by decide) ?_
          refine lv_aload_n hx hb dX3_beginsLine_92 rfl (lv_at hl 1 rfl) ?_
          refine tk_vr (va_runV (As := []) (rest := []) ⟨hx, hb, hml, hown, hts⟩ (c_X7_pass__4 l D cy z H.size Ps ws hw.1 p1 v_11 sg_10 h_p1 r_v_11 m_v_11 o_p1) (cwV 0 hts (gV tw_451 tw_425 tw_426 tw_2 tw_427) rfl rfl rfl (by decide +kernel) ⟨Nat.le_of_ble_eq_true rfl, Nat.le_of_ble_eq_true rfl⟩) (tg_preV hw hK hSD hA (ci := 7) (q := (RX7, TX7, 12)) rfl h_p1 rfl) rfl rfl hl.1 rfl (lv_room (Nat.le_of_ble_eq_true rfl)) dX3_beginsLine_93 ⟨Nat.le_of_ble_eq_true rfl, Nat.le_of_ble_eq_true rfl⟩) hw hA (fun  H locs hp_v_12 hw => ?_)
          obtain ⟨hfn, hp_v_12⟩ := hp_v_12
          refine lv_aload_n hx hb dX3_beginsLine_96 rfl (lv_at hl 1 rfl) ?_
          refine tg_memN (ci := 7) (C := RX7) (T := TX7) (N := 12) hx hb hts inX7 hown hK hw 10 m_v_11 rfl (by decide) (hSD.nest tn_105) (fun _ h9 => h9) dX3_beginsLine_97 ?_
          have q_v_11 : sg_10.1 10 = v_11 := OV.eqI (V := vw_TAPE) hw.2.2.1 o_p1 m_v_11 (by decide)
          refine lv_if_ne (tgt := 107) hx hb dX3_beginsLine_100 (by decide) (fun c_100 => ?_) (fun c_100 => ?_)
          · refine lv_iconst (v := 0) hx hb dX3_beginsLine_107 (by decide) ?_
            simp only [f_X3_beginsLine__13, ↓reduceIte, eq_false c_4, eq_true c_11, eq_false c_26, q_v_2, q_v_3, eq_false d_48, q_sg_10, q_v_11, eq_false c_100] at hE
            subst hQ
            exact W.zret (v := 0) hx hb hr (rfl) (fun t ht hW => ⟨⟨0, ws, rfl, ⟨⟨⟨(by rw [hR, ← hE]; exact o_p0), (by rw [hR, ← hE]; exact o_p1), (by rw [hR, ← hE]), trivial⟩, rl_0.to (by decide), (fun h0 => ⟨⟨_, m_v_11, r_v_11⟩, trivial⟩), (fun h0 => absurd rfl h0)⟩, hw.1, hw.2.2.2.2.1⟩, by rw [ht]; exact hw.2.1, va_K.moved hW.alike hK, hw.2.2.1⟩, hw.2.2.2.1.F ht⟩) hw.2.2.2.1.2.2 dX3_beginsLine_108
          · have r_v_11 : RI v_11 1 0 := rc_eq1 r_v_11 rl_0 (ti_eq c_100) (by decide)
            exact (r_v_11.no (by decide)).elim
    · have r_p2 : RI p2 137 130 := rc_lt2 rl_136 r_p2 (ti_nle c_11) (by decide)
      exact (r_p2.no (by decide)).elim
abbrev wr_X3_tellName__6 : List (Nat × Nat) := [(7, 5), (7, 6), (7, 7), (7, 8), (7, 9), (7, 10), (7, 11)]
abbrev wa_X3_tellName__6 : List Nat := [1, 4]
set_option maxHeartbeats 4000000 in
set_option maxRecDepth 100000 in
theorem c_X3_tellName__6 (l : Launch) (D : va_G) (cy : Nat → ClassId) (z : Nat → Nat) (sz : Nat) (Ps : PSI) (w0 : va_W) (hT : HT cy GG Ps w0) (p0 : Nat) (p1 : Nat) (p2 : Int32) (s0 : OS) (s1 : OS) (h_p0 : (p0, 25) ∈ Ps) (h_p1 : (p1, 26) ∈ Ps) (r_p2 : RI p2 2 2) (x_MLT_p0_2 : AXC 3 1 4 (fun f => (f 2).toInt < 6) Ps w0 p0) (o_p0 : OV vw_POST Ps w0 p0 s0) (o_p1 : OV vw_TAPE Ps w0 p1 s1) : Met l yX3_tellName (Cond.code yX3_tellName cX3_tellName 4 (some .int) :: gT) ({ frames := 3, cells := 0, slots := 0, locals := 600 } : Room) (va_Pc [.ref p0, .ref p1, .int p2] (PRE D cy z w0 sz)) (va_Qi (fun (r : Int32) (u : va_W) => ((OV vw_POST Ps u p0 ((f_X3_tellName__4 p2 s0 s1).1) ∧ OV vw_TAPE Ps u p1 ((f_X3_tellName__4 p2 s0 s1).2.1) ∧ (f_X3_tellName__4 p2 s0 s1).2.2 = r ∧ True) ∧ (RI r (-1) 5 ∧ (r = 0 → (∃ v9 : Int32, FLD u p1 7 10 (.int v9) ∧ RI v9 0 0) ∧ True) ∧ (¬ r = 0 → True))) ∧ HT cy GG Ps u ∧ FR wr_X3_tellName__6 wa_X3_tellName__6 Ps w0 u) (BB D cy (va_A w0 sz) (fun (u : va_W) => u)) (va_A w0 sz)) 0 0 (va_A w0 sz) := by
  refine Met.ofW (cc := cX3_tellName) (maxL := 4) (ret := (some .int)) (by decide) rfl ?_
  intro p e s m args below meth c s₁ B hml hv
  obtain ⟨rfl, hsz, hP, hK, hD0, hSD⟩ := hv
  have hx := B.exec
  have hb := B.bytes
  have hr := B.returns
  have hlocks := B.notSynchronized
  have hts : ∀ w ∈ gT, w.before _ s = true := fun w h => atoms_spec (ws := Cond.code yX3_tellName cX3_tellName 4 (some .int) :: gT) B.pre w (List.mem_cons_of_mem _ h)
  have hown : s.vm.findClass RX3 = some m.cls := findClass_of_methodNamed B.named
  subst hsz
  have hD := hD0.self (sz := s.heap.size)
  generalize hAe : va_A w0 s.heap.size = A at hD hSD ⊢
  have hA : ∀ q : Nat, s.heap.size ≤ q → A q := fun q h => by rw [← hAe]; exact Or.inr h
  have hl := lv_entry ([.ref p0, .ref p1, .int p2]) (n := 4) (Nat.le_of_ble_eq_true rfl)
  rw [lg_entry_eq]
  generalize (lg_sl ([.ref p0, .ref p1, .int p2]) ++ List.replicate (4 - (lg_sl ([.ref p0, .ref p1, .int p2])).length) Slot.unset).toArray = ls at hl ⊢
  have hl : lv_has ls 4 [(0, .ref p0), (1, .ref p1), (2, .int p2)] := hl
  refine nameQ (fun Q hQ => ?_)
  have hw : WD D cy GG A s wr_X3_tellName__6 wa_X3_tellName__6 Ps w0 Ps w0 s.heap [] := ⟨hT, hP, hD, va_S.rf, FR.rf, hT.1, [], (List.append_nil _).symm⟩
  obtain ⟨R9, hR⟩ : ∃ q9 : OS × OS × Int32, f_X3_tellName__4 p2 s0 s1 = q9 := ⟨_, rfl⟩
  have hE := hR
  have B32 : ∀ (s0 : OS) (s1 : OS) (ws : va_W) (H : Heap) (locs : List Loc) (ls : Array Slot), RI p2 2 2 → AXC 3 1 4 (fun f => (f 2).toInt < 6) Ps ws p0 → OV vw_POST Ps ws p0 s0 → OV vw_TAPE Ps ws p1 s1 → f_X3_tellName__4_32 p2 s0 s1 = R9 → WD D cy GG A s wr_X3_tellName__6 wa_X3_tellName__6 Ps w0 Ps ws H locs → lv_has ls 4 [(0, .ref p0), (1, .ref p1), (2, .int p2)] → W p l e (headSpec (Cond.code yX3_tellName cX3_tellName 4 (some .int) :: gT) ({ frames := 3, cells := 0, slots := 0, locals := 600 } : Room)).room s m ([.ref p0, .ref p1, .int p2] : List Value).toArray below meth c H locs 0 0 Q (F0 m 32 ls []) := by
    intro s0 s1 ws H locs ls r_p2 x_MLT_p0_2 o_p0 o_p1 hE hw hl
    refine lv_aload_n hx hb dX3_tellName_32 rfl (lv_at hl 1 rfl) ?_
    refine tg_getN (ci := 7) (ts := ty_TAPE) (C := RX7) (T := TX7) (N := 12) hx hb hts inX7 hown hK hw h_p1 rfl rfl 10 (by decide) (hSD.nest tn_105) (fun _ h9 => h9) (ft := vI 0 4) rfl dX3_tellName_33 (fun u_1 hv_u_1 m_u_1 => ?_)
    obtain ⟨vu_1, rfl, r_vu_1⟩ := hv_u_1
    have q_vu_1 : s1.1 10 = vu_1 := OV.eqI (V := vw_TAPE) hw.2.2.1 o_p1 m_u_1 (by decide)
    refine lv_if_eq (tgt := 41) hx hb dX3_tellName_36 (by decide) (fun c_36 => ?_) (fun c_36 => ?_)
    · have r_vu_1 : RI vu_1 0 0 := rc_eq1 r_vu_1 rl_0 (ti_eq c_36) (by decide)
      refine lv_aload_n hx hb dX3_tellName_41 rfl (lv_at hl 0 rfl) ?_
      refine tg_get (ci := 3) (ts := ty_POST) (C := RX3) (T := TX3) (N := 9) hx hb hts inX3 hown hK hw h_p0 rfl rfl 1 (by decide) (hts _ tw_201) (fun _ h9 => h9) (ft := vR 4) rfl dX3_tellName_42 (fun u_2 hv_u_2 m_u_2 => ?_)
      obtain ⟨vu_2, rfl, h_vu_2⟩ := hv_u_2
      refine lv_iload_n hx hb dX3_tellName_45 rfl (lv_at hl 2 rfl) ?_
      refine tg_iald (lo := 0) (hi := 6) hx hb hK hw h_vu_2 rfl 2 2 r_p2 (by decide) (by decide +kernel) dX3_tellName_46 (fun v_3 r_v_3 m_v_3 o_v_3 => ?_)
      have q_v_3 : s0.2.2.1 1 (Int32.toNatClampNeg p2) = v_3 := OV.eqA (V := vw_POST) (t := 4) hw.2.2.1 o_p0 m_u_2 m_v_3 (by decide)
      have r_v_3 : RI v_3 0 5 := ⟨r_v_3.1, by obtain ⟨f9, q9, e9⟩ := AXC.use hw x_MLT_p0_2 m_u_2 m_v_3; have j9 : Int32.toNatClampNeg p2 = 2 := (by have k1 := r_p2.cl (by decide); have k2 := r_p2.eq; omega); rw [j9] at e9; have q8 : (f9 2).toInt < 6 := q9; rw [e9] at q8; omega⟩
      refine lv_istore_n (lv' := [(3, .int v_3), (0, .ref p0), (1, .ref p1), (2, .int p2)]) hx hb dX3_tellName_47 rfl hl (by decide) rfl (fun ls hl => ?_)
      refine lv_aload_n hx hb dX3_tellName_48 rfl (lv_at hl 1 rfl) ?_
      refine tg_get (ci := 3) (ts := ty_POST) (C := RX3) (T := TX3) (N := 9) hx hb hts inX3 hown hK hw h_p0 rfl rfl 0 (by decide) (hts _ tw_200) (fun _ h9 => h9) (ft := vR 1) rfl dX3_tellName_49 (fun u_4 hv_u_4 m_u_4 => ?_)
      obtain ⟨vu_4, rfl, h_vu_4⟩ := hv_u_4
      refine lv_iload_n hx hb dX3_tellName_52 rfl (lv_at hl 3 rfl) ?_
      refine lv_bipush (v := 8) hx hb dX3_tellName_53 (by decide) ?_
      refine lv_imul hx hb dX3_tellName_55 (lv_topi (fun v_5 e_v_5 => ?_))
      obtain ⟨t_v_5, r_v_5⟩ := tq_mul (lo := 16) (hi := 16) r_p2 rl_8 (by decide +kernel) e_v_5
      have t_v_5 : v_5.toInt = p2.toInt * 8 := t_v_5
      have q_v_5 : p2 * (8 : Int32) = v_5 := e_v_5.symm
      refine lv_iload_n hx hb dX3_tellName_56 rfl (lv_at hl 0 rfl) ?_
      refine lv_iadd hx hb dX3_tellName_57 (lv_topi (fun v_6 e_v_6 => ?_))
      obtain ⟨t_v_6, r_v_6⟩ := tq_add (lo := 16) (hi := 21) r_v_5 r_v_3 (by decide +kernel) e_v_6
      have q_v_6 : v_5 + v_3 = v_6 := e_v_6.symm
      refine lv_aload_n hx hb dX3_tellName_58 rfl (lv_at hl 2 rfl) ?_
      refine tg_getN (ci := 7) (ts := ty_TAPE) (C := RX7) (T := TX7) (N := 12) hx hb hts inX7 hown hK hw h_p1 rfl rfl 8 (by decide) (hSD.nest tn_99) (fun _ h9 => h9) (ft := vJ (-9223372036854775808) 9223372036854775807) rfl dX3_tellName_59 (fun u_7 hv_u_7 m_u_7 => ?_)
      obtain ⟨vu_7, rfl, r_vu_7⟩ := hv_u_7
      have q_vu_7 : s1.2.1 8 = vu_7 := OV.eqL (V := vw_TAPE) hw.2.2.1 o_p1 m_u_7 (by decide)
      have mo9 := m_u_4
      refine tg_lastE hx hb hK hw h_vu_4 rfl r_v_6 (by decide) r_vu_7 (by decide) (by decide) dX3_tellName_62 (fun ws H locs hw hF9 hU9 => ?_)
      have x_MLT_p0_2 := AXC.over hF9 x_MLT_p0_2 (by decide)
      have m_u_1 := FLD.over hF9 m_u_1 (by decide)
      have m_u_2 := FLD.over hF9 m_u_2 (by decide)
      have m_u_4 := FLD.over hF9 m_u_4 (by decide)
      have m_u_7 := FLD.over hF9 m_u_7 (by decide)
      have o_p1 := OV.over (V := vw_TAPE) hF9 o_p1 (by decide)
      obtain ⟨sg_8, q_sg_8⟩ : ∃ q9 : OS, sB s0 0 (Int32.toNatClampNeg v_6) vu_7 = q9 := ⟨_, rfl⟩
      have o_p0 : OV vw_POST Ps ws p0 sg_8 := by rw [← q_sg_8]; exact OV.putB (V := vw_POST) (t := 1) hF9 hU9 o_p0 mo9 (by decide) (by decide)
      refine lv_aload_n hx hb dX3_tellName_63 rfl (lv_at hl 1 rfl) ?_
      refine tg_mem (ci := 3) (C := RX3) (T := TX3) (N := 9) hx hb hts inX3 hown hK hw 1 m_u_2 rfl (by decide) (hts _ tw_201) (fun _ h9 => h9) dX3_tellName_64 ?_
      refine lv_iload_n hx hb dX3_tellName_67 rfl (lv_at hl 3 rfl) ?_
      refine lv_iload_n hx hb dX3_tellName_68 rfl (lv_at hl 0 rfl) ?_
      refine lv_iconst (v := 1) hx hb dX3_tellName_69 (by decide) ?_
      refine lv_iadd hx hb dX3_tellName_70 (lv_topi (fun v_9 e_v_9 => ?_))
      obtain ⟨t_v_9, r_v_9⟩ := tq_add (lo := 1) (hi := 6) r_v_3 rl_1 (by decide +kernel) e_v_9
      have t_v_9 : v_9.toInt = v_3.toInt + 1 := t_v_9
      have q_v_9 : v_3 + (1 : Int32) = v_9 := e_v_9.symm
      have mo9 := m_u_2
      refine tg_iast hx hb hK hw h_vu_2 rfl 2 2 r_p2 (by decide) r_v_9 (by decide +kernel) (fun _ _ _ _ _ => trivial) (by decide) dX3_tellName_71 (fun ws H locs hw hF9 hU9 => ?_)
      have m_u_1 := FLD.over hF9 m_u_1 (by decide)
      have m_u_2 := FLD.over hF9 m_u_2 (by decide)
      have m_u_4 := FLD.over hF9 m_u_4 (by decide)
      have m_u_7 := FLD.over hF9 m_u_7 (by decide)
      have o_p1 := OV.over (V := vw_TAPE) hF9 o_p1 (by decide)
      obtain ⟨sg_10, q_sg_10⟩ : ∃ q9 : OS, sA sg_8 1 (Int32.toNatClampNeg p2) v_9 = q9 := ⟨_, rfl⟩
      have o_p0 : OV vw_POST Ps ws p0 sg_10 := by rw [← q_sg_10]; exact OV.putA (V := vw_POST) (t := 4) hF9 hU9 o_p0 mo9 (by decide) (by decide)
      refine lv_aload_n hx hb dX3_tellName_72 rfl (lv_at hl 2 rfl) ?_
      refine tk_v (va_runV (As := []) (rest := []) ⟨hx, hb, hml, hown, hts⟩ (c_X7_pass__5 l D cy z H.size Ps ws hw.1 p1 vu_1 s1 h_p1 r_vu_1 m_u_1 o_p1) (cwV 0 hts (gV tw_451 tw_425 tw_426 tw_2 tw_427) rfl rfl rfl (by decide +kernel) ⟨Nat.le_of_ble_eq_true rfl, Nat.le_of_ble_eq_true rfl⟩) (tg_preV hw hK hSD hA (ci := 7) (q := (RX7, TX7, 12)) rfl h_p1 rfl) rfl rfl hl.1 rfl (lv_room (Nat.le_of_ble_eq_true rfl)) dX3_tellName_73 ⟨Nat.le_of_ble_eq_true rfl, Nat.le_of_ble_eq_true rfl⟩) hw hA ⟨by decide, by decide⟩ (fun ws H locs hp_v_11 hw hF9 => ?_)
      have m_u_1 := FLD.over hF9 m_u_1 (by decide)
      have m_u_2 := FLD.over hF9 m_u_2 (by decide)
      have m_u_4 := FLD.over hF9 m_u_4 (by decide)
      obtain ⟨hfn, hp_v_11⟩ := hp_v_11
      have o_p0 := OV.over (V := vw_POST) hF9 o_p0 (by decide)
      obtain ⟨sg_12, q_sg_12⟩ : ∃ q9 : OS, (f_X7_pass__5 s1) = q9 := ⟨_, rfl⟩
      have o_p1 : OV vw_TAPE Ps ws p1 sg_12 := by rw [← q_sg_12]; exact hfn.1
      obtain ⟨v_13, m_v_13, r_v_13⟩ := (hp_v_11.1)
      refine lv_iload_n hx hb dX3_tellName_76 rfl (lv_at hl 0 rfl) ?_
      simp only [f_X3_tellName__4_32, ↓reduceIte, q_vu_1, eq_true c_36, q_v_3, q_v_5, q_v_6, q_vu_7, q_sg_8, q_v_9, q_sg_10, q_sg_12] at hE
      subst hQ
      exact W.iret (v := v_3) hx hb hr (fun t ht hW => ⟨⟨v_3, ws, rfl, ⟨⟨⟨(by rw [hR, ← hE]; exact o_p0), (by rw [hR, ← hE]; exact o_p1), (by rw [hR, ← hE]), trivial⟩, r_v_3.to (by decide), (fun h0 => ⟨⟨_, m_v_13, r_v_13⟩, trivial⟩), (fun h0 => trivial)⟩, hw.1, hw.2.2.2.2.1⟩, by rw [ht]; exact hw.2.1, va_K.moved hW.alike hK, hw.2.2.1⟩, hw.2.2.2.1.F ht⟩) hw.2.2.2.1.2.2 dX3_tellName_77
    · have r_vu_1 : RI vu_1 1 4 := rc_neL r_vu_1 rl_0 (ti_ne c_36) (by decide)
      refine lv_iconst (v := (-1)) hx hb dX3_tellName_39 (by decide) ?_
      simp only [f_X3_tellName__4_32, ↓reduceIte, q_vu_1, eq_false c_36] at hE
      subst hQ
      exact W.iret (v := (-1)) hx hb hr (fun t ht hW => ⟨⟨(-1), ws, rfl, ⟨⟨⟨(by rw [hR, ← hE]; exact o_p0), (by rw [hR, ← hE]; exact o_p1), (by rw [hR, ← hE]), trivial⟩, rl_m1.to (by decide), (fun h0 => absurd h0 (by decide)), (fun h0 => trivial)⟩, hw.1, hw.2.2.2.2.1⟩, by rw [ht]; exact hw.2.1, va_K.moved hW.alike hK, hw.2.2.1⟩, hw.2.2.2.1.F ht⟩) hw.2.2.2.1.2.2 dX3_tellName_40
  refine lv_aload_n hx hb dX3_tellName_0 rfl (lv_at hl 1 rfl) ?_
  refine tg_getN (ci := 7) (ts := ty_TAPE) (C := RX7) (T := TX7) (N := 12) hx hb hts inX7 hown hK hw h_p1 rfl rfl 7 (by decide) (hSD.nest tn_97) (fun _ h9 => h9) (ft := vI (-2147483648) 2147483647) rfl dX3_tellName_1 (fun u_14 hv_u_14 m_u_14 => ?_)
  obtain ⟨vu_14, rfl, r_vu_14⟩ := hv_u_14
  have q_vu_14 : s1.1 7 = vu_14 := OV.eqI (V := vw_TAPE) hw.2.2.1 o_p1 m_u_14 (by decide)
  refine lv_iconst (v := 2) hx hb dX3_tellName_4 (by decide) ?_
  refine lv_icmp_eq (tgt := 16) hx hb dX3_tellName_5 (by decide) (fun c_5 => ?_) (fun c_5 => ?_)
  · have r_vu_14 : RI vu_14 2 2 := rc_eq1 r_vu_14 rl_2 (ti_eq c_5) (by decide)
    refine lv_aload_n hx hb dX3_tellName_16 rfl (lv_at hl 0 rfl) ?_
    refine lv_aload_n hx hb dX3_tellName_17 rfl (lv_at hl 1 rfl) ?_
    refine tg_getN (ci := 7) (ts := ty_TAPE) (C := RX7) (T := TX7) (N := 12) hx hb hts inX7 hown hK hw h_p1 rfl rfl 8 (by decide) (hSD.nest tn_99) (fun _ h9 => h9) (ft := vJ (-9223372036854775808) 9223372036854775807) rfl dX3_tellName_18 (fun u_15 hv_u_15 m_u_15 => ?_)
    obtain ⟨vu_15, rfl, r_vu_15⟩ := hv_u_15
    have q_vu_15 : s1.2.1 8 = vu_15 := OV.eqL (V := vw_TAPE) hw.2.2.1 o_p1 m_u_15 (by decide)
    refine tk_ir (va_runV (As := [.long vu_15]) (rest := []) ⟨hx, hb, hml, hown, hts⟩ (c_X3_isTold__1 l D cy z s.heap.size Ps w0 hw.1 p0 vu_15 s0 h_p0 r_vu_15 o_p0) (cwV 1 hts (gV tw_507 tw_509 ts_8 tw_11 tw_510) rfl rfl rfl (by decide +kernel) ⟨Nat.le_of_ble_eq_true rfl, Nat.le_of_ble_eq_true rfl⟩) (tg_preV hw hK hSD hA (ci := 3) (q := (RX3, TX3, 9)) rfl h_p0 rfl) rfl rfl hl.1 rfl (lv_room (Nat.le_of_ble_eq_true rfl)) dX3_tellName_21 ⟨Nat.le_of_ble_eq_true rfl, Nat.le_of_ble_eq_true rfl⟩) hw hA (fun v_16  H locs hp_v_16 hw => ?_)
    obtain ⟨hfn, hp_v_16⟩ := hp_v_16
    have q_v_16 : (f_X3_isTold__1 vu_15 s0) = v_16 := hfn.1
    have r_v_16 : RI v_16 0 1 := hp_v_16.1
    refine lv_if_eq (tgt := 32) hx hb dX3_tellName_24 (by decide) (fun c_24 => ?_) (fun c_24 => ?_)
    · have r_v_16 : RI v_16 0 0 := rc_eq1 r_v_16 rl_0 (ti_eq c_24) (by decide)
      simp only [f_X3_tellName__4, ↓reduceIte, q_vu_14, eq_true c_5, q_vu_15, q_v_16, eq_true c_24] at hE
      exact B32 s0 s1 w0 _ _ ls r_p2 x_MLT_p0_2 o_p0 o_p1 hE hw hl
    · have r_v_16 : RI v_16 1 1 := rc_neL r_v_16 rl_0 (ti_ne c_24) (by decide)
      refine lv_aload_n hx hb dX3_tellName_27 rfl (lv_at hl 1 rfl) ?_
      refine lv_iconst (v := 3) hx hb dX3_tellName_28 (by decide) ?_
      refine tk_v (va_runV (As := [.int 3]) (rest := []) ⟨hx, hb, hml, hown, hts⟩ (c_X7_refuse__4 l D cy z H.size Ps w0 hw.1 p1 3 s1 h_p1 (rl_3.to (by decide)) o_p1) (cwV 1 hts (gV tw_450 tw_443 tw_444 tw_2 tw_445) rfl rfl rfl (by decide +kernel) ⟨Nat.le_of_ble_eq_true rfl, Nat.le_of_ble_eq_true rfl⟩) (tg_preV hw hK hSD hA (ci := 7) (q := (RX7, TX7, 12)) rfl h_p1 rfl) rfl rfl hl.1 rfl (lv_room (Nat.le_of_ble_eq_true rfl)) dX3_tellName_29 ⟨Nat.le_of_ble_eq_true rfl, Nat.le_of_ble_eq_true rfl⟩) hw hA ⟨by decide, by decide⟩ (fun ws H locs hp_v_17 hw hF9 => ?_)
      have m_u_14 := FLD.over hF9 m_u_14 (by decide)
      have m_u_15 := FLD.over hF9 m_u_15 (by decide)
      have x_MLT_p0_2 := AXC.over hF9 x_MLT_p0_2 (by decide)
      obtain ⟨hfn, hp_v_17⟩ := hp_v_17
      have o_p0 := OV.over (V := vw_POST) hF9 o_p0 (by decide)
      obtain ⟨sg_18, q_sg_18⟩ : ∃ q9 : OS, (f_X7_refuse__4 (3 : Int32) s1) = q9 := ⟨_, rfl⟩
      have o_p1 : OV vw_TAPE Ps ws p1 sg_18 := by rw [← q_sg_18]; exact hfn.1
      obtain ⟨v_19, m_v_19, r_v_19⟩ := (hp_v_17.1)
      simp only [f_X3_tellName__4, ↓reduceIte, q_vu_14, eq_true c_5, q_vu_15, q_v_16, eq_false c_24, q_sg_18] at hE
      exact B32 s0 sg_18 ws _ _ ls r_p2 x_MLT_p0_2 o_p0 o_p1 hE hw hl
  · refine lv_aload_n hx hb dX3_tellName_8 rfl (lv_at hl 1 rfl) ?_
    refine lv_iconst (v := 1) hx hb dX3_tellName_9 (by decide) ?_
    refine tk_v (va_runV (As := [.int 1]) (rest := []) ⟨hx, hb, hml, hown, hts⟩ (c_X7_refuse__4 l D cy z s.heap.size Ps w0 hw.1 p1 1 s1 h_p1 (rl_1.to (by decide)) o_p1) (cwV 1 hts (gV tw_450 tw_443 tw_444 tw_2 tw_445) rfl rfl rfl (by decide +kernel) ⟨Nat.le_of_ble_eq_true rfl, Nat.le_of_ble_eq_true rfl⟩) (tg_preV hw hK hSD hA (ci := 7) (q := (RX7, TX7, 12)) rfl h_p1 rfl) rfl rfl hl.1 rfl (lv_room (Nat.le_of_ble_eq_true rfl)) dX3_tellName_10 ⟨Nat.le_of_ble_eq_true rfl, Nat.le_of_ble_eq_true rfl⟩) hw hA ⟨by decide, by decide⟩ (fun ws H locs hp_v_20 hw hF9 => ?_)
    have m_u_14 := FLD.over hF9 m_u_14 (by decide)
    have x_MLT_p0_2 := AXC.over hF9 x_MLT_p0_2 (by decide)
    obtain ⟨hfn, hp_v_20⟩ := hp_v_20
    have o_p0 := OV.over (V := vw_POST) hF9 o_p0 (by decide)
    obtain ⟨sg_21, q_sg_21⟩ : ∃ q9 : OS, (f_X7_refuse__4 (1 : Int32) s1) = q9 := ⟨_, rfl⟩
    have o_p1 : OV vw_TAPE Ps ws p1 sg_21 := by rw [← q_sg_21]; exact hfn.1
    obtain ⟨v_22, m_v_22, r_v_22⟩ := (hp_v_20.1)
    refine lv_goto (tgt := 32) hx hb dX3_tellName_13 (by decide) ?_
    simp only [f_X3_tellName__4, ↓reduceIte, q_vu_14, eq_false c_5, q_sg_21] at hE
    exact B32 s0 sg_21 ws _ _ ls r_p2 x_MLT_p0_2 o_p0 o_p1 hE hw hl
abbrev wr_X3_numberOf__6 : List (Nat × Nat) := []
abbrev wa_X3_numberOf__6 : List Nat := []
set_option maxHeartbeats 4000000 in
set_option maxRecDepth 100000 in
theorem c_X3_numberOf__6 (l : Launch) (D : va_G) (cy : Nat → ClassId) (z : Nat → Nat) (sz : Nat) (Ps : PSI) (w0 : va_W) (hT : HT cy GG Ps w0) (p0 : Nat) (p1 : Int64) (p2 : Int32) (s0 : OS) (h_p0 : (p0, 25) ∈ Ps) (r_p1 : RJ p1 (-9223372036854775808) 9223372036854775807) (r_p2 : RI p2 1 1) (o_p0 : OV vw_POST Ps w0 p0 s0) : Met l yX3_numberOf (Cond.code yX3_numberOf cX3_numberOf 5 (some .int) :: gT) ({ frames := 0, cells := 0, slots := 0, locals := 200 } : Room) (va_Pc [.ref p0, .long p1, .int p2] (PRE D cy z w0 sz)) (va_Qi (fun (r : Int32) (u : Unit) => ((f_X3_numberOf__5 p1 p2 s0) = r ∧ True) ∧ (RI r (-1) 3 ∧ (r = 0 → True) ∧ (¬ r = 0 → True))) (BB D cy (va_A w0 sz) (fun (u : Unit) => w0)) (va_A w0 sz)) 0 0 (va_A w0 sz) := by
  refine Met.ofW (cc := cX3_numberOf) (maxL := 5) (ret := (some .int)) (by decide) rfl ?_
  intro p e s m args below meth c s₁ B hml hv
  obtain ⟨rfl, hsz, hP, hK, hD0, hSD⟩ := hv
  have hx := B.exec
  have hb := B.bytes
  have hr := B.returns
  have hlocks := B.notSynchronized
  have hts : ∀ w ∈ gT, w.before _ s = true := fun w h => atoms_spec (ws := Cond.code yX3_numberOf cX3_numberOf 5 (some .int) :: gT) B.pre w (List.mem_cons_of_mem _ h)
  have hown : s.vm.findClass RX3 = some m.cls := findClass_of_methodNamed B.named
  subst hsz
  have hD := hD0.self (sz := s.heap.size)
  generalize hAe : va_A w0 s.heap.size = A at hD hSD ⊢
  have hA : ∀ q : Nat, s.heap.size ≤ q → A q := fun q h => by rw [← hAe]; exact Or.inr h
  have hl := lv_entry ([.ref p0, .long p1, .int p2]) (n := 5) (Nat.le_of_ble_eq_true rfl)
  rw [lg_entry_eq]
  generalize (lg_sl ([.ref p0, .long p1, .int p2]) ++ List.replicate (5 - (lg_sl ([.ref p0, .long p1, .int p2])).length) Slot.unset).toArray = ls at hl ⊢
  have hl : lv_has ls 5 [(0, .ref p0), (1, .long p1), (3, .int p2)] := hl
  refine nameQ (fun Q hQ => ?_)
  have hw : WD D cy GG A s wr_X3_numberOf__6 wa_X3_numberOf__6 Ps w0 Ps w0 s.heap [] := ⟨hT, hP, hD, va_S.rf, FR.rf, hT.1, [], (List.append_nil _).symm⟩
  obtain ⟨R9, hR⟩ : ∃ q9 : Int32, f_X3_numberOf__5 p1 p2 s0 = q9 := ⟨_, rfl⟩
  have hE := hR
  have B3 : ∀ (nf : Nat) (x4 : Int32) (s0 : OS) (H : Heap) (locs : List Loc) (ls : Array Slot), 4 - x4.toInt < (nf : Int) → RJ p1 (-9223372036854775808) 9223372036854775807 → RI p2 1 1 → RI x4 0 4 → OV vw_POST Ps w0 p0 s0 → f_X3_numberOf__5_3 p1 p2 nf x4 s0 = R9 → WD D cy GG A s wr_X3_numberOf__6 wa_X3_numberOf__6 Ps w0 Ps w0 H locs → lv_has ls 5 [(0, .ref p0), (1, .long p1), (3, .int p2), (4, .int x4)] → W p l e (headSpec (Cond.code yX3_numberOf cX3_numberOf 5 (some .int) :: gT) ({ frames := 0, cells := 0, slots := 0, locals := 200 } : Room)).room s m ([.ref p0, .long p1, .int p2] : List Value).toArray below meth c H locs 0 0 Q (F0 m 3 ls []) := by
    intro nf3
    induction nf3 with
    | zero =>
      intro x4 s0 H locs ls hn3 r_p1 r_p2 r_x4 o_p0 hE hw hl
      exact absurd hn3 (by have q0 := r_x4.1; have u0 := r_x4.2; omega)
    | succ nf3 ih3 =>
      intro x4 s0 H locs ls hn3 r_p1 r_p2 r_x4 o_p0 hE hw hl
      refine lv_iload hx hb dX3_numberOf_3 (lv_at hl 3 rfl) ?_
      refine lv_aload_n hx hb dX3_numberOf_5 rfl (lv_at hl 0 rfl) ?_
      refine tg_get (ci := 3) (ts := ty_POST) (C := RX3) (T := TX3) (N := 9) hx hb hts inX3 hown hK hw h_p0 rfl rfl 1 (by decide) (hts _ tw_201) (fun _ h9 => h9) (ft := vR 4) rfl dX3_numberOf_6 (fun u_1 hv_u_1 m_u_1 => ?_)
      obtain ⟨vu_1, rfl, h_vu_1⟩ := hv_u_1
      refine lv_iload_n hx hb dX3_numberOf_9 rfl (lv_at hl 2 rfl) ?_
      refine tg_iald (lo := 0) (hi := 4) hx hb hK hw h_vu_1 rfl 1 1 r_p2 (by decide) (by decide +kernel) dX3_numberOf_10 (fun v_2 r_v_2 m_v_2 o_v_2 => ?_)
      have q_v_2 : s0.2.2.1 1 (Int32.toNatClampNeg p2) = v_2 := OV.eqA (V := vw_POST) (t := 4) hw.2.2.1 o_p0 m_u_1 m_v_2 (by decide)
      refine lv_icmp_ge (tgt := 40) hx hb dX3_numberOf_11 (by decide) (fun c_11 => ?_) (fun c_11 => ?_)
      · refine lv_iconst (v := (-1)) hx hb dX3_numberOf_40 (by decide) ?_
        simp only [f_X3_numberOf__5_3, ↓reduceIte, q_v_2, eq_true c_11] at hE
        subst hQ
        exact W.iret (v := (-1)) hx hb hr (fun t ht hW => ⟨⟨(-1), (), rfl, ⟨⟨(by rw [hR, ← hE]), trivial⟩, rl_m1.to (by decide), (fun _ => trivial), (fun h0 => trivial)⟩, by rw [ht]; exact hw.2.1, va_K.moved hW.alike hK, hw.2.2.1⟩, hw.2.2.2.1.F ht⟩) hw.2.2.2.1.2.2 dX3_numberOf_41
      · have r_x4 : RI x4 0 3 := rc_lt1 r_x4 r_v_2 (ti_nle c_11) (by decide)
        have r_v_2 : RI v_2 1 4 := rc_lt2 r_x4 r_v_2 (ti_nle c_11) (by decide)
        refine lv_aload_n hx hb dX3_numberOf_14 rfl (lv_at hl 0 rfl) ?_
        refine tg_get (ci := 3) (ts := ty_POST) (C := RX3) (T := TX3) (N := 9) hx hb hts inX3 hown hK hw h_p0 rfl rfl 0 (by decide) (hts _ tw_200) (fun _ h9 => h9) (ft := vR 1) rfl dX3_numberOf_15 (fun u_3 hv_u_3 m_u_3 => ?_)
        obtain ⟨vu_3, rfl, h_vu_3⟩ := hv_u_3
        refine lv_iload_n hx hb dX3_numberOf_18 rfl (lv_at hl 2 rfl) ?_
        refine lv_bipush (v := 8) hx hb dX3_numberOf_19 (by decide) ?_
        refine lv_imul hx hb dX3_numberOf_21 (lv_topi (fun v_4 e_v_4 => ?_))
        obtain ⟨t_v_4, r_v_4⟩ := tq_mul (lo := 8) (hi := 8) r_p2 rl_8 (by decide +kernel) e_v_4
        have t_v_4 : v_4.toInt = p2.toInt * 8 := t_v_4
        have q_v_4 : p2 * (8 : Int32) = v_4 := e_v_4.symm
        refine lv_iload hx hb dX3_numberOf_22 (lv_at hl 3 rfl) ?_
        refine lv_iadd hx hb dX3_numberOf_24 (lv_topi (fun v_5 e_v_5 => ?_))
        obtain ⟨t_v_5, r_v_5⟩ := tq_add (lo := 8) (hi := 11) r_v_4 r_x4 (by decide +kernel) e_v_5
        have q_v_5 : v_4 + x4 = v_5 := e_v_5.symm
        refine tg_laldE hx hb hK hw h_vu_3 rfl r_v_5 (by decide) dX3_numberOf_25 (fun w_6 r_w_6 l_w_6 => ?_)
        have q_w_6 : s0.2.2.2 0 (Int32.toNatClampNeg v_5) = w_6 := OV.eqB (V := vw_POST) (t := 1) hw.2.2.1 o_p0 m_u_3 l_w_6 (by decide)
        refine lv_lload_n hx hb dX3_numberOf_26 rfl (lv_at hl 1 rfl) ?_
        refine W.lcmp hx hb dX3_numberOf_27 (lv_topi (fun v_7 e_v_7 => ?_))
        have r_v_7 := ri_any v_7
        have q_v_7 : lg_cmp w_6 p1 = v_7 := e_v_7.symm
        refine lv_if_ne (tgt := 34) hx hb dX3_numberOf_28 (by decide) (fun c_28 => ?_) (fun c_28 => ?_)
        · obtain ⟨v_8, e_v_8⟩ : ∃ q9 : Int32, q9 = x4 + Int32.ofInt 1 := ⟨_, rfl⟩
          obtain ⟨t_v_8, r_v_8⟩ := tq_add (lo := 1) (hi := 4) r_x4 (show RI (Int32.ofInt 1) 1 1 by unfold RI; decide +kernel) (by decide +kernel) e_v_8
          have t_v_8 : v_8.toInt = x4.toInt + 1 := t_v_8
          refine lv_iinc (v := v_8) (lv' := [(4, .int v_8), (0, .ref p0), (1, .long p1), (3, .int p2)]) hx hb dX3_numberOf_34 hl (k := 3) rfl e_v_8.symm (by decide) rfl (fun ls hl => ?_)
          have q_v_8 : x4 + (1 : Int32) = v_8 := by rw [e_v_8, show Int32.ofInt 1 = (1 : Int32) by decide]
          refine lv_goto (tgt := 3) hx hb dX3_numberOf_37 (by decide) ?_
          simp only [f_X3_numberOf__5_3, ↓reduceIte, q_v_2, eq_false c_11, q_v_4, q_v_5, q_w_6, q_v_7, eq_false c_28, q_v_8] at hE
          exact ih3 v_8 s0 _ _ ls (by have q0 := r_v_8.1; have u0 := r_v_8.2; have o0 := r_x4.1; have p0 := r_x4.2; omega) r_p1 r_p2 (r_v_8.to (by decide)) o_p0 hE hw (lv_sub hl [1, 2, 3, 0] rfl)
        · have r_v_7 : RI v_7 0 0 := rc_eq1 r_v_7 rl_0 (ti_eq c_28) (by decide)
          refine lv_iload hx hb dX3_numberOf_31 (lv_at hl 3 rfl) ?_
          simp only [f_X3_numberOf__5_3, ↓reduceIte, q_v_2, eq_false c_11, q_v_4, q_v_5, q_w_6, q_v_7, eq_true c_28] at hE
          subst hQ
          exact W.iret (v := x4) hx hb hr (fun t ht hW => ⟨⟨x4, (), rfl, ⟨⟨(by rw [hR, ← hE]), trivial⟩, r_x4.to (by decide), (fun h0 => trivial), (fun h0 => trivial)⟩, by rw [ht]; exact hw.2.1, va_K.moved hW.alike hK, hw.2.2.1⟩, hw.2.2.2.1.F ht⟩) hw.2.2.2.1.2.2 dX3_numberOf_33
  refine lv_iconst (v := 0) hx hb dX3_numberOf_0 (by decide) ?_
  refine lv_istore (lv' := [(4, .int 0), (0, .ref p0), (1, .long p1), (3, .int p2)]) hx hb dX3_numberOf_1 hl (by decide) rfl (fun ls hl => ?_)
  simp only [f_X3_numberOf__5, ↓reduceIte] at hE
  exact B3 4294967298 0 s0 _ _ ls (by have q0 := rl_0.1; have u0 := rl_0.2; omega) r_p1 r_p2 (rl_0.to (by decide)) o_p0 hE hw (lv_sub hl [1, 2, 3, 0] rfl)
abbrev wr_X7_nameAhead__12 : List (Nat × Nat) := [(7, 10), (7, 11)]
abbrev wa_X7_nameAhead__12 : List Nat := []
set_option maxHeartbeats 4000000 in
set_option maxRecDepth 100000 in
theorem c_X7_nameAhead__12 (l : Launch) (D : va_G) (cy : Nat → ClassId) (z : Nat → Nat) (sz : Nat) (Ps : PSI) (w0 : va_W) (hT : HT cy GG Ps w0) (p0 : Nat) (p1 : Nat) (p2 : Int32) (f0_10 : Int32) (s0 : OS) (s1 : OS) (h_p0 : (p0, 26) ∈ Ps) (h_p1 : (p1, 25) ∈ Ps) (r_p2 : RI p2 1 1) (r_f0_10 : RI f0_10 0 0) (m_f0_10 : FLD w0 p0 7 10 (.int f0_10)) (o_p0 : OV vw_TAPE Ps w0 p0 s0) (o_p1 : OV vw_POST Ps w0 p1 s1) : Met l yX7_nameAhead (Cond.code yX7_nameAhead cX7_nameAhead 4 (some .int) :: gT) ({ frames := 2, cells := 0, slots := 0, locals := 400 } : Room) (va_Pc [.ref p0, .ref p1, .int p2] (PRE D cy z w0 sz)) (va_Qi (fun (r : Int32) (u : va_W) => ((OV vw_TAPE Ps u p0 ((f_X7_nameAhead__12 p2 s0 s1).1) ∧ OV vw_POST Ps u p1 ((f_X7_nameAhead__12 p2 s0 s1).2.1) ∧ (f_X7_nameAhead__12 p2 s0 s1).2.2 = r ∧ True) ∧ (RI r (-1) 3 ∧ (r = 0 → True) ∧ (¬ r = 0 → True) ∧ (True) ∧ (r.toInt < 0 → FLTp u p0 ∧ True) ∧ (0 ≤ r.toInt → True))) ∧ HT cy GG Ps u ∧ FR wr_X7_nameAhead__12 wa_X7_nameAhead__12 Ps w0 u) (BB D cy (va_A w0 sz) (fun (u : va_W) => u)) (va_A w0 sz)) 0 0 (va_A w0 sz) := by
  refine Met.ofW (cc := cX7_nameAhead) (maxL := 4) (ret := (some .int)) (by decide) rfl ?_
  intro p e s m args below meth c s₁ B hml hv
  obtain ⟨rfl, hsz, hP, hK, hD0, hSD⟩ := hv
  have hx := B.exec
  have hb := B.bytes
  have hr := B.returns
  have hlocks := B.notSynchronized
  have hts : ∀ w ∈ gT, w.before _ s = true := fun w h => atoms_spec (ws := Cond.code yX7_nameAhead cX7_nameAhead 4 (some .int) :: gT) B.pre w (List.mem_cons_of_mem _ h)
  have hown : s.vm.findClass RX7 = some m.cls := findClass_of_methodNamed B.named
  subst hsz
  have hD := hD0.self (sz := s.heap.size)
  generalize hAe : va_A w0 s.heap.size = A at hD hSD ⊢
  have hA : ∀ q : Nat, s.heap.size ≤ q → A q := fun q h => by rw [← hAe]; exact Or.inr h
  have hl := lv_entry ([.ref p0, .ref p1, .int p2]) (n := 4) (Nat.le_of_ble_eq_true rfl)
  rw [lg_entry_eq]
  generalize (lg_sl ([.ref p0, .ref p1, .int p2]) ++ List.replicate (4 - (lg_sl ([.ref p0, .ref p1, .int p2])).length) Slot.unset).toArray = ls at hl ⊢
  have hl : lv_has ls 4 [(0, .ref p0), (1, .ref p1), (2, .int p2)] := hl
  refine nameQ (fun Q hQ => ?_)
  have hw : WD D cy GG A s wr_X7_nameAhead__12 wa_X7_nameAhead__12 Ps w0 Ps w0 s.heap [] := ⟨hT, hP, hD, va_S.rf, FR.rf, hT.1, [], (List.append_nil _).symm⟩
  obtain ⟨R9, hR⟩ : ∃ q9 : OS × OS × Int32, f_X7_nameAhead__12 p2 s0 s1 = q9 := ⟨_, rfl⟩
  have hE := hR
  refine lv_aload_n hx hb dX7_nameAhead_0 rfl (lv_at hl 0 rfl) ?_
  refine tg_get (ci := 7) (ts := ty_TAPE) (C := RX7) (T := TX7) (N := 12) hx hb hts inX7 hown hK hw h_p0 rfl rfl 7 (by decide) (hts _ tw_98) (fun _ h9 => h9) (ft := vI (-2147483648) 2147483647) rfl dX7_nameAhead_1 (fun u_1 hv_u_1 m_u_1 => ?_)
  obtain ⟨vu_1, rfl, r_vu_1⟩ := hv_u_1
  have q_vu_1 : s0.1 7 = vu_1 := OV.eqI (V := vw_TAPE) hw.2.2.1 o_p0 m_u_1 (by decide)
  refine lv_iconst (v := 2) hx hb dX7_nameAhead_4 (by decide) ?_
  refine lv_icmp_eq (tgt := 15) hx hb dX7_nameAhead_5 (by decide) (fun c_5 => ?_) (fun c_5 => ?_)
  · have r_vu_1 : RI vu_1 2 2 := rc_eq1 r_vu_1 rl_2 (ti_eq c_5) (by decide)
    refine lv_aload_n hx hb dX7_nameAhead_15 rfl (lv_at hl 1 rfl) ?_
    refine lv_aload_n hx hb dX7_nameAhead_16 rfl (lv_at hl 0 rfl) ?_
    refine tg_get (ci := 7) (ts := ty_TAPE) (C := RX7) (T := TX7) (N := 12) hx hb hts inX7 hown hK hw h_p0 rfl rfl 8 (by decide) (hts _ tw_100) (fun _ h9 => h9) (ft := vJ (-9223372036854775808) 9223372036854775807) rfl dX7_nameAhead_17 (fun u_2 hv_u_2 m_u_2 => ?_)
    obtain ⟨vu_2, rfl, r_vu_2⟩ := hv_u_2
    have q_vu_2 : s0.2.1 8 = vu_2 := OV.eqL (V := vw_TAPE) hw.2.2.1 o_p0 m_u_2 (by decide)
    refine lv_iload_n hx hb dX7_nameAhead_20 rfl (lv_at hl 2 rfl) ?_
    refine tk_ir (va_runV (As := [.long vu_2, .int p2]) (rest := []) ⟨hx, hb, hml, hown, hts⟩ (c_X3_numberOf__6 l D cy z s.heap.size Ps w0 hw.1 p1 vu_2 p2 s1 h_p1 r_vu_2 r_p2 o_p1) (cwV 2 hts (gV tw_460 tw_461 tw_462 tw_11 tw_463) rfl rfl rfl (by decide +kernel) ⟨Nat.le_of_ble_eq_true rfl, Nat.le_of_ble_eq_true rfl⟩) (tg_preV hw hK hSD hA (ci := 3) (q := (RX3, TX3, 9)) rfl h_p1 rfl) rfl rfl hl.1 rfl (lv_room (Nat.le_of_ble_eq_true rfl)) dX7_nameAhead_21 ⟨Nat.le_of_ble_eq_true rfl, Nat.le_of_ble_eq_true rfl⟩) hw hA (fun v_3  H locs hp_v_3 hw => ?_)
    obtain ⟨hfn, hp_v_3⟩ := hp_v_3
    have q_v_3 : (f_X3_numberOf__5 vu_2 p2 s1) = v_3 := hfn.1
    have r_v_3 : RI v_3 (-1) 3 := hp_v_3.1
    refine lv_istore_n (lv' := [(3, .int v_3), (0, .ref p0), (1, .ref p1), (2, .int p2)]) hx hb dX7_nameAhead_24 rfl hl (by decide) rfl (fun ls hl => ?_)
    refine lv_iload_n hx hb dX7_nameAhead_25 rfl (lv_at hl 0 rfl) ?_
    refine lv_iconst (v := (-1)) hx hb dX7_nameAhead_26 (by decide) ?_
    refine lv_icmp_ne (tgt := 35) hx hb dX7_nameAhead_27 (by decide) (fun c_27 => ?_) (fun c_27 => ?_)
    · have r_v_3 : RI v_3 0 3 := rc_neL r_v_3 rl_m1 (ti_ne c_27) (by decide)
      refine lv_aload_n hx hb dX7_nameAhead_35 rfl (lv_at hl 1 rfl) ?_
      refine tg_mem (ci := 7) (C := RX7) (T := TX7) (N := 12) hx hb hts inX7 hown hK hw 10 m_f0_10 rfl (by decide) (hts _ tw_104) (fun _ h9 => h9) dX7_nameAhead_36 ?_
      have q_f0_10 : s0.1 10 = f0_10 := OV.eqI (V := vw_TAPE) hw.2.2.1 o_p0 m_f0_10 (by decide)
      refine lv_if_ne (tgt := 46) hx hb dX7_nameAhead_39 (by decide) (fun c_39 => ?_) (fun c_39 => ?_)
      · exact absurd (r_f0_10.eq.trans rl_0.eq.symm) ((ti_ne c_39))
      · refine lv_iload_n hx hb dX7_nameAhead_42 rfl (lv_at hl 0 rfl) ?_
        refine lv_goto (tgt := 47) hx hb dX7_nameAhead_43 (by decide) ?_
        simp only [f_X7_nameAhead__12, ↓reduceIte, q_vu_1, eq_true c_5, q_vu_2, q_v_3, eq_false c_27, q_f0_10, eq_true c_39] at hE
        subst hQ
        exact W.iret (v := v_3) hx hb hr (fun t ht hW => ⟨⟨v_3, w0, rfl, ⟨⟨⟨(by rw [hR, ← hE]; exact o_p0), (by rw [hR, ← hE]; exact o_p1), (by rw [hR, ← hE]), trivial⟩, r_v_3.to (by decide), (fun h0 => trivial), (fun h0 => trivial), trivial, (fun h0 => absurd h0 (by have h8 := r_v_3; unfold RI at h8; omega)), (fun _ => trivial)⟩, hw.1, hw.2.2.2.2.1⟩, by rw [ht]; exact hw.2.1, va_K.moved hW.alike hK, hw.2.2.1⟩, hw.2.2.2.1.F ht⟩) hw.2.2.2.1.2.2 dX7_nameAhead_47
    · have r_v_3 : RI v_3 (-1) (-1) := rc_eq1 r_v_3 rl_m1 (ti_eq c_27) (by decide)
      refine lv_aload_n hx hb dX7_nameAhead_30 rfl (lv_at hl 1 rfl) ?_
      refine lv_iconst (v := 3) hx hb dX7_nameAhead_31 (by decide) ?_
      refine tk_v (va_runV (As := [.int 3]) (rest := []) ⟨hx, hb, hml, hown, hts⟩ (c_X7_refuse__5 l D cy z H.size Ps w0 hw.1 p0 3 f0_10 s0 h_p0 (rl_3.to (by decide)) r_f0_10 m_f0_10 o_p0) (cwV 1 hts (gV tw_442 tw_443 tw_444 tw_2 tw_445) rfl rfl rfl (by decide +kernel) ⟨Nat.le_of_ble_eq_true rfl, Nat.le_of_ble_eq_true rfl⟩) (tg_preV hw hK hSD hA (ci := 7) (q := (RX7, TX7, 12)) rfl h_p0 rfl) rfl rfl hl.1 rfl (lv_room (Nat.le_of_ble_eq_true rfl)) dX7_nameAhead_32 ⟨Nat.le_of_ble_eq_true rfl, Nat.le_of_ble_eq_true rfl⟩) hw hA ⟨by decide, by decide⟩ (fun ws H locs hp_v_4 hw hF9 => ?_)
      have m_u_1 := FLD.over hF9 m_u_1 (by decide)
      have m_u_2 := FLD.over hF9 m_u_2 (by decide)
      obtain ⟨hfn, hp_v_4⟩ := hp_v_4
      have o_p1 := OV.over (V := vw_POST) hF9 o_p1 (by decide)
      obtain ⟨sg_5, q_sg_5⟩ : ∃ q9 : OS, (f_X7_refuse__5 (3 : Int32) s0) = q9 := ⟨_, rfl⟩
      have o_p0 : OV vw_TAPE Ps ws p0 sg_5 := by rw [← q_sg_5]; exact hfn.1
      obtain ⟨v_6, m_v_6, r_v_6⟩ := (hp_v_4.1)
      refine lv_aload_n hx hb dX7_nameAhead_35 rfl (lv_at hl 1 rfl) ?_
      refine tg_mem (ci := 7) (C := RX7) (T := TX7) (N := 12) hx hb hts inX7 hown hK hw 10 m_v_6 rfl (by decide) (hts _ tw_104) (fun _ h9 => h9) dX7_nameAhead_36 ?_
      have q_v_6 : sg_5.1 10 = v_6 := OV.eqI (V := vw_TAPE) hw.2.2.1 o_p0 m_v_6 (by decide)
      refine lv_if_ne (tgt := 46) hx hb dX7_nameAhead_39 (by decide) (fun c_39 => ?_) (fun c_39 => ?_)
      · refine lv_iconst (v := (-1)) hx hb dX7_nameAhead_46 (by decide) ?_
        simp only [f_X7_nameAhead__12, ↓reduceIte, q_vu_1, eq_true c_5, q_vu_2, q_v_3, eq_true c_27, q_sg_5, q_v_6, eq_false c_39] at hE
        subst hQ
        have x_FLT_p0 : FLTp ws p0 := ⟨_, m_v_6, r_v_6.to (by decide)⟩
        exact W.iret (v := (-1)) hx hb hr (fun t ht hW => ⟨⟨(-1), ws, rfl, ⟨⟨⟨(by rw [hR, ← hE]; exact o_p0), (by rw [hR, ← hE]; exact o_p1), (by rw [hR, ← hE]), trivial⟩, rl_m1.to (by decide), (fun _ => trivial), (fun h0 => trivial), trivial, (fun h0 => ⟨x_FLT_p0, trivial⟩), (fun _ => trivial)⟩, hw.1, hw.2.2.2.2.1⟩, by rw [ht]; exact hw.2.1, va_K.moved hW.alike hK, hw.2.2.1⟩, hw.2.2.2.1.F ht⟩) hw.2.2.2.1.2.2 dX7_nameAhead_47
      · have r_v_6 : RI v_6 1 0 := rc_eq1 r_v_6 rl_0 (ti_eq c_39) (by decide)
        exact (r_v_6.no (by decide)).elim
  · refine lv_aload_n hx hb dX7_nameAhead_8 rfl (lv_at hl 0 rfl) ?_
    refine lv_iconst (v := 1) hx hb dX7_nameAhead_9 (by decide) ?_
    refine tk_v (va_runV (As := [.int 1]) (rest := []) ⟨hx, hb, hml, hown, hts⟩ (c_X7_refuse__5 l D cy z s.heap.size Ps w0 hw.1 p0 1 f0_10 s0 h_p0 (rl_1.to (by decide)) r_f0_10 m_f0_10 o_p0) (cwV 1 hts (gV tw_442 tw_443 tw_444 tw_2 tw_445) rfl rfl rfl (by decide +kernel) ⟨Nat.le_of_ble_eq_true rfl, Nat.le_of_ble_eq_true rfl⟩) (tg_preV hw hK hSD hA (ci := 7) (q := (RX7, TX7, 12)) rfl h_p0 rfl) rfl rfl hl.1 rfl (lv_room (Nat.le_of_ble_eq_true rfl)) dX7_nameAhead_10 ⟨Nat.le_of_ble_eq_true rfl, Nat.le_of_ble_eq_true rfl⟩) hw hA ⟨by decide, by decide⟩ (fun ws H locs hp_v_7 hw hF9 => ?_)
    have m_u_1 := FLD.over hF9 m_u_1 (by decide)
    obtain ⟨hfn, hp_v_7⟩ := hp_v_7
    have o_p1 := OV.over (V := vw_POST) hF9 o_p1 (by decide)
    obtain ⟨sg_8, q_sg_8⟩ : ∃ q9 : OS, (f_X7_refuse__5 (1 : Int32) s0) = q9 := ⟨_, rfl⟩
    have o_p0 : OV vw_TAPE Ps ws p0 sg_8 := by rw [← q_sg_8]; exact hfn.1
    obtain ⟨v_9, m_v_9, r_v_9⟩ := (hp_v_7.1)
    refine lv_iconst (v := (-1)) hx hb dX7_nameAhead_13 (by decide) ?_
    simp only [f_X7_nameAhead__12, ↓reduceIte, q_vu_1, eq_false c_5, q_sg_8] at hE
    subst hQ
    have x_FLT_p0 : FLTp ws p0 := ⟨_, m_v_9, r_v_9.to (by decide)⟩
    exact W.iret (v := (-1)) hx hb hr (fun t ht hW => ⟨⟨(-1), ws, rfl, ⟨⟨⟨(by rw [hR, ← hE]; exact o_p0), (by rw [hR, ← hE]; exact o_p1), (by rw [hR, ← hE]), trivial⟩, rl_m1.to (by decide), (fun _ => trivial), (fun h0 => trivial), trivial, (fun h0 => ⟨x_FLT_p0, trivial⟩), (fun _ => trivial)⟩, hw.1, hw.2.2.2.2.1⟩, by rw [ht]; exact hw.2.1, va_K.moved hW.alike hK, hw.2.2.1⟩, hw.2.2.2.1.F ht⟩) hw.2.2.2.1.2.2 dX7_nameAhead_14
