/-! what the reference holds of the post: the first 84 places of now -/
def HDp (R f : Nat → Int32) : Prop := ∀ j, j < 84 → f j = R j
theorem HDp.upd {R f : Nat → Int32} {j : Nat} {v : Int32} (h : HDp R f) (hj : 84 ≤ j) : HDp R (upd f j v) := fun k hk => by
  rw [pk_un (show k ≠ j by omega)]
  exact h k hk
abbrev wr_X10_takeBack__1 : List (Nat × Nat) := []
abbrev wa_X10_takeBack__1 : List Nat := [34]
set_option maxHeartbeats 4000000 in
set_option maxRecDepth 100000 in
theorem c_X10_takeBack__1 (l : Launch) (D : va_G) (cy : Nat → ClassId) (z : Nat → Nat) (sz : Nat) (Ps : PSI) (w0 : va_W) (hT : HT cy GG Ps w0) (p0 : Nat) (gdR : Nat → Int32) (h_p0 : (p0, 55) ∈ Ps) (x_HD_p0_gdR : AX 14 34 (HDp gdR) Ps w0 p0) : Met l yX10_takeBack (Cond.code yX10_takeBack cX10_takeBack 2 none :: gT) ({ frames := 0, cells := 0, slots := 0, locals := 200 } : Room) (va_Pc [.ref p0] (PRE D cy z w0 sz)) (va_Qv (fun (u : va_W) => ((AX 14 34 (HDp gdR) Ps u p0) ∧ (True)) ∧ HT cy GG Ps u ∧ FR wr_X10_takeBack__1 wa_X10_takeBack__1 Ps w0 u) (BB D cy (va_A w0 sz) (fun (u : va_W) => u)) (va_A w0 sz)) 0 0 (va_A w0 sz) := by
  refine Met.ofW (cc := cX10_takeBack) (maxL := 2) (ret := none) (by decide) rfl ?_
  intro p e s m args below meth c s₁ B hml hv
  obtain ⟨rfl, hsz, hP, hK, hD0, hSD⟩ := hv
  have hx := B.exec
  have hb := B.bytes
  have hr := B.returns
  have hlocks := B.notSynchronized
  have hts : ∀ w ∈ gT, w.before _ s = true := fun w h => atoms_spec (ws := Cond.code yX10_takeBack cX10_takeBack 2 none :: gT) B.pre w (List.mem_cons_of_mem _ h)
  have hown : s.vm.findClass RX10 = some m.cls := findClass_of_methodNamed B.named
  subst hsz
  have hD := hD0.self (sz := s.heap.size)
  generalize hAe : va_A w0 s.heap.size = A at hD hSD ⊢
  have hA : ∀ q : Nat, s.heap.size ≤ q → A q := fun q h => by rw [← hAe]; exact Or.inr h
  have hl := lv_entry ([.ref p0]) (n := 2) (Nat.le_of_ble_eq_true rfl)
  rw [lg_entry_eq]
  generalize (lg_sl ([.ref p0]) ++ List.replicate (2 - (lg_sl ([.ref p0])).length) Slot.unset).toArray = ls at hl ⊢
  have hl : lv_has ls 2 [(0, .ref p0)] := hl
  refine nameQ (fun Q hQ => ?_)
  have hw : WD D cy GG A s wr_X10_takeBack__1 wa_X10_takeBack__1 Ps w0 Ps w0 s.heap [] := ⟨hT, hP, hD, va_S.rf, FR.rf, hT.1, [], (List.append_nil _).symm⟩
  have B2 : ∀ (nf : Nat) (x1 : Int32) (ws : va_W) (H : Heap) (locs : List Loc) (ls : Array Slot), 88 - x1.toInt < (nf : Int) → RI x1 0 88 → AX 14 34 (HDp gdR) Ps ws p0 → WD D cy GG A s wr_X10_takeBack__1 wa_X10_takeBack__1 Ps w0 Ps ws H locs → lv_has ls 2 [(0, .ref p0), (1, .int x1)] → W p l e (headSpec (Cond.code yX10_takeBack cX10_takeBack 2 none :: gT) ({ frames := 0, cells := 0, slots := 0, locals := 200 } : Room)).room s m ([.ref p0] : List Value).toArray below meth c H locs 0 0 Q (F0 m 2 ls []) := by
    intro nf2
    induction nf2 with
    | zero =>
      intro x1 ws H locs ls hn2 r_x1 x_HD_p0_gdR hw hl
      exact absurd hn2 (by have q0 := r_x1.1; have u0 := r_x1.2; omega)
    | succ nf2 ih2 =>
      intro x1 ws H locs ls hn2 r_x1 x_HD_p0_gdR hw hl
      refine lv_iload_n hx hb dX10_takeBack_2 rfl (lv_at hl 1 rfl) ?_
      refine lv_bipush (v := 88) hx hb dX10_takeBack_3 (by decide) ?_
      refine lv_icmp_ge (tgt := 29) hx hb dX10_takeBack_5 (by decide) (fun c_5 => ?_) (fun c_5 => ?_)
      · have r_x1 : RI x1 88 88 := rc_le2 rl_88 r_x1 (ti_le c_5) (by decide)
        subst hQ
        exact W.vret hx hb hr (fun t ht hW => ⟨⟨ws, rfl, ⟨⟨x_HD_p0_gdR, trivial⟩, hw.1, hw.2.2.2.2.1⟩, by rw [ht]; exact hw.2.1, va_K.moved hW.alike hK, hw.2.2.1⟩, hw.2.2.2.1.F ht⟩) hw.2.2.2.1.2.2 dX10_takeBack_29
      · have r_x1 : RI x1 0 87 := rc_lt1 r_x1 rl_88 (ti_nle c_5) (by decide)
        refine lv_aload_n hx hb dX10_takeBack_8 rfl (lv_at hl 0 rfl) ?_
        refine tg_get (ci := 10) (ts := ty_MODEL) (C := RX10) (T := TX10) (N := 49) hx hb hts inX10 hown hK hw h_p0 rfl rfl 14 (by decide) (hts _ tw_1151) (fun _ h9 => h9) (ft := vR 34) rfl dX10_takeBack_9 (fun u_1 hv_u_1 m_u_1 => ?_)
        obtain ⟨vu_1, rfl, h_vu_1⟩ := hv_u_1
        refine lv_bipush (v := 84) hx hb dX10_takeBack_12 (by decide) ?_
        refine lv_iload_n hx hb dX10_takeBack_14 rfl (lv_at hl 1 rfl) ?_
        refine lv_iadd hx hb dX10_takeBack_15 (lv_topi (fun v_2 e_v_2 => ?_))
        obtain ⟨t_v_2, r_v_2⟩ := tq_add (lo := 84) (hi := 171) rl_84 r_x1 (by decide +kernel) e_v_2
        have t_v_2 : v_2.toInt = 84 + x1.toInt := t_v_2
        refine lv_aload_n hx hb dX10_takeBack_16 rfl (lv_at hl 0 rfl) ?_
        refine tg_get (ci := 10) (ts := ty_MODEL) (C := RX10) (T := TX10) (N := 49) hx hb hts inX10 hown hK hw h_p0 rfl rfl 18 (by decide) (hts _ tw_1155) (fun _ h9 => h9) (ft := vR 38) rfl dX10_takeBack_17 (fun u_3 hv_u_3 m_u_3 => ?_)
        obtain ⟨vu_3, rfl, h_vu_3⟩ := hv_u_3
        refine lv_iload_n hx hb dX10_takeBack_20 rfl (lv_at hl 1 rfl) ?_
        refine tg_iald (lo := (-2147483648)) (hi := 2147483647) hx hb hK hw h_vu_3 rfl 0 87 r_x1 (by decide) (by decide +kernel) dX10_takeBack_21 (fun v_4 r_v_4 m_v_4 o_v_4 => ?_)
        have hw8 := hw
        have e_5 : 84 + x1.toNatClampNeg = v_2.toNatClampNeg := by have k1 := r_x1.cl (by decide); have k2 := r_v_2.cl (by decide); have b10 := r_x1.1; have b20 := r_x1.2; have b11 := r_v_2.1; have b21 := r_v_2.2; have b12 := r_v_4.1; have b22 := r_v_4.2; omega
        refine tg_iasto hx hb hK hw h_vu_1 rfl 84 171 r_v_2 (by decide) (show RI _ (canon (v_2.toNatClampNeg)).1 (canon (v_2.toNatClampNeg)).2 by rw [← e_5]; exact o_v_4) (RN_upd (by decide) (by decide)) (by decide) dX10_takeBack_22 (fun ws H locs hw hF9 hU9 => ?_)
        have x_HD_p0_gdR : AX 14 34 (HDp gdR) Ps ws p0 := AX.ast hF9 hU9 x_HD_p0_gdR m_u_1 (fun f9 h9 => HDp.upd h9 (by have k1 := r_v_2.cl (by decide); have k2 := r_v_2.1; omega))
        have m_v_4 := AEL.over hw8 hF9 h_vu_3 m_v_4 (by decide)
        have m_u_1 := FLD.over hF9 m_u_1 (by decide)
        have m_u_3 := FLD.over hF9 m_u_3 (by decide)
        obtain ⟨v_6, e_v_6⟩ : ∃ q9 : Int32, q9 = x1 + Int32.ofInt 1 := ⟨_, rfl⟩
        obtain ⟨t_v_6, r_v_6⟩ := tq_add (lo := 1) (hi := 88) r_x1 (show RI (Int32.ofInt 1) 1 1 by unfold RI; decide +kernel) (by decide +kernel) e_v_6
        have t_v_6 : v_6.toInt = x1.toInt + 1 := t_v_6
        refine lv_iinc (v := v_6) (lv' := [(1, .int v_6), (0, .ref p0)]) hx hb dX10_takeBack_23 hl (k := 1) rfl e_v_6.symm (by decide) rfl (fun ls hl => ?_)
        refine lv_goto (tgt := 2) hx hb dX10_takeBack_26 (by decide) ?_
        exact ih2 v_6 ws _ _ ls (by have q0 := r_v_6.1; have u0 := r_v_6.2; have o0 := r_x1.1; have p0 := r_x1.2; omega) (r_v_6.to (by decide)) x_HD_p0_gdR hw (lv_sub hl [1, 0] rfl)
  refine lv_iconst (v := 0) hx hb dX10_takeBack_0 (by decide) ?_
  refine lv_istore_n (lv' := [(1, .int 0), (0, .ref p0)]) hx hb dX10_takeBack_1 rfl hl (by decide) rfl (fun ls hl => ?_)
  exact B2 4294967298 0 w0 _ _ ls (by have q0 := rl_0.1; have u0 := rl_0.2; omega) (rl_0.to (by decide)) x_HD_p0_gdR hw (lv_sub hl [1, 0] rfl)
abbrev wr_X10_stay__1 : List (Nat × Nat) := [(10, 25)]
abbrev wa_X10_stay__1 : List Nat := [34, 37, 38]
set_option maxHeartbeats 4000000 in
set_option maxRecDepth 100000 in
theorem c_X10_stay__1 (l : Launch) (D : va_G) (cy : Nat → ClassId) (z : Nat → Nat) (sz : Nat) (Ps : PSI) (w0 : va_W) (hT : HT cy GG Ps w0) (p0 : Nat) (p1 : Int32) (gdR : Nat → Int32) (h_p0 : (p0, 55) ∈ Ps) (r_p1 : RI p1 (-2147483648) 2147483647) (x_HD_p0_gdR : AX 14 34 (HDp gdR) Ps w0 p0) : Met l yX10_stay (Cond.code yX10_stay cX10_stay 4 none :: gT) ({ frames := 2, cells := 0, slots := 0, locals := 400 } : Room) (va_Pc [.ref p0, .int p1] (PRE D cy z w0 sz)) (va_Qv (fun (u : va_W) => ((AX 14 34 (HDp gdR) Ps u p0) ∧ (True)) ∧ HT cy GG Ps u ∧ FR wr_X10_stay__1 wa_X10_stay__1 Ps w0 u) (BB D cy (va_A w0 sz) (fun (u : va_W) => u)) (va_A w0 sz)) 0 0 (va_A w0 sz) := by
  refine Met.ofW (cc := cX10_stay) (maxL := 4) (ret := none) (by decide) rfl ?_
  intro p e s m args below meth c s₁ B hml hv
  obtain ⟨rfl, hsz, hP, hK, hD0, hSD⟩ := hv
  have hx := B.exec
  have hb := B.bytes
  have hr := B.returns
  have hlocks := B.notSynchronized
  have hts : ∀ w ∈ gT, w.before _ s = true := fun w h => atoms_spec (ws := Cond.code yX10_stay cX10_stay 4 none :: gT) B.pre w (List.mem_cons_of_mem _ h)
  have hown : s.vm.findClass RX10 = some m.cls := findClass_of_methodNamed B.named
  subst hsz
  have hD := hD0.self (sz := s.heap.size)
  generalize hAe : va_A w0 s.heap.size = A at hD hSD ⊢
  have hA : ∀ q : Nat, s.heap.size ≤ q → A q := fun q h => by rw [← hAe]; exact Or.inr h
  have hl := lv_entry ([.ref p0, .int p1]) (n := 4) (Nat.le_of_ble_eq_true rfl)
  rw [lg_entry_eq]
  generalize (lg_sl ([.ref p0, .int p1]) ++ List.replicate (4 - (lg_sl ([.ref p0, .int p1])).length) Slot.unset).toArray = ls at hl ⊢
  have hl : lv_has ls 4 [(0, .ref p0), (1, .int p1)] := hl
  refine nameQ (fun Q hQ => ?_)
  have hw : WD D cy GG A s wr_X10_stay__1 wa_X10_stay__1 Ps w0 Ps w0 s.heap [] := ⟨hT, hP, hD, va_S.rf, FR.rf, hT.1, [], (List.append_nil _).symm⟩
  have B2 : ∀ (nf : Nat) (x2 : Int32) (ws : va_W) (H : Heap) (locs : List Loc) (ls : Array Slot), 88 - x2.toInt < (nf : Int) → RI p1 (-2147483648) 2147483647 → RI x2 0 88 → AX 14 34 (HDp gdR) Ps ws p0 → WD D cy GG A s wr_X10_stay__1 wa_X10_stay__1 Ps w0 Ps ws H locs → lv_has ls 4 [(0, .ref p0), (1, .int p1), (2, .int x2)] → W p l e (headSpec (Cond.code yX10_stay cX10_stay 4 none :: gT) ({ frames := 2, cells := 0, slots := 0, locals := 400 } : Room)).room s m ([.ref p0, .int p1] : List Value).toArray below meth c H locs 0 0 Q (F0 m 2 ls []) := by
    intro nf2
    induction nf2 with
    | zero =>
      intro x2 ws H locs ls hn2 r_p1 r_x2 x_HD_p0_gdR hw hl
      exact absurd hn2 (by have q0 := r_x2.1; have u0 := r_x2.2; omega)
    | succ nf2 ih2 =>
      intro x2 ws H locs ls hn2 r_p1 r_x2 x_HD_p0_gdR hw hl
      refine lv_iload_n hx hb dX10_stay_2 rfl (lv_at hl 2 rfl) ?_
      refine lv_bipush (v := 88) hx hb dX10_stay_3 (by decide) ?_
      refine lv_icmp_ge (tgt := 46) hx hb dX10_stay_5 (by decide) (fun c_5 => ?_) (fun c_5 => ?_)
      · have r_x2 : RI x2 88 88 := rc_le2 rl_88 r_x2 (ti_le c_5) (by decide)
        refine lv_iload_n hx hb dX10_stay_46 rfl (lv_at hl 1 rfl) ?_
        refine lv_if_ne (tgt := 51) hx hb dX10_stay_47 (by decide) (fun c_47 => ?_) (fun c_47 => ?_)
        · refine lv_aload_n hx hb dX10_stay_51 rfl (lv_at hl 0 rfl) ?_
          refine tk_v (va_runV (As := []) (rest := []) ⟨hx, hb, hml, hown, hts⟩ (c_X10_snap l D cy z H.size Ps ws hw.1 p0 h_p0) (cwV 0 hts (gV tw_1505 tw_1507 ts_78 tw_15 tw_1508) rfl rfl rfl (by decide +kernel) ⟨Nat.le_of_ble_eq_true rfl, Nat.le_of_ble_eq_true rfl⟩) (tg_preV hw hK hSD hA (ci := 10) (q := (RX10, TX10, 49)) rfl h_p0 rfl) rfl rfl hl.1 rfl (lv_room (Nat.le_of_ble_eq_true rfl)) dX10_stay_52 ⟨Nat.le_of_ble_eq_true rfl, Nat.le_of_ble_eq_true rfl⟩) hw hA ⟨by decide, by decide⟩ (fun ws H locs hp_v_1 hw hF9 => ?_)
          have x_HD_p0_gdR := AX.over hF9 x_HD_p0_gdR (by decide)
          obtain ⟨v_2, m_v_2, r_v_2⟩ := (hp_v_1.1)
          refine lv_aload_n hx hb dX10_stay_55 rfl (lv_at hl 0 rfl) ?_
          refine tk_v (va_runV (As := []) (rest := []) ⟨hx, hb, hml, hown, hts⟩ (c_X10_takeBack__1 l D cy z H.size Ps ws hw.1 p0 (gdR) h_p0 x_HD_p0_gdR) (cwV 0 hts (gV tw_1587 tw_1589 ts_89 tw_15 tw_1590) rfl rfl rfl (by decide +kernel) ⟨Nat.le_of_ble_eq_true rfl, Nat.le_of_ble_eq_true rfl⟩) (tg_preV hw hK hSD hA (ci := 10) (q := (RX10, TX10, 49)) rfl h_p0 rfl) rfl rfl hl.1 rfl (lv_room (Nat.le_of_ble_eq_true rfl)) dX10_stay_56 ⟨Nat.le_of_ble_eq_true rfl, Nat.le_of_ble_eq_true rfl⟩) hw hA ⟨by decide, by decide⟩ (fun ws H locs hp_v_3 hw hF9 => ?_)
          have m_v_2 := FLD.over hF9 m_v_2 (by decide)
          obtain ⟨x_HD_p0_gdR, hp_v_3⟩ := hp_v_3
          subst hQ
          exact W.vret hx hb hr (fun t ht hW => ⟨⟨ws, rfl, ⟨⟨x_HD_p0_gdR, trivial⟩, hw.1, hw.2.2.2.2.1⟩, by rw [ht]; exact hw.2.1, va_K.moved hW.alike hK, hw.2.2.1⟩, hw.2.2.2.1.F ht⟩) hw.2.2.2.1.2.2 dX10_stay_59
        · have r_p1 : RI p1 0 0 := rc_eq1 r_p1 rl_0 (ti_eq c_47) (by decide)
          subst hQ
          exact W.vret hx hb hr (fun t ht hW => ⟨⟨ws, rfl, ⟨⟨x_HD_p0_gdR, trivial⟩, hw.1, hw.2.2.2.2.1⟩, by rw [ht]; exact hw.2.1, va_K.moved hW.alike hK, hw.2.2.1⟩, hw.2.2.2.1.F ht⟩) hw.2.2.2.1.2.2 dX10_stay_50
      · have r_x2 : RI x2 0 87 := rc_lt1 r_x2 rl_88 (ti_nle c_5) (by decide)
        refine lv_aload_n hx hb dX10_stay_8 rfl (lv_at hl 0 rfl) ?_
        refine tg_get (ci := 10) (ts := ty_MODEL) (C := RX10) (T := TX10) (N := 49) hx hb hts inX10 hown hK hw h_p0 rfl rfl 14 (by decide) (hts _ tw_1151) (fun _ h9 => h9) (ft := vR 34) rfl dX10_stay_9 (fun u_4 hv_u_4 m_u_4 => ?_)
        obtain ⟨vu_4, rfl, h_vu_4⟩ := hv_u_4
        refine lv_bipush (v := 84) hx hb dX10_stay_12 (by decide) ?_
        refine lv_iload_n hx hb dX10_stay_14 rfl (lv_at hl 2 rfl) ?_
        refine lv_iadd hx hb dX10_stay_15 (lv_topi (fun v_5 e_v_5 => ?_))
        obtain ⟨t_v_5, r_v_5⟩ := tq_add (lo := 84) (hi := 171) rl_84 r_x2 (by decide +kernel) e_v_5
        have t_v_5 : v_5.toInt = 84 + x2.toInt := t_v_5
        refine tg_iald (lo := (-2147483648)) (hi := 2147483647) hx hb hK hw h_vu_4 rfl 84 171 r_v_5 (by decide) (by decide +kernel) dX10_stay_16 (fun v_6 r_v_6 m_v_6 o_v_6 => ?_)
        refine lv_istore_n (lv' := [(3, .int v_6), (0, .ref p0), (1, .int p1), (2, .int x2)]) hx hb dX10_stay_17 rfl hl (by decide) rfl (fun ls hl => ?_)
        refine lv_aload_n hx hb dX10_stay_18 rfl (lv_at hl 1 rfl) ?_
        refine tg_mem (ci := 10) (C := RX10) (T := TX10) (N := 49) hx hb hts inX10 hown hK hw 14 m_u_4 rfl (by decide) (hts _ tw_1151) (fun _ h9 => h9) dX10_stay_19 ?_
        refine lv_bipush (v := 84) hx hb dX10_stay_22 (by decide) ?_
        refine lv_iload_n hx hb dX10_stay_24 rfl (lv_at hl 3 rfl) ?_
        refine lv_iadd hx hb dX10_stay_25 (lv_topi (fun v_7 e_v_7 => ?_))
        obtain ⟨t_v_7, r_v_7⟩ := tq_add (lo := 84) (hi := 171) rl_84 r_x2 (by decide +kernel) e_v_7
        have t_v_7 : v_7.toInt = 84 + x2.toInt := t_v_7
        refine lv_aload_n hx hb dX10_stay_26 rfl (lv_at hl 1 rfl) ?_
        refine tg_get (ci := 10) (ts := ty_MODEL) (C := RX10) (T := TX10) (N := 49) hx hb hts inX10 hown hK hw h_p0 rfl rfl 18 (by decide) (hts _ tw_1155) (fun _ h9 => h9) (ft := vR 38) rfl dX10_stay_27 (fun u_8 hv_u_8 m_u_8 => ?_)
        obtain ⟨vu_8, rfl, h_vu_8⟩ := hv_u_8
        refine lv_iload_n hx hb dX10_stay_30 rfl (lv_at hl 3 rfl) ?_
        refine tg_iald (lo := (-2147483648)) (hi := 2147483647) hx hb hK hw h_vu_8 rfl 0 87 r_x2 (by decide) (by decide +kernel) dX10_stay_31 (fun v_9 r_v_9 m_v_9 o_v_9 => ?_)
        have hw8 := hw
        have e_10 : 84 + x2.toNatClampNeg = v_7.toNatClampNeg := by have k1 := r_x2.cl (by decide); have k2 := r_v_7.cl (by decide); have b10 := r_p1.1; have b20 := r_p1.2; have b11 := r_x2.1; have b21 := r_x2.2; have b12 := r_v_5.1; have b22 := r_v_5.2; have b13 := r_v_6.1; have b23 := r_v_6.2; have b14 := r_v_7.1; have b24 := r_v_7.2; have b15 := r_v_9.1; have b25 := r_v_9.2; omega
        refine tg_iasto hx hb hK hw h_vu_4 rfl 84 171 r_v_7 (by decide) (show RI _ (canon (v_7.toNatClampNeg)).1 (canon (v_7.toNatClampNeg)).2 by rw [← e_10]; exact o_v_9) (RN_upd (by decide) (by decide)) (by decide) dX10_stay_32 (fun ws H locs hw hF9 hU9 => ?_)
        have x_HD_p0_gdR : AX 14 34 (HDp gdR) Ps ws p0 := AX.ast hF9 hU9 x_HD_p0_gdR m_u_4 (fun f9 h9 => HDp.upd h9 (by have k1 := r_v_7.cl (by decide); have k2 := r_v_7.1; omega))
        have m_v_9 := AEL.over hw8 hF9 h_vu_8 m_v_9 (by decide)
        have m_u_4 := FLD.over hF9 m_u_4 (by decide)
        have m_u_8 := FLD.over hF9 m_u_8 (by decide)
        refine lv_aload_n hx hb dX10_stay_33 rfl (lv_at hl 1 rfl) ?_
        refine tg_mem (ci := 10) (C := RX10) (T := TX10) (N := 49) hx hb hts inX10 hown hK hw 18 m_u_8 rfl (by decide) (hts _ tw_1155) (fun _ h9 => h9) dX10_stay_34 ?_
        refine lv_iload_n hx hb dX10_stay_37 rfl (lv_at hl 3 rfl) ?_
        refine lv_iload_n hx hb dX10_stay_38 rfl (lv_at hl 0 rfl) ?_
        have hw8 := hw
        have e_11 : v_5.toNatClampNeg = 84 + x2.toNatClampNeg := by have k1 := r_v_5.cl (by decide); have k2 := r_x2.cl (by decide); have b10 := r_p1.1; have b20 := r_p1.2; have b11 := r_x2.1; have b21 := r_x2.2; have b12 := r_v_5.1; have b22 := r_v_5.2; have b13 := r_v_6.1; have b23 := r_v_6.2; have b14 := r_v_7.1; have b24 := r_v_7.2; have b15 := r_v_9.1; have b25 := r_v_9.2; omega
        refine tg_iasto hx hb hK hw h_vu_8 rfl 0 87 r_x2 (by decide) (show RI _ (canon (84 + x2.toNatClampNeg)).1 (canon (84 + x2.toNatClampNeg)).2 by rw [← e_11]; exact o_v_6) (fun _ _ _ _ _ => trivial) (by decide) dX10_stay_39 (fun ws H locs hw hF9 hU9 => ?_)
        have x_HD_p0_gdR := AX.over hF9 x_HD_p0_gdR (by decide)
        have m_u_4 := FLD.over hF9 m_u_4 (by decide)
        have m_u_8 := FLD.over hF9 m_u_8 (by decide)
        obtain ⟨v_12, e_v_12⟩ : ∃ q9 : Int32, q9 = x2 + Int32.ofInt 1 := ⟨_, rfl⟩
        obtain ⟨t_v_12, r_v_12⟩ := tq_add (lo := 1) (hi := 88) r_x2 (show RI (Int32.ofInt 1) 1 1 by unfold RI; decide +kernel) (by decide +kernel) e_v_12
        have t_v_12 : v_12.toInt = x2.toInt + 1 := t_v_12
        refine lv_iinc (v := v_12) (lv' := [(2, .int v_12), (3, .int v_6), (0, .ref p0), (1, .int p1)]) hx hb dX10_stay_40 hl (k := 3) rfl e_v_12.symm (by decide) rfl (fun ls hl => ?_)
        refine lv_goto (tgt := 2) hx hb dX10_stay_43 (by decide) ?_
        exact ih2 v_12 ws _ _ ls (by have q0 := r_v_12.1; have u0 := r_v_12.2; have o0 := r_x2.1; have p0 := r_x2.2; omega) r_p1 (r_v_12.to (by decide)) x_HD_p0_gdR hw (lv_sub hl [2, 3, 0] rfl)
  refine lv_iconst (v := 0) hx hb dX10_stay_0 (by decide) ?_
  refine lv_istore_n (lv' := [(2, .int 0), (0, .ref p0), (1, .int p1)]) hx hb dX10_stay_1 rfl hl (by decide) rfl (fun ls hl => ?_)
  exact B2 4294967298 0 w0 _ _ ls (by have q0 := rl_0.1; have u0 := rl_0.2; omega) r_p1 (rl_0.to (by decide)) x_HD_p0_gdR hw (lv_sub hl [1, 2, 0] rfl)
abbrev wr_X10_live__9 : List (Nat × Nat) := []
abbrev wa_X10_live__9 : List Nat := [34]
set_option maxHeartbeats 4000000 in
set_option maxRecDepth 100000 in
theorem c_X10_live__9 (l : Launch) (D : va_G) (cy : Nat → ClassId) (z : Nat → Nat) (sz : Nat) (Ps : PSI) (w0 : va_W) (hT : HT cy GG Ps w0) (p0 : Nat) (p1 : Int32) (p2 : Int32) (p3 : Int32) (gdR : Nat → Int32) (h_p0 : (p0, 55) ∈ Ps) (r_p1 : RI p1 0 0) (r_p2 : RI p2 0 7) (r_p3 : RI p3 0 5) (x_HD_p0_gdR : AX 14 34 (HDp gdR) Ps w0 p0) : Met l yX10_live (Cond.code yX10_live cX10_live 4 none :: gT) ({ frames := 0, cells := 0, slots := 0, locals := 200 } : Room) (va_Pc [.ref p0, .int p1, .int p2, .int p3] (PRE D cy z w0 sz)) (va_Qv (fun (u : va_W) => ((AX 14 34 (HDp gdR) Ps u p0) ∧ (True)) ∧ HT cy GG Ps u ∧ FR wr_X10_live__9 wa_X10_live__9 Ps w0 u) (BB D cy (va_A w0 sz) (fun (u : va_W) => u)) (va_A w0 sz)) 0 0 (va_A w0 sz) := by
  refine Met.ofW (cc := cX10_live) (maxL := 4) (ret := none) (by decide) rfl ?_
  intro p e s m args below meth c s₁ B hml hv
  obtain ⟨rfl, hsz, hP, hK, hD0, hSD⟩ := hv
  have hx := B.exec
  have hb := B.bytes
  have hr := B.returns
  have hlocks := B.notSynchronized
  have hts : ∀ w ∈ gT, w.before _ s = true := fun w h => atoms_spec (ws := Cond.code yX10_live cX10_live 4 none :: gT) B.pre w (List.mem_cons_of_mem _ h)
  have hown : s.vm.findClass RX10 = some m.cls := findClass_of_methodNamed B.named
  subst hsz
  have hD := hD0.self (sz := s.heap.size)
  generalize hAe : va_A w0 s.heap.size = A at hD hSD ⊢
  have hA : ∀ q : Nat, s.heap.size ≤ q → A q := fun q h => by rw [← hAe]; exact Or.inr h
  have hl := lv_entry ([.ref p0, .int p1, .int p2, .int p3]) (n := 4) (Nat.le_of_ble_eq_true rfl)
  rw [lg_entry_eq]
  generalize (lg_sl ([.ref p0, .int p1, .int p2, .int p3]) ++ List.replicate (4 - (lg_sl ([.ref p0, .int p1, .int p2, .int p3])).length) Slot.unset).toArray = ls at hl ⊢
  have hl : lv_has ls 4 [(0, .ref p0), (1, .int p1), (2, .int p2), (3, .int p3)] := hl
  refine nameQ (fun Q hQ => ?_)
  have hw : WD D cy GG A s wr_X10_live__9 wa_X10_live__9 Ps w0 Ps w0 s.heap [] := ⟨hT, hP, hD, va_S.rf, FR.rf, hT.1, [], (List.append_nil _).symm⟩
  refine lv_iload_n hx hb dX10_live_0 rfl (lv_at hl 1 rfl) ?_
  have w_1 := r_p1
  by_cases cl_1 : p1.toInt < 0 ∨ 4 < p1.toInt
  · refine lv_tableOut (tgt := 90) hx hb dX10_live_1 cl_1 (by decide) ?_
    exact absurd cl_1 (by unfold RI at w_1; omega)
  · have e_1 : p1.toInt = 0 ∨ p1.toInt = 1 ∨ p1.toInt = 2 ∨ p1.toInt = 3 ∨ p1.toInt = 4 := by omega
    rcases e_1 with h_1 | h_1 | h_1 | h_1 | h_1
    · refine lv_tableIn (tgt := 36) (off := 35) hx hb dX10_live_1 (by omega) (by omega) (by rw [h_1]; rfl) (by decide) ?_
      have r_p1 : RI p1 0 0 := ⟨by omega, by omega⟩
      refine lv_aload_n hx hb dX10_live_36 rfl (lv_at hl 0 rfl) ?_
      refine tg_get (ci := 10) (ts := ty_MODEL) (C := RX10) (T := TX10) (N := 49) hx hb hts inX10 hown hK hw h_p0 rfl rfl 14 (by decide) (hts _ tw_1151) (fun _ h9 => h9) (ft := vR 34) rfl dX10_live_37 (fun u_1 hv_u_1 m_u_1 => ?_)
      obtain ⟨vu_1, rfl, h_vu_1⟩ := hv_u_1
      refine lv_bipush (v := 112) hx hb dX10_live_40 (by decide) ?_
      refine lv_iload_n hx hb dX10_live_42 rfl (lv_at hl 2 rfl) ?_
      refine lv_iadd hx hb dX10_live_43 (lv_topi (fun v_2 e_v_2 => ?_))
      obtain ⟨t_v_2, r_v_2⟩ := tq_add (lo := 112) (hi := 119) rl_112 r_p2 (by decide +kernel) e_v_2
      have t_v_2 : v_2.toInt = 112 + p2.toInt := t_v_2
      refine lv_iload_n hx hb dX10_live_44 rfl (lv_at hl 3 rfl) ?_
      refine tg_iast hx hb hK hw h_vu_1 rfl 112 119 r_v_2 (by decide) r_p3 (by decide +kernel) (RN_upd (by decide) (by decide)) (by decide) dX10_live_45 (fun ws H locs hw hF9 hU9 => ?_)
      have x_HD_p0_gdR : AX 14 34 (HDp gdR) Ps ws p0 := AX.ast hF9 hU9 x_HD_p0_gdR m_u_1 (fun f9 h9 => HDp.upd h9 (by have k1 := r_v_2.cl (by decide); have k2 := r_v_2.1; omega))
      have m_u_1 := FLD.over hF9 m_u_1 (by decide)
      subst hQ
      exact W.vret hx hb hr (fun t ht hW => ⟨⟨ws, rfl, ⟨⟨x_HD_p0_gdR, trivial⟩, hw.1, hw.2.2.2.2.1⟩, by rw [ht]; exact hw.2.1, va_K.moved hW.alike hK, hw.2.2.1⟩, hw.2.2.2.1.F ht⟩) hw.2.2.2.1.2.2 dX10_live_46
    · exact absurd h_1 (by unfold RI at w_1; omega)
    · exact absurd h_1 (by unfold RI at w_1; omega)
    · exact absurd h_1 (by unfold RI at w_1; omega)
    · exact absurd h_1 (by unfold RI at w_1; omega)
abbrev wr_X10_live__10 : List (Nat × Nat) := []
abbrev wa_X10_live__10 : List Nat := [34]
set_option maxHeartbeats 4000000 in
set_option maxRecDepth 100000 in
theorem c_X10_live__10 (l : Launch) (D : va_G) (cy : Nat → ClassId) (z : Nat → Nat) (sz : Nat) (Ps : PSI) (w0 : va_W) (hT : HT cy GG Ps w0) (p0 : Nat) (p1 : Int32) (p2 : Int32) (p3 : Int32) (gdR : Nat → Int32) (h_p0 : (p0, 55) ∈ Ps) (r_p1 : RI p1 1 1) (r_p2 : RI p2 0 7) (r_p3 : RI p3 0 5) (x_HD_p0_gdR : AX 14 34 (HDp gdR) Ps w0 p0) : Met l yX10_live (Cond.code yX10_live cX10_live 4 none :: gT) ({ frames := 0, cells := 0, slots := 0, locals := 200 } : Room) (va_Pc [.ref p0, .int p1, .int p2, .int p3] (PRE D cy z w0 sz)) (va_Qv (fun (u : va_W) => ((AX 14 34 (HDp gdR) Ps u p0) ∧ (True)) ∧ HT cy GG Ps u ∧ FR wr_X10_live__10 wa_X10_live__10 Ps w0 u) (BB D cy (va_A w0 sz) (fun (u : va_W) => u)) (va_A w0 sz)) 0 0 (va_A w0 sz) := by
  refine Met.ofW (cc := cX10_live) (maxL := 4) (ret := none) (by decide) rfl ?_
  intro p e s m args below meth c s₁ B hml hv
  obtain ⟨rfl, hsz, hP, hK, hD0, hSD⟩ := hv
  have hx := B.exec
  have hb := B.bytes
  have hr := B.returns
  have hlocks := B.notSynchronized
  have hts : ∀ w ∈ gT, w.before _ s = true := fun w h => atoms_spec (ws := Cond.code yX10_live cX10_live 4 none :: gT) B.pre w (List.mem_cons_of_mem _ h)
  have hown : s.vm.findClass RX10 = some m.cls := findClass_of_methodNamed B.named
  subst hsz
  have hD := hD0.self (sz := s.heap.size)
  generalize hAe : va_A w0 s.heap.size = A at hD hSD ⊢
  have hA : ∀ q : Nat, s.heap.size ≤ q → A q := fun q h => by rw [← hAe]; exact Or.inr h
  have hl := lv_entry ([.ref p0, .int p1, .int p2, .int p3]) (n := 4) (Nat.le_of_ble_eq_true rfl)
  rw [lg_entry_eq]
  generalize (lg_sl ([.ref p0, .int p1, .int p2, .int p3]) ++ List.replicate (4 - (lg_sl ([.ref p0, .int p1, .int p2, .int p3])).length) Slot.unset).toArray = ls at hl ⊢
  have hl : lv_has ls 4 [(0, .ref p0), (1, .int p1), (2, .int p2), (3, .int p3)] := hl
  refine nameQ (fun Q hQ => ?_)
  have hw : WD D cy GG A s wr_X10_live__10 wa_X10_live__10 Ps w0 Ps w0 s.heap [] := ⟨hT, hP, hD, va_S.rf, FR.rf, hT.1, [], (List.append_nil _).symm⟩
  refine lv_iload_n hx hb dX10_live_0 rfl (lv_at hl 1 rfl) ?_
  have w_1 := r_p1
  by_cases cl_1 : p1.toInt < 0 ∨ 4 < p1.toInt
  · refine lv_tableOut (tgt := 90) hx hb dX10_live_1 cl_1 (by decide) ?_
    exact absurd cl_1 (by unfold RI at w_1; omega)
  · have e_1 : p1.toInt = 0 ∨ p1.toInt = 1 ∨ p1.toInt = 2 ∨ p1.toInt = 3 ∨ p1.toInt = 4 := by omega
    rcases e_1 with h_1 | h_1 | h_1 | h_1 | h_1
    · exact absurd h_1 (by unfold RI at w_1; omega)
    · refine lv_tableIn (tgt := 47) (off := 46) hx hb dX10_live_1 (by omega) (by omega) (by rw [h_1]; rfl) (by decide) ?_
      have r_p1 : RI p1 1 1 := ⟨by omega, by omega⟩
      refine lv_aload_n hx hb dX10_live_47 rfl (lv_at hl 0 rfl) ?_
      refine tg_get (ci := 10) (ts := ty_MODEL) (C := RX10) (T := TX10) (N := 49) hx hb hts inX10 hown hK hw h_p0 rfl rfl 14 (by decide) (hts _ tw_1151) (fun _ h9 => h9) (ft := vR 34) rfl dX10_live_48 (fun u_1 hv_u_1 m_u_1 => ?_)
      obtain ⟨vu_1, rfl, h_vu_1⟩ := hv_u_1
      refine lv_bipush (v := 112) hx hb dX10_live_51 (by decide) ?_
      refine lv_iload_n hx hb dX10_live_53 rfl (lv_at hl 2 rfl) ?_
      refine lv_iadd hx hb dX10_live_54 (lv_topi (fun v_2 e_v_2 => ?_))
      obtain ⟨t_v_2, r_v_2⟩ := tq_add (lo := 112) (hi := 119) rl_112 r_p2 (by decide +kernel) e_v_2
      have t_v_2 : v_2.toInt = 112 + p2.toInt := t_v_2
      refine lv_iconst (v := (-1)) hx hb dX10_live_55 (by decide) ?_
      refine tg_iast hx hb hK hw h_vu_1 rfl 112 119 r_v_2 (by decide) rl_m1 (by decide +kernel) (RN_upd (by decide) (by decide)) (by decide) dX10_live_56 (fun ws H locs hw hF9 hU9 => ?_)
      have x_HD_p0_gdR : AX 14 34 (HDp gdR) Ps ws p0 := AX.ast hF9 hU9 x_HD_p0_gdR m_u_1 (fun f9 h9 => HDp.upd h9 (by have k1 := r_v_2.cl (by decide); have k2 := r_v_2.1; omega))
      have m_u_1 := FLD.over hF9 m_u_1 (by decide)
      subst hQ
      exact W.vret hx hb hr (fun t ht hW => ⟨⟨ws, rfl, ⟨⟨x_HD_p0_gdR, trivial⟩, hw.1, hw.2.2.2.2.1⟩, by rw [ht]; exact hw.2.1, va_K.moved hW.alike hK, hw.2.2.1⟩, hw.2.2.2.1.F ht⟩) hw.2.2.2.1.2.2 dX10_live_57
    · exact absurd h_1 (by unfold RI at w_1; omega)
    · exact absurd h_1 (by unfold RI at w_1; omega)
    · exact absurd h_1 (by unfold RI at w_1; omega)
abbrev wr_X10_live__11 : List (Nat × Nat) := []
abbrev wa_X10_live__11 : List Nat := [34]
set_option maxHeartbeats 4000000 in
set_option maxRecDepth 100000 in
theorem c_X10_live__11 (l : Launch) (D : va_G) (cy : Nat → ClassId) (z : Nat → Nat) (sz : Nat) (Ps : PSI) (w0 : va_W) (hT : HT cy GG Ps w0) (p0 : Nat) (p1 : Int32) (p2 : Int32) (p3 : Int32) (gdR : Nat → Int32) (h_p0 : (p0, 55) ∈ Ps) (r_p1 : RI p1 2 2) (r_p2 : RI p2 0 7) (r_p3 : RI p3 0 5) (x_HD_p0_gdR : AX 14 34 (HDp gdR) Ps w0 p0) : Met l yX10_live (Cond.code yX10_live cX10_live 4 none :: gT) ({ frames := 0, cells := 0, slots := 0, locals := 200 } : Room) (va_Pc [.ref p0, .int p1, .int p2, .int p3] (PRE D cy z w0 sz)) (va_Qv (fun (u : va_W) => ((AX 14 34 (HDp gdR) Ps u p0) ∧ (True)) ∧ HT cy GG Ps u ∧ FR wr_X10_live__11 wa_X10_live__11 Ps w0 u) (BB D cy (va_A w0 sz) (fun (u : va_W) => u)) (va_A w0 sz)) 0 0 (va_A w0 sz) := by
  refine Met.ofW (cc := cX10_live) (maxL := 4) (ret := none) (by decide) rfl ?_
  intro p e s m args below meth c s₁ B hml hv
  obtain ⟨rfl, hsz, hP, hK, hD0, hSD⟩ := hv
  have hx := B.exec
  have hb := B.bytes
  have hr := B.returns
  have hlocks := B.notSynchronized
  have hts : ∀ w ∈ gT, w.before _ s = true := fun w h => atoms_spec (ws := Cond.code yX10_live cX10_live 4 none :: gT) B.pre w (List.mem_cons_of_mem _ h)
  have hown : s.vm.findClass RX10 = some m.cls := findClass_of_methodNamed B.named
  subst hsz
  have hD := hD0.self (sz := s.heap.size)
  generalize hAe : va_A w0 s.heap.size = A at hD hSD ⊢
  have hA : ∀ q : Nat, s.heap.size ≤ q → A q := fun q h => by rw [← hAe]; exact Or.inr h
  have hl := lv_entry ([.ref p0, .int p1, .int p2, .int p3]) (n := 4) (Nat.le_of_ble_eq_true rfl)
  rw [lg_entry_eq]
  generalize (lg_sl ([.ref p0, .int p1, .int p2, .int p3]) ++ List.replicate (4 - (lg_sl ([.ref p0, .int p1, .int p2, .int p3])).length) Slot.unset).toArray = ls at hl ⊢
  have hl : lv_has ls 4 [(0, .ref p0), (1, .int p1), (2, .int p2), (3, .int p3)] := hl
  refine nameQ (fun Q hQ => ?_)
  have hw : WD D cy GG A s wr_X10_live__11 wa_X10_live__11 Ps w0 Ps w0 s.heap [] := ⟨hT, hP, hD, va_S.rf, FR.rf, hT.1, [], (List.append_nil _).symm⟩
  refine lv_iload_n hx hb dX10_live_0 rfl (lv_at hl 1 rfl) ?_
  have w_1 := r_p1
  by_cases cl_1 : p1.toInt < 0 ∨ 4 < p1.toInt
  · refine lv_tableOut (tgt := 90) hx hb dX10_live_1 cl_1 (by decide) ?_
    exact absurd cl_1 (by unfold RI at w_1; omega)
  · have e_1 : p1.toInt = 0 ∨ p1.toInt = 1 ∨ p1.toInt = 2 ∨ p1.toInt = 3 ∨ p1.toInt = 4 := by omega
    rcases e_1 with h_1 | h_1 | h_1 | h_1 | h_1
    · exact absurd h_1 (by unfold RI at w_1; omega)
    · exact absurd h_1 (by unfold RI at w_1; omega)
    · refine lv_tableIn (tgt := 58) (off := 57) hx hb dX10_live_1 (by omega) (by omega) (by rw [h_1]; rfl) (by decide) ?_
      have r_p1 : RI p1 2 2 := ⟨by omega, by omega⟩
      refine lv_aload_n hx hb dX10_live_58 rfl (lv_at hl 0 rfl) ?_
      refine tg_get (ci := 10) (ts := ty_MODEL) (C := RX10) (T := TX10) (N := 49) hx hb hts inX10 hown hK hw h_p0 rfl rfl 14 (by decide) (hts _ tw_1151) (fun _ h9 => h9) (ft := vR 34) rfl dX10_live_59 (fun u_1 hv_u_1 m_u_1 => ?_)
      obtain ⟨vu_1, rfl, h_vu_1⟩ := hv_u_1
      refine lv_bipush (v := 104) hx hb dX10_live_62 (by decide) ?_
      refine lv_iload_n hx hb dX10_live_64 rfl (lv_at hl 2 rfl) ?_
      refine lv_iadd hx hb dX10_live_65 (lv_topi (fun v_2 e_v_2 => ?_))
      obtain ⟨t_v_2, r_v_2⟩ := tq_add (lo := 104) (hi := 111) rl_104 r_p2 (by decide +kernel) e_v_2
      have t_v_2 : v_2.toInt = 104 + p2.toInt := t_v_2
      refine lv_iload_n hx hb dX10_live_66 rfl (lv_at hl 3 rfl) ?_
      refine tg_iast hx hb hK hw h_vu_1 rfl 104 111 r_v_2 (by decide) r_p3 (by decide +kernel) (RN_upd (by decide) (by decide)) (by decide) dX10_live_67 (fun ws H locs hw hF9 hU9 => ?_)
      have x_HD_p0_gdR : AX 14 34 (HDp gdR) Ps ws p0 := AX.ast hF9 hU9 x_HD_p0_gdR m_u_1 (fun f9 h9 => HDp.upd h9 (by have k1 := r_v_2.cl (by decide); have k2 := r_v_2.1; omega))
      have m_u_1 := FLD.over hF9 m_u_1 (by decide)
      subst hQ
      exact W.vret hx hb hr (fun t ht hW => ⟨⟨ws, rfl, ⟨⟨x_HD_p0_gdR, trivial⟩, hw.1, hw.2.2.2.2.1⟩, by rw [ht]; exact hw.2.1, va_K.moved hW.alike hK, hw.2.2.1⟩, hw.2.2.2.1.F ht⟩) hw.2.2.2.1.2.2 dX10_live_68
    · exact absurd h_1 (by unfold RI at w_1; omega)
    · exact absurd h_1 (by unfold RI at w_1; omega)
abbrev wr_X10_adds__1 : List (Nat × Nat) := []
abbrev wa_X10_adds__1 : List Nat := [34]
set_option maxHeartbeats 4000000 in
set_option maxRecDepth 100000 in
theorem c_X10_adds__1 (l : Launch) (D : va_G) (cy : Nat → ClassId) (z : Nat → Nat) (sz : Nat) (Ps : PSI) (w0 : va_W) (hT : HT cy GG Ps w0) (p0 : Nat) (p1 : Int32) (p2 : Int32) (p3 : Int32) (gdR : Nat → Int32) (h_p0 : (p0, 55) ∈ Ps) (r_p1 : RI p1 0 5) (r_p2 : RI p2 0 5) (r_p3 : RI p3 (-2147483648) 2147483647) (x_HD_p0_gdR : AX 14 34 (HDp gdR) Ps w0 p0) : Met l yX10_adds (Cond.code yX10_adds cX10_adds 4 none :: gT) ({ frames := 2, cells := 0, slots := 0, locals := 400 } : Room) (va_Pc [.ref p0, .int p1, .int p2, .int p3] (PRE D cy z w0 sz)) (va_Qv (fun (u : va_W) => ((AX 14 34 (HDp gdR) Ps u p0) ∧ (True)) ∧ HT cy GG Ps u ∧ FR wr_X10_adds__1 wa_X10_adds__1 Ps w0 u) (BB D cy (va_A w0 sz) (fun (u : va_W) => u)) (va_A w0 sz)) 0 0 (va_A w0 sz) := by
  refine Met.ofW (cc := cX10_adds) (maxL := 4) (ret := none) (by decide) rfl ?_
  intro p e s m args below meth c s₁ B hml hv
  obtain ⟨rfl, hsz, hP, hK, hD0, hSD⟩ := hv
  have hx := B.exec
  have hb := B.bytes
  have hr := B.returns
  have hlocks := B.notSynchronized
  have hts : ∀ w ∈ gT, w.before _ s = true := fun w h => atoms_spec (ws := Cond.code yX10_adds cX10_adds 4 none :: gT) B.pre w (List.mem_cons_of_mem _ h)
  have hown : s.vm.findClass RX10 = some m.cls := findClass_of_methodNamed B.named
  subst hsz
  have hD := hD0.self (sz := s.heap.size)
  generalize hAe : va_A w0 s.heap.size = A at hD hSD ⊢
  have hA : ∀ q : Nat, s.heap.size ≤ q → A q := fun q h => by rw [← hAe]; exact Or.inr h
  have hl := lv_entry ([.ref p0, .int p1, .int p2, .int p3]) (n := 4) (Nat.le_of_ble_eq_true rfl)
  rw [lg_entry_eq]
  generalize (lg_sl ([.ref p0, .int p1, .int p2, .int p3]) ++ List.replicate (4 - (lg_sl ([.ref p0, .int p1, .int p2, .int p3])).length) Slot.unset).toArray = ls at hl ⊢
  have hl : lv_has ls 4 [(0, .ref p0), (1, .int p1), (2, .int p2), (3, .int p3)] := hl
  refine nameQ (fun Q hQ => ?_)
  have hw : WD D cy GG A s wr_X10_adds__1 wa_X10_adds__1 Ps w0 Ps w0 s.heap [] := ⟨hT, hP, hD, va_S.rf, FR.rf, hT.1, [], (List.append_nil _).symm⟩
  refine lv_aload_n hx hb dX10_adds_0 rfl (lv_at hl 0 rfl) ?_
  refine tg_get (ci := 10) (ts := ty_MODEL) (C := RX10) (T := TX10) (N := 49) hx hb hts inX10 hown hK hw h_p0 rfl rfl 14 (by decide) (hts _ tw_1151) (fun _ h9 => h9) (ft := vR 34) rfl dX10_adds_1 (fun u_1 hv_u_1 m_u_1 => ?_)
  obtain ⟨vu_1, rfl, h_vu_1⟩ := hv_u_1
  refine lv_sipush (v := 136) hx hb dX10_adds_4 (by decide) ?_
  refine lv_bipush (v := 6) hx hb dX10_adds_7 (by decide) ?_
  refine lv_iload_n hx hb dX10_adds_9 rfl (lv_at hl 1 rfl) ?_
  refine lv_imul hx hb dX10_adds_10 (lv_topi (fun v_2 e_v_2 => ?_))
  obtain ⟨t_v_2, r_v_2⟩ := tq_mul (lo := 0) (hi := 30) rl_6 r_p1 (by decide +kernel) e_v_2
  have t_v_2 : v_2.toInt = 6 * p1.toInt := t_v_2
  refine lv_iadd hx hb dX10_adds_11 (lv_topi (fun v_3 e_v_3 => ?_))
  obtain ⟨t_v_3, r_v_3⟩ := tq_add (lo := 136) (hi := 166) rl_136 r_v_2 (by decide +kernel) e_v_3
  have t_v_3 : v_3.toInt = 136 + v_2.toInt := t_v_3
  refine lv_iload_n hx hb dX10_adds_12 rfl (lv_at hl 2 rfl) ?_
  refine lv_iadd hx hb dX10_adds_13 (lv_topi (fun v_4 e_v_4 => ?_))
  obtain ⟨t_v_4, r_v_4⟩ := tq_add (lo := 136) (hi := 171) r_v_3 r_p2 (by decide +kernel) e_v_4
  refine lv_bipush (v := 99) hx hb dX10_adds_14 (by decide) ?_
  refine lv_aload_n hx hb dX10_adds_16 rfl (lv_at hl 0 rfl) ?_
  refine lv_iload_n hx hb dX10_adds_17 rfl (lv_at hl 1 rfl) ?_
  refine lv_iload_n hx hb dX10_adds_18 rfl (lv_at hl 2 rfl) ?_
  refine tk_ir (va_runV (As := [.int p1, .int p2]) (rest := [.int 99, .int v_4, .ref vu_1]) ⟨hx, hb, hml, hown, hts⟩ (c_X10_muchOf l D cy z s.heap.size Ps w0 hw.1 p0 p1 p2 h_p0 r_p1 r_p2) (cwV 2 hts (gV tw_1437 tw_1439 ts_67 tw_15 tw_1440) rfl rfl rfl (by decide +kernel) ⟨Nat.le_of_ble_eq_true rfl, Nat.le_of_ble_eq_true rfl⟩) (tg_preV hw hK hSD hA (ci := 10) (q := (RX10, TX10, 49)) rfl h_p0 rfl) rfl rfl hl.1 rfl (lv_room (Nat.le_of_ble_eq_true rfl)) dX10_adds_19 ⟨Nat.le_of_ble_eq_true rfl, Nat.le_of_ble_eq_true rfl⟩) hw hA (fun v_5  H locs hp_v_5 hw => ?_)
  have r_v_5 : RI v_5 (-2147483648) 2147483647 := hp_v_5.1
  have x_MUCH_p0_p1_p2_v_5 := hp_v_5.2.2.2.1.1
  refine lv_iload_n hx hb dX10_adds_22 rfl (lv_at hl 3 rfl) ?_
  refine lv_iadd hx hb dX10_adds_23 (lv_topi (fun v_6 e_v_6 => ?_))
  have r_v_6 := ri_any v_6
  refine tk_ir (va_runS (As := [.int 99, .int v_6]) (rest := [.int v_4, .ref vu_1]) ⟨hx, hb, hml, hown, hts⟩ (c_X10_least l D cy z H.size Ps w0 hw.1 99 v_6 rl_99 r_v_6) (va_cwS 2 hts (gS tw_1525 tw_1526 tw_15 tw_1527) rfl rfl rfl (by decide +kernel) ⟨Nat.le_of_ble_eq_true rfl, Nat.le_of_ble_eq_true rfl⟩) (tg_preS hw hK hSD hA) rfl rfl hl.1 rfl (lv_room (Nat.le_of_ble_eq_true rfl)) dX10_adds_24 ⟨Nat.le_of_ble_eq_true rfl, Nat.le_of_ble_eq_true rfl⟩) hw hA (fun v_7  H locs hp_v_7 hw => ?_)
  have r_v_7 : RI v_7 (-2147483648) 99 := hp_v_7.1
  refine tg_iast hx hb hK hw h_vu_1 rfl 136 171 r_v_4 (by decide) r_v_7 (by decide +kernel) (RN_upd (by decide) (by decide)) (by decide) dX10_adds_27 (fun ws H locs hw hF9 hU9 => ?_)
  have x_HD_p0_gdR : AX 14 34 (HDp gdR) Ps ws p0 := AX.ast hF9 hU9 x_HD_p0_gdR m_u_1 (fun f9 h9 => HDp.upd h9 (by have k1 := r_v_4.cl (by decide); have k2 := r_v_4.1; omega))
  have m_u_1 := FLD.over hF9 m_u_1 (by decide)
  subst hQ
  exact W.vret hx hb hr (fun t ht hW => ⟨⟨ws, rfl, ⟨⟨x_HD_p0_gdR, trivial⟩, hw.1, hw.2.2.2.2.1⟩, by rw [ht]; exact hw.2.1, va_K.moved hW.alike hK, hw.2.2.1⟩, hw.2.2.2.1.F ht⟩) hw.2.2.2.1.2.2 dX10_adds_28
abbrev wr_X10_less__2 : List (Nat × Nat) := []
abbrev wa_X10_less__2 : List Nat := [34]
set_option maxHeartbeats 4000000 in
set_option maxRecDepth 100000 in
theorem c_X10_less__2 (l : Launch) (D : va_G) (cy : Nat → ClassId) (z : Nat → Nat) (sz : Nat) (Ps : PSI) (w0 : va_W) (hT : HT cy GG Ps w0) (p0 : Nat) (p1 : Int32) (p2 : Int32) (gdR : Nat → Int32) (h_p0 : (p0, 55) ∈ Ps) (r_p1 : RI p1 0 5) (r_p2 : RI p2 0 5) (x_HD_p0_gdR : AX 14 34 (HDp gdR) Ps w0 p0) : Met l yX10_less (Cond.code yX10_less cX10_less 3 none :: gT) ({ frames := 2, cells := 0, slots := 0, locals := 400 } : Room) (va_Pc [.ref p0, .int p1, .int p2] (PRE D cy z w0 sz)) (va_Qv (fun (u : va_W) => ((AX 14 34 (HDp gdR) Ps u p0) ∧ (True)) ∧ HT cy GG Ps u ∧ FR wr_X10_less__2 wa_X10_less__2 Ps w0 u) (BB D cy (va_A w0 sz) (fun (u : va_W) => u)) (va_A w0 sz)) 0 0 (va_A w0 sz) := by
  refine Met.ofW (cc := cX10_less) (maxL := 3) (ret := none) (by decide) rfl ?_
  intro p e s m args below meth c s₁ B hml hv
  obtain ⟨rfl, hsz, hP, hK, hD0, hSD⟩ := hv
  have hx := B.exec
  have hb := B.bytes
  have hr := B.returns
  have hlocks := B.notSynchronized
  have hts : ∀ w ∈ gT, w.before _ s = true := fun w h => atoms_spec (ws := Cond.code yX10_less cX10_less 3 none :: gT) B.pre w (List.mem_cons_of_mem _ h)
  have hown : s.vm.findClass RX10 = some m.cls := findClass_of_methodNamed B.named
  subst hsz
  have hD := hD0.self (sz := s.heap.size)
  generalize hAe : va_A w0 s.heap.size = A at hD hSD ⊢
  have hA : ∀ q : Nat, s.heap.size ≤ q → A q := fun q h => by rw [← hAe]; exact Or.inr h
  have hl := lv_entry ([.ref p0, .int p1, .int p2]) (n := 3) (Nat.le_of_ble_eq_true rfl)
  rw [lg_entry_eq]
  generalize (lg_sl ([.ref p0, .int p1, .int p2]) ++ List.replicate (3 - (lg_sl ([.ref p0, .int p1, .int p2])).length) Slot.unset).toArray = ls at hl ⊢
  have hl : lv_has ls 3 [(0, .ref p0), (1, .int p1), (2, .int p2)] := hl
  refine nameQ (fun Q hQ => ?_)
  have hw : WD D cy GG A s wr_X10_less__2 wa_X10_less__2 Ps w0 Ps w0 s.heap [] := ⟨hT, hP, hD, va_S.rf, FR.rf, hT.1, [], (List.append_nil _).symm⟩
  refine lv_aload_n hx hb dX10_less_0 rfl (lv_at hl 0 rfl) ?_
  refine tg_get (ci := 10) (ts := ty_MODEL) (C := RX10) (T := TX10) (N := 49) hx hb hts inX10 hown hK hw h_p0 rfl rfl 14 (by decide) (hts _ tw_1151) (fun _ h9 => h9) (ft := vR 34) rfl dX10_less_1 (fun u_1 hv_u_1 m_u_1 => ?_)
  obtain ⟨vu_1, rfl, h_vu_1⟩ := hv_u_1
  refine lv_sipush (v := 136) hx hb dX10_less_4 (by decide) ?_
  refine lv_bipush (v := 6) hx hb dX10_less_7 (by decide) ?_
  refine lv_iload_n hx hb dX10_less_9 rfl (lv_at hl 1 rfl) ?_
  refine lv_imul hx hb dX10_less_10 (lv_topi (fun v_2 e_v_2 => ?_))
  obtain ⟨t_v_2, r_v_2⟩ := tq_mul (lo := 0) (hi := 30) rl_6 r_p1 (by decide +kernel) e_v_2
  have t_v_2 : v_2.toInt = 6 * p1.toInt := t_v_2
  refine lv_iadd hx hb dX10_less_11 (lv_topi (fun v_3 e_v_3 => ?_))
  obtain ⟨t_v_3, r_v_3⟩ := tq_add (lo := 136) (hi := 166) rl_136 r_v_2 (by decide +kernel) e_v_3
  have t_v_3 : v_3.toInt = 136 + v_2.toInt := t_v_3
  refine lv_iload_n hx hb dX10_less_12 rfl (lv_at hl 2 rfl) ?_
  refine lv_iadd hx hb dX10_less_13 (lv_topi (fun v_4 e_v_4 => ?_))
  obtain ⟨t_v_4, r_v_4⟩ := tq_add (lo := 136) (hi := 171) r_v_3 r_p2 (by decide +kernel) e_v_4
  refine lv_aload_n hx hb dX10_less_14 rfl (lv_at hl 0 rfl) ?_
  refine lv_iload_n hx hb dX10_less_15 rfl (lv_at hl 1 rfl) ?_
  refine lv_iload_n hx hb dX10_less_16 rfl (lv_at hl 2 rfl) ?_
  refine tk_ir (va_runV (As := [.int p1, .int p2]) (rest := [.int v_4, .ref vu_1]) ⟨hx, hb, hml, hown, hts⟩ (c_X10_muchOf l D cy z s.heap.size Ps w0 hw.1 p0 p1 p2 h_p0 r_p1 r_p2) (cwV 2 hts (gV tw_1437 tw_1439 ts_67 tw_15 tw_1440) rfl rfl rfl (by decide +kernel) ⟨Nat.le_of_ble_eq_true rfl, Nat.le_of_ble_eq_true rfl⟩) (tg_preV hw hK hSD hA (ci := 10) (q := (RX10, TX10, 49)) rfl h_p0 rfl) rfl rfl hl.1 rfl (lv_room (Nat.le_of_ble_eq_true rfl)) dX10_less_17 ⟨Nat.le_of_ble_eq_true rfl, Nat.le_of_ble_eq_true rfl⟩) hw hA (fun v_5  H locs hp_v_5 hw => ?_)
  have r_v_5 : RI v_5 (-2147483648) 2147483647 := hp_v_5.1
  have x_MUCH_p0_p1_p2_v_5 := hp_v_5.2.2.2.1.1
  refine lv_aload_n hx hb dX10_less_20 rfl (lv_at hl 0 rfl) ?_
  refine tg_mem (ci := 10) (C := RX10) (T := TX10) (N := 49) hx hb hts inX10 hown hK hw 14 m_u_1 rfl (by decide) (hts _ tw_1151) (fun _ h9 => h9) dX10_less_21 ?_
  refine lv_iconst (v := 5) hx hb dX10_less_24 (by decide) ?_
  refine tg_iald (lo := (-2147483648)) (hi := 2147483647) hx hb hK hw h_vu_1 rfl 5 5 rl_5 (by decide) (by decide +kernel) dX10_less_25 (fun v_6 r_v_6 m_v_6 o_v_6 => ?_)
  refine lv_icmp_ge (tgt := 33) hx hb dX10_less_26 (by decide) (fun c_26 => ?_) (fun c_26 => ?_)
  · refine lv_aload_n hx hb dX10_less_33 rfl (lv_at hl 0 rfl) ?_
    refine lv_iload_n hx hb dX10_less_34 rfl (lv_at hl 1 rfl) ?_
    refine lv_iload_n hx hb dX10_less_35 rfl (lv_at hl 2 rfl) ?_
    refine tk_ir (va_runV (As := [.int p1, .int p2]) (rest := [.int v_4, .ref vu_1]) ⟨hx, hb, hml, hown, hts⟩ (c_X10_muchOf l D cy z H.size Ps w0 hw.1 p0 p1 p2 h_p0 r_p1 r_p2) (cwV 2 hts (gV tw_1437 tw_1439 ts_67 tw_15 tw_1440) rfl rfl rfl (by decide +kernel) ⟨Nat.le_of_ble_eq_true rfl, Nat.le_of_ble_eq_true rfl⟩) (tg_preV hw hK hSD hA (ci := 10) (q := (RX10, TX10, 49)) rfl h_p0 rfl) rfl rfl hl.1 rfl (lv_room (Nat.le_of_ble_eq_true rfl)) dX10_less_36 ⟨Nat.le_of_ble_eq_true rfl, Nat.le_of_ble_eq_true rfl⟩) hw hA (fun v_7  H locs hp_v_7 hw => ?_)
    have r_v_7 : RI v_7 (-2147483648) 2147483647 := hp_v_7.1
    have x_MUCH_p0_p1_p2_v_7 := hp_v_7.2.2.2.1.1
    refine lv_aload_n hx hb dX10_less_39 rfl (lv_at hl 0 rfl) ?_
    refine tg_mem (ci := 10) (C := RX10) (T := TX10) (N := 49) hx hb hts inX10 hown hK hw 14 m_u_1 rfl (by decide) (hts _ tw_1151) (fun _ h9 => h9) dX10_less_40 ?_
    refine lv_iconst (v := 5) hx hb dX10_less_43 (by decide) ?_
    refine tg_imem hx hb hK hw h_vu_1 rfl rl_5 (by decide) m_v_6 dX10_less_44 ?_
    refine lv_isub hx hb dX10_less_45 (lv_topi (fun v_9 e_v_9 => ?_))
    have r_v_9 := ri_any v_9
    have hw8 := hw
    refine tg_iast hx hb hK hw h_vu_1 rfl 136 171 r_v_4 (by decide) r_v_9 (by decide +kernel) (RN_upd (by decide) (by decide)) (by decide) dX10_less_46 (fun ws H locs hw hF9 hU9 => ?_)
    have x_HD_p0_gdR : AX 14 34 (HDp gdR) Ps ws p0 := AX.ast hF9 hU9 x_HD_p0_gdR m_u_1 (fun f9 h9 => HDp.upd h9 (by have k1 := r_v_4.cl (by decide); have k2 := r_v_4.1; omega))
    have m_u_1 := FLD.over hF9 m_u_1 (by decide)
    subst hQ
    exact W.vret hx hb hr (fun t ht hW => ⟨⟨ws, rfl, ⟨⟨x_HD_p0_gdR, trivial⟩, hw.1, hw.2.2.2.2.1⟩, by rw [ht]; exact hw.2.1, va_K.moved hW.alike hK, hw.2.2.1⟩, hw.2.2.2.1.F ht⟩) hw.2.2.2.1.2.2 dX10_less_47
  · have r_v_5 : RI v_5 (-2147483648) 2147483646 := rc_lt1 r_v_5 r_v_6 (ti_nle c_26) (by decide)
    have r_v_6 : RI v_6 (-2147483647) 2147483647 := rc_lt2 r_v_5 r_v_6 (ti_nle c_26) (by decide)
    refine lv_iconst (v := 0) hx hb dX10_less_29 (by decide) ?_
    refine lv_goto (tgt := 46) hx hb dX10_less_30 (by decide) ?_
    have hw8 := hw
    refine tg_iast hx hb hK hw h_vu_1 rfl 136 171 r_v_4 (by decide) rl_0 (by decide +kernel) (RN_zero rl_0 (by decide)) (by decide) dX10_less_46 (fun ws H locs hw hF9 hU9 => ?_)
    have x_HD_p0_gdR : AX 14 34 (HDp gdR) Ps ws p0 := AX.ast hF9 hU9 x_HD_p0_gdR m_u_1 (fun f9 h9 => HDp.upd h9 (by have k1 := r_v_4.cl (by decide); have k2 := r_v_4.1; omega))
    have m_u_1 := FLD.over hF9 m_u_1 (by decide)
    subst hQ
    exact W.vret hx hb hr (fun t ht hW => ⟨⟨ws, rfl, ⟨⟨x_HD_p0_gdR, trivial⟩, hw.1, hw.2.2.2.2.1⟩, by rw [ht]; exact hw.2.1, va_K.moved hW.alike hK, hw.2.2.1⟩, hw.2.2.2.1.F ht⟩) hw.2.2.2.1.2.2 dX10_less_47
abbrev wr_X10_doGuess__1 : List (Nat × Nat) := []
abbrev wa_X10_doGuess__1 : List Nat := [34]
set_option maxHeartbeats 4000000 in
set_option maxRecDepth 100000 in
theorem c_X10_doGuess__1 (l : Launch) (D : va_G) (cy : Nat → ClassId) (z : Nat → Nat) (sz : Nat) (Ps : PSI) (w0 : va_W) (hT : HT cy GG Ps w0) (p0 : Nat) (p1 : Int32) (p2 : Int32) (gdR : Nat → Int32) (h_p0 : (p0, 55) ∈ Ps) (r_p1 : RI p1 0 7) (r_p2 : RI p2 0 5) (x_SITOK_p0_p1 : AX 14 34 (fun f => 0 ≤ (f (112 + Int32.toNatClampNeg p1)).toInt) Ps w0 p0) (x_HD_p0_gdR : AX 14 34 (HDp gdR) Ps w0 p0) : Met l yX10_doGuess (Cond.code yX10_doGuess cX10_doGuess 4 none :: gT) ({ frames := 3, cells := 0, slots := 0, locals := 600 } : Room) (va_Pc [.ref p0, .int p1, .int p2] (PRE D cy z w0 sz)) (va_Qv (fun (u : va_W) => ((AX 14 34 (HDp gdR) Ps u p0) ∧ (True)) ∧ HT cy GG Ps u ∧ FR wr_X10_doGuess__1 wa_X10_doGuess__1 Ps w0 u) (BB D cy (va_A w0 sz) (fun (u : va_W) => u)) (va_A w0 sz)) 0 0 (va_A w0 sz) := by
  refine Met.ofW (cc := cX10_doGuess) (maxL := 4) (ret := none) (by decide) rfl ?_
  intro p e s m args below meth c s₁ B hml hv
  obtain ⟨rfl, hsz, hP, hK, hD0, hSD⟩ := hv
  have hx := B.exec
  have hb := B.bytes
  have hr := B.returns
  have hlocks := B.notSynchronized
  have hts : ∀ w ∈ gT, w.before _ s = true := fun w h => atoms_spec (ws := Cond.code yX10_doGuess cX10_doGuess 4 none :: gT) B.pre w (List.mem_cons_of_mem _ h)
  have hown : s.vm.findClass RX10 = some m.cls := findClass_of_methodNamed B.named
  subst hsz
  have hD := hD0.self (sz := s.heap.size)
  generalize hAe : va_A w0 s.heap.size = A at hD hSD ⊢
  have hA : ∀ q : Nat, s.heap.size ≤ q → A q := fun q h => by rw [← hAe]; exact Or.inr h
  have hl := lv_entry ([.ref p0, .int p1, .int p2]) (n := 4) (Nat.le_of_ble_eq_true rfl)
  rw [lg_entry_eq]
  generalize (lg_sl ([.ref p0, .int p1, .int p2]) ++ List.replicate (4 - (lg_sl ([.ref p0, .int p1, .int p2])).length) Slot.unset).toArray = ls at hl ⊢
  have hl : lv_has ls 4 [(0, .ref p0), (1, .int p1), (2, .int p2)] := hl
  refine nameQ (fun Q hQ => ?_)
  have hw : WD D cy GG A s wr_X10_doGuess__1 wa_X10_doGuess__1 Ps w0 Ps w0 s.heap [] := ⟨hT, hP, hD, va_S.rf, FR.rf, hT.1, [], (List.append_nil _).symm⟩
  refine lv_aload_n hx hb dX10_doGuess_0 rfl (lv_at hl 0 rfl) ?_
  refine tg_get (ci := 10) (ts := ty_MODEL) (C := RX10) (T := TX10) (N := 49) hx hb hts inX10 hown hK hw h_p0 rfl rfl 14 (by decide) (hts _ tw_1151) (fun _ h9 => h9) (ft := vR 34) rfl dX10_doGuess_1 (fun u_1 hv_u_1 m_u_1 => ?_)
  obtain ⟨vu_1, rfl, h_vu_1⟩ := hv_u_1
  refine lv_bipush (v := 112) hx hb dX10_doGuess_4 (by decide) ?_
  refine lv_iload_n hx hb dX10_doGuess_6 rfl (lv_at hl 1 rfl) ?_
  refine lv_iadd hx hb dX10_doGuess_7 (lv_topi (fun v_2 e_v_2 => ?_))
  obtain ⟨t_v_2, r_v_2⟩ := tq_add (lo := 112) (hi := 119) rl_112 r_p1 (by decide +kernel) e_v_2
  have t_v_2 : v_2.toInt = 112 + p1.toInt := t_v_2
  refine tg_iald (lo := (-1)) (hi := 5) hx hb hK hw h_vu_1 rfl 112 119 r_v_2 (by decide) (by decide +kernel) dX10_doGuess_8 (fun v_3 r_v_3 m_v_3 o_v_3 => ?_)
  have r_v_3 : RI v_3 0 5 := by obtain ⟨f9, h9, q9, g9⟩ := AX.use hw x_SITOK_p0_p1 h_vu_1 rfl m_u_1; have e9 := g9 _ _ m_v_3; have j9 : Int32.toNatClampNeg v_2 = 112 + Int32.toNatClampNeg p1 := (by have k1 := r_v_2.cl (by decide); have k2 := r_p1.cl (by decide); omega); rw [j9] at e9; rw [e9] at h9; exact ⟨h9, r_v_3.2⟩
  refine lv_istore_n (lv' := [(3, .int v_3), (0, .ref p0), (1, .int p1), (2, .int p2)]) hx hb dX10_doGuess_9 rfl hl (by decide) rfl (fun ls hl => ?_)
  refine lv_aload_n hx hb dX10_doGuess_10 rfl (lv_at hl 1 rfl) ?_
  refine lv_iload_n hx hb dX10_doGuess_11 rfl (lv_at hl 0 rfl) ?_
  refine tk_ir (va_runV (As := [.int v_3]) (rest := []) ⟨hx, hb, hml, hown, hts⟩ (c_X10_whatIs l D cy z s.heap.size Ps w0 hw.1 p0 v_3 h_p0 r_v_3) (cwV 1 hts (gV tw_1449 tw_1451 ts_69 tw_15 tw_1452) rfl rfl rfl (by decide +kernel) ⟨Nat.le_of_ble_eq_true rfl, Nat.le_of_ble_eq_true rfl⟩) (tg_preV hw hK hSD hA (ci := 10) (q := (RX10, TX10, 49)) rfl h_p0 rfl) rfl rfl hl.1 rfl (lv_room (Nat.le_of_ble_eq_true rfl)) dX10_doGuess_12 ⟨Nat.le_of_ble_eq_true rfl, Nat.le_of_ble_eq_true rfl⟩) hw hA (fun v_4  H locs hp_v_4 hw => ?_)
  have r_v_4 : RI v_4 (-1) 5 := hp_v_4.1
  by_cases c9_v_4 : v_4.toInt < 0
  · have r_v_4 : RI v_4 (-1) (-1) := by unfold RI at r_v_4 ⊢; omega
    have x_NB_p0_v_3 := (hp_v_4.2.2.2.2.1 (by omega)).1
    refine lv_iload_n hx hb dX10_doGuess_15 rfl (lv_at hl 3 rfl) ?_
    refine lv_icmp_ne (tgt := 39) hx hb dX10_doGuess_16 (by decide) (fun c_16 => ?_) (fun c_16 => ?_)
    · refine lv_aload_n hx hb dX10_doGuess_39 rfl (lv_at hl 1 rfl) ?_
      refine lv_iload_n hx hb dX10_doGuess_40 rfl (lv_at hl 0 rfl) ?_
      refine lv_iload_n hx hb dX10_doGuess_41 rfl (lv_at hl 3 rfl) ?_
      refine lv_iconst (v := 1) hx hb dX10_doGuess_42 (by decide) ?_
      have hw8 := hw
      refine tk_v (va_runV (As := [.int v_3, .int p2, .int 1]) (rest := []) ⟨hx, hb, hml, hown, hts⟩ (c_X10_adds__1 l D cy z H.size Ps w0 hw.1 p0 v_3 p2 1 (gdR) h_p0 r_v_3 r_p2 (rl_1.to (by decide)) x_HD_p0_gdR) (cwV 3 hts (gV tw_1521 tw_1523 ts_82 tw_15 tw_1524) rfl rfl rfl (by decide +kernel) ⟨Nat.le_of_ble_eq_true rfl, Nat.le_of_ble_eq_true rfl⟩) (tg_preV hw hK hSD hA (ci := 10) (q := (RX10, TX10, 49)) rfl h_p0 rfl) rfl rfl hl.1 rfl (lv_room (Nat.le_of_ble_eq_true rfl)) dX10_doGuess_43 ⟨Nat.le_of_ble_eq_true rfl, Nat.le_of_ble_eq_true rfl⟩) hw hA ⟨by decide, by decide⟩ (fun ws H locs hp_v_5 hw hF9 => ?_)
      have m_u_1 := FLD.over hF9 m_u_1 (by decide)
      obtain ⟨x_HD_p0_gdR, hp_v_5⟩ := hp_v_5
      refine lv_aload_n hx hb dX10_doGuess_46 rfl (lv_at hl 1 rfl) ?_
      refine tg_mem (ci := 10) (C := RX10) (T := TX10) (N := 49) hx hb hts inX10 hown hK hw 14 m_u_1 rfl (by decide) (hts _ tw_1151) (fun _ h9 => h9) dX10_doGuess_47 ?_
      refine lv_sipush (v := 128) hx hb dX10_doGuess_50 (by decide) ?_
      refine lv_iload_n hx hb dX10_doGuess_53 rfl (lv_at hl 2 rfl) ?_
      refine lv_iadd hx hb dX10_doGuess_54 (lv_topi (fun v_6 e_v_6 => ?_))
      obtain ⟨t_v_6, r_v_6⟩ := tq_add (lo := 128) (hi := 135) rl_128 r_p1 (by decide +kernel) e_v_6
      have t_v_6 : v_6.toInt = 128 + p1.toInt := t_v_6
      refine lv_dup2_11 hx hb dX10_doGuess_55 rfl rfl ?_
      refine tg_iald (lo := (-2147483648)) (hi := 2147483647) hx hb hK hw h_vu_1 rfl 128 135 r_v_6 (by decide) (by decide +kernel) dX10_doGuess_56 (fun v_7 r_v_7 m_v_7 o_v_7 => ?_)
      refine lv_iconst (v := 1) hx hb dX10_doGuess_57 (by decide) ?_
      refine lv_iadd hx hb dX10_doGuess_58 (lv_topi (fun v_8 e_v_8 => ?_))
      have r_v_8 := ri_any v_8
      have hw8 := hw
      refine tg_iast hx hb hK hw h_vu_1 rfl 128 135 r_v_6 (by decide) r_v_8 (by decide +kernel) (RN_upd (by decide) (by decide)) (by decide) dX10_doGuess_59 (fun ws H locs hw hF9 hU9 => ?_)
      have x_HD_p0_gdR : AX 14 34 (HDp gdR) Ps ws p0 := AX.ast hF9 hU9 x_HD_p0_gdR m_u_1 (fun f9 h9 => HDp.upd h9 (by have k1 := r_v_6.cl (by decide); have k2 := r_v_6.1; omega))
      have m_u_1 := FLD.over hF9 m_u_1 (by decide)
      subst hQ
      exact W.vret hx hb hr (fun t ht hW => ⟨⟨ws, rfl, ⟨⟨x_HD_p0_gdR, trivial⟩, hw.1, hw.2.2.2.2.1⟩, by rw [ht]; exact hw.2.1, va_K.moved hW.alike hK, hw.2.2.1⟩, hw.2.2.2.1.F ht⟩) hw.2.2.2.1.2.2 dX10_doGuess_60
    · have r_v_4 : RI v_4 0 (-1) := rc_eq1 r_v_4 r_p2 (ti_eq c_16) (by decide)
      have r_p2 : RI p2 0 (-1) := rc_eq2 r_v_4 r_p2 (ti_eq c_16) (by decide)
      exact (r_v_4.no (by decide)).elim
  · have r_v_4 : RI v_4 0 5 := by unfold RI at r_v_4 ⊢; omega
    have x_WB_p0_v_3_v_4 := (hp_v_4.2.2.2.2.2 (by omega)).1
    refine lv_iload_n hx hb dX10_doGuess_15 rfl (lv_at hl 3 rfl) ?_
    refine lv_icmp_ne (tgt := 39) hx hb dX10_doGuess_16 (by decide) (fun c_16 => ?_) (fun c_16 => ?_)
    · refine lv_aload_n hx hb dX10_doGuess_39 rfl (lv_at hl 1 rfl) ?_
      refine lv_iload_n hx hb dX10_doGuess_40 rfl (lv_at hl 0 rfl) ?_
      refine lv_iload_n hx hb dX10_doGuess_41 rfl (lv_at hl 3 rfl) ?_
      refine lv_iconst (v := 1) hx hb dX10_doGuess_42 (by decide) ?_
      have hw8 := hw
      refine tk_v (va_runV (As := [.int v_3, .int p2, .int 1]) (rest := []) ⟨hx, hb, hml, hown, hts⟩ (c_X10_adds__1 l D cy z H.size Ps w0 hw.1 p0 v_3 p2 1 (gdR) h_p0 r_v_3 r_p2 (rl_1.to (by decide)) x_HD_p0_gdR) (cwV 3 hts (gV tw_1521 tw_1523 ts_82 tw_15 tw_1524) rfl rfl rfl (by decide +kernel) ⟨Nat.le_of_ble_eq_true rfl, Nat.le_of_ble_eq_true rfl⟩) (tg_preV hw hK hSD hA (ci := 10) (q := (RX10, TX10, 49)) rfl h_p0 rfl) rfl rfl hl.1 rfl (lv_room (Nat.le_of_ble_eq_true rfl)) dX10_doGuess_43 ⟨Nat.le_of_ble_eq_true rfl, Nat.le_of_ble_eq_true rfl⟩) hw hA ⟨by decide, by decide⟩ (fun ws H locs hp_v_9 hw hF9 => ?_)
      have m_u_1 := FLD.over hF9 m_u_1 (by decide)
      obtain ⟨x_HD_p0_gdR, hp_v_9⟩ := hp_v_9
      refine lv_aload_n hx hb dX10_doGuess_46 rfl (lv_at hl 1 rfl) ?_
      refine tg_mem (ci := 10) (C := RX10) (T := TX10) (N := 49) hx hb hts inX10 hown hK hw 14 m_u_1 rfl (by decide) (hts _ tw_1151) (fun _ h9 => h9) dX10_doGuess_47 ?_
      refine lv_sipush (v := 128) hx hb dX10_doGuess_50 (by decide) ?_
      refine lv_iload_n hx hb dX10_doGuess_53 rfl (lv_at hl 2 rfl) ?_
      refine lv_iadd hx hb dX10_doGuess_54 (lv_topi (fun v_10 e_v_10 => ?_))
      obtain ⟨t_v_10, r_v_10⟩ := tq_add (lo := 128) (hi := 135) rl_128 r_p1 (by decide +kernel) e_v_10
      have t_v_10 : v_10.toInt = 128 + p1.toInt := t_v_10
      refine lv_dup2_11 hx hb dX10_doGuess_55 rfl rfl ?_
      refine tg_iald (lo := (-2147483648)) (hi := 2147483647) hx hb hK hw h_vu_1 rfl 128 135 r_v_10 (by decide) (by decide +kernel) dX10_doGuess_56 (fun v_11 r_v_11 m_v_11 o_v_11 => ?_)
      refine lv_iconst (v := 1) hx hb dX10_doGuess_57 (by decide) ?_
      refine lv_iadd hx hb dX10_doGuess_58 (lv_topi (fun v_12 e_v_12 => ?_))
      have r_v_12 := ri_any v_12
      have hw8 := hw
      refine tg_iast hx hb hK hw h_vu_1 rfl 128 135 r_v_10 (by decide) r_v_12 (by decide +kernel) (RN_upd (by decide) (by decide)) (by decide) dX10_doGuess_59 (fun ws H locs hw hF9 hU9 => ?_)
      have x_HD_p0_gdR : AX 14 34 (HDp gdR) Ps ws p0 := AX.ast hF9 hU9 x_HD_p0_gdR m_u_1 (fun f9 h9 => HDp.upd h9 (by have k1 := r_v_10.cl (by decide); have k2 := r_v_10.1; omega))
      have m_u_1 := FLD.over hF9 m_u_1 (by decide)
      subst hQ
      exact W.vret hx hb hr (fun t ht hW => ⟨⟨ws, rfl, ⟨⟨x_HD_p0_gdR, trivial⟩, hw.1, hw.2.2.2.2.1⟩, by rw [ht]; exact hw.2.1, va_K.moved hW.alike hK, hw.2.2.1⟩, hw.2.2.2.1.F ht⟩) hw.2.2.2.1.2.2 dX10_doGuess_60
    · refine lv_aload_n hx hb dX10_doGuess_19 rfl (lv_at hl 1 rfl) ?_
      refine lv_iload_n hx hb dX10_doGuess_20 rfl (lv_at hl 0 rfl) ?_
      refine lv_iload_n hx hb dX10_doGuess_21 rfl (lv_at hl 3 rfl) ?_
      have hw8 := hw
      refine tk_v (va_runV (As := [.int v_3, .int p2]) (rest := []) ⟨hx, hb, hml, hown, hts⟩ (c_X10_less__2 l D cy z H.size Ps w0 hw.1 p0 v_3 p2 (gdR) h_p0 r_v_3 r_p2 x_HD_p0_gdR) (cwV 2 hts (gV tw_1517 tw_1519 ts_81 tw_15 tw_1520) rfl rfl rfl (by decide +kernel) ⟨Nat.le_of_ble_eq_true rfl, Nat.le_of_ble_eq_true rfl⟩) (tg_preV hw hK hSD hA (ci := 10) (q := (RX10, TX10, 49)) rfl h_p0 rfl) rfl rfl hl.1 rfl (lv_room (Nat.le_of_ble_eq_true rfl)) dX10_doGuess_22 ⟨Nat.le_of_ble_eq_true rfl, Nat.le_of_ble_eq_true rfl⟩) hw hA ⟨by decide, by decide⟩ (fun ws H locs hp_v_13 hw hF9 => ?_)
      have m_u_1 := FLD.over hF9 m_u_1 (by decide)
      obtain ⟨x_HD_p0_gdR, hp_v_13⟩ := hp_v_13
      refine lv_aload_n hx hb dX10_doGuess_25 rfl (lv_at hl 1 rfl) ?_
      refine tg_mem (ci := 10) (C := RX10) (T := TX10) (N := 49) hx hb hts inX10 hown hK hw 14 m_u_1 rfl (by decide) (hts _ tw_1151) (fun _ h9 => h9) dX10_doGuess_26 ?_
      refine lv_bipush (v := 120) hx hb dX10_doGuess_29 (by decide) ?_
      refine lv_iload_n hx hb dX10_doGuess_31 rfl (lv_at hl 2 rfl) ?_
      refine lv_iadd hx hb dX10_doGuess_32 (lv_topi (fun v_14 e_v_14 => ?_))
      obtain ⟨t_v_14, r_v_14⟩ := tq_add (lo := 120) (hi := 127) rl_120 r_p1 (by decide +kernel) e_v_14
      have t_v_14 : v_14.toInt = 120 + p1.toInt := t_v_14
      refine lv_dup2_11 hx hb dX10_doGuess_33 rfl rfl ?_
      refine tg_iald (lo := (-2147483648)) (hi := 2147483647) hx hb hK hw h_vu_1 rfl 120 127 r_v_14 (by decide) (by decide +kernel) dX10_doGuess_34 (fun v_15 r_v_15 m_v_15 o_v_15 => ?_)
      refine lv_iconst (v := 1) hx hb dX10_doGuess_35 (by decide) ?_
      refine lv_iadd hx hb dX10_doGuess_36 (lv_topi (fun v_16 e_v_16 => ?_))
      have r_v_16 := ri_any v_16
      have hw8 := hw
      refine tg_iast hx hb hK hw h_vu_1 rfl 120 127 r_v_14 (by decide) r_v_16 (by decide +kernel) (RN_upd (by decide) (by decide)) (by decide) dX10_doGuess_37 (fun ws H locs hw hF9 hU9 => ?_)
      have x_HD_p0_gdR : AX 14 34 (HDp gdR) Ps ws p0 := AX.ast hF9 hU9 x_HD_p0_gdR m_u_1 (fun f9 h9 => HDp.upd h9 (by have k1 := r_v_14.cl (by decide); have k2 := r_v_14.1; omega))
      have m_u_1 := FLD.over hF9 m_u_1 (by decide)
      subst hQ
      exact W.vret hx hb hr (fun t ht hW => ⟨⟨ws, rfl, ⟨⟨x_HD_p0_gdR, trivial⟩, hw.1, hw.2.2.2.2.1⟩, by rw [ht]; exact hw.2.1, va_K.moved hW.alike hK, hw.2.2.1⟩, hw.2.2.2.1.F ht⟩) hw.2.2.2.1.2.2 dX10_doGuess_38
abbrev wr_X10_live__12 : List (Nat × Nat) := []
abbrev wa_X10_live__12 : List Nat := [34]
set_option maxHeartbeats 4000000 in
set_option maxRecDepth 100000 in
theorem c_X10_live__12 (l : Launch) (D : va_G) (cy : Nat → ClassId) (z : Nat → Nat) (sz : Nat) (Ps : PSI) (w0 : va_W) (hT : HT cy GG Ps w0) (p0 : Nat) (p1 : Int32) (p2 : Int32) (p3 : Int32) (gdR : Nat → Int32) (h_p0 : (p0, 55) ∈ Ps) (r_p1 : RI p1 3 3) (r_p2 : RI p2 0 7) (r_p3 : RI p3 0 5) (x_SITOK_p0_p2 : AX 14 34 (fun f => 0 ≤ (f (112 + Int32.toNatClampNeg p2)).toInt) Ps w0 p0) (x_HD_p0_gdR : AX 14 34 (HDp gdR) Ps w0 p0) : Met l yX10_live (Cond.code yX10_live cX10_live 4 none :: gT) ({ frames := 4, cells := 0, slots := 0, locals := 800 } : Room) (va_Pc [.ref p0, .int p1, .int p2, .int p3] (PRE D cy z w0 sz)) (va_Qv (fun (u : va_W) => ((AX 14 34 (HDp gdR) Ps u p0) ∧ (True)) ∧ HT cy GG Ps u ∧ FR wr_X10_live__12 wa_X10_live__12 Ps w0 u) (BB D cy (va_A w0 sz) (fun (u : va_W) => u)) (va_A w0 sz)) 0 0 (va_A w0 sz) := by
  refine Met.ofW (cc := cX10_live) (maxL := 4) (ret := none) (by decide) rfl ?_
  intro p e s m args below meth c s₁ B hml hv
  obtain ⟨rfl, hsz, hP, hK, hD0, hSD⟩ := hv
  have hx := B.exec
  have hb := B.bytes
  have hr := B.returns
  have hlocks := B.notSynchronized
  have hts : ∀ w ∈ gT, w.before _ s = true := fun w h => atoms_spec (ws := Cond.code yX10_live cX10_live 4 none :: gT) B.pre w (List.mem_cons_of_mem _ h)
  have hown : s.vm.findClass RX10 = some m.cls := findClass_of_methodNamed B.named
  subst hsz
  have hD := hD0.self (sz := s.heap.size)
  generalize hAe : va_A w0 s.heap.size = A at hD hSD ⊢
  have hA : ∀ q : Nat, s.heap.size ≤ q → A q := fun q h => by rw [← hAe]; exact Or.inr h
  have hl := lv_entry ([.ref p0, .int p1, .int p2, .int p3]) (n := 4) (Nat.le_of_ble_eq_true rfl)
  rw [lg_entry_eq]
  generalize (lg_sl ([.ref p0, .int p1, .int p2, .int p3]) ++ List.replicate (4 - (lg_sl ([.ref p0, .int p1, .int p2, .int p3])).length) Slot.unset).toArray = ls at hl ⊢
  have hl : lv_has ls 4 [(0, .ref p0), (1, .int p1), (2, .int p2), (3, .int p3)] := hl
  refine nameQ (fun Q hQ => ?_)
  have hw : WD D cy GG A s wr_X10_live__12 wa_X10_live__12 Ps w0 Ps w0 s.heap [] := ⟨hT, hP, hD, va_S.rf, FR.rf, hT.1, [], (List.append_nil _).symm⟩
  refine lv_iload_n hx hb dX10_live_0 rfl (lv_at hl 1 rfl) ?_
  have w_1 := r_p1
  by_cases cl_1 : p1.toInt < 0 ∨ 4 < p1.toInt
  · refine lv_tableOut (tgt := 90) hx hb dX10_live_1 cl_1 (by decide) ?_
    exact absurd cl_1 (by unfold RI at w_1; omega)
  · have e_1 : p1.toInt = 0 ∨ p1.toInt = 1 ∨ p1.toInt = 2 ∨ p1.toInt = 3 ∨ p1.toInt = 4 := by omega
    rcases e_1 with h_1 | h_1 | h_1 | h_1 | h_1
    · exact absurd h_1 (by unfold RI at w_1; omega)
    · exact absurd h_1 (by unfold RI at w_1; omega)
    · exact absurd h_1 (by unfold RI at w_1; omega)
    · refine lv_tableIn (tgt := 69) (off := 68) hx hb dX10_live_1 (by omega) (by omega) (by rw [h_1]; rfl) (by decide) ?_
      have r_p1 : RI p1 3 3 := ⟨by omega, by omega⟩
      refine lv_aload_n hx hb dX10_live_69 rfl (lv_at hl 0 rfl) ?_
      refine lv_iload_n hx hb dX10_live_70 rfl (lv_at hl 2 rfl) ?_
      refine lv_iload_n hx hb dX10_live_71 rfl (lv_at hl 3 rfl) ?_
      refine tk_v (va_runV (As := [.int p2, .int p3]) (rest := []) ⟨hx, hb, hml, hown, hts⟩ (c_X10_doGuess__1 l D cy z s.heap.size Ps w0 hw.1 p0 p2 p3 (gdR) h_p0 r_p2 r_p3 x_SITOK_p0_p2 x_HD_p0_gdR) (cwV 2 hts (gV tw_1513 tw_1515 ts_80 tw_15 tw_1516) rfl rfl rfl (by decide +kernel) ⟨Nat.le_of_ble_eq_true rfl, Nat.le_of_ble_eq_true rfl⟩) (tg_preV hw hK hSD hA (ci := 10) (q := (RX10, TX10, 49)) rfl h_p0 rfl) rfl rfl hl.1 rfl (lv_room (Nat.le_of_ble_eq_true rfl)) dX10_live_72 ⟨Nat.le_of_ble_eq_true rfl, Nat.le_of_ble_eq_true rfl⟩) hw hA ⟨by decide, by decide⟩ (fun ws H locs hp_v_1 hw hF9 => ?_)
      obtain ⟨x_HD_p0_gdR, hp_v_1⟩ := hp_v_1
      subst hQ
      exact W.vret hx hb hr (fun t ht hW => ⟨⟨ws, rfl, ⟨⟨x_HD_p0_gdR, trivial⟩, hw.1, hw.2.2.2.2.1⟩, by rw [ht]; exact hw.2.1, va_K.moved hW.alike hK, hw.2.2.1⟩, hw.2.2.2.1.F ht⟩) hw.2.2.2.1.2.2 dX10_live_75
    · exact absurd h_1 (by unfold RI at w_1; omega)
abbrev wr_X10_live__13 : List (Nat × Nat) := []
abbrev wa_X10_live__13 : List Nat := [34]
set_option maxHeartbeats 4000000 in
set_option maxRecDepth 100000 in
theorem c_X10_live__13 (l : Launch) (D : va_G) (cy : Nat → ClassId) (z : Nat → Nat) (sz : Nat) (Ps : PSI) (w0 : va_W) (hT : HT cy GG Ps w0) (p0 : Nat) (p1 : Int32) (p2 : Int32) (p3 : Int32) (gdR : Nat → Int32) (h_p0 : (p0, 55) ∈ Ps) (r_p1 : RI p1 4 4) (r_p2 : RI p2 0 7) (r_p3 : RI p3 0 5) (x_HD_p0_gdR : AX 14 34 (HDp gdR) Ps w0 p0) : Met l yX10_live (Cond.code yX10_live cX10_live 4 none :: gT) ({ frames := 0, cells := 0, slots := 0, locals := 200 } : Room) (va_Pc [.ref p0, .int p1, .int p2, .int p3] (PRE D cy z w0 sz)) (va_Qv (fun (u : va_W) => ((AX 14 34 (HDp gdR) Ps u p0) ∧ (True)) ∧ HT cy GG Ps u ∧ FR wr_X10_live__13 wa_X10_live__13 Ps w0 u) (BB D cy (va_A w0 sz) (fun (u : va_W) => u)) (va_A w0 sz)) 0 0 (va_A w0 sz) := by
  refine Met.ofW (cc := cX10_live) (maxL := 4) (ret := none) (by decide) rfl ?_
  intro p e s m args below meth c s₁ B hml hv
  obtain ⟨rfl, hsz, hP, hK, hD0, hSD⟩ := hv
  have hx := B.exec
  have hb := B.bytes
  have hr := B.returns
  have hlocks := B.notSynchronized
  have hts : ∀ w ∈ gT, w.before _ s = true := fun w h => atoms_spec (ws := Cond.code yX10_live cX10_live 4 none :: gT) B.pre w (List.mem_cons_of_mem _ h)
  have hown : s.vm.findClass RX10 = some m.cls := findClass_of_methodNamed B.named
  subst hsz
  have hD := hD0.self (sz := s.heap.size)
  generalize hAe : va_A w0 s.heap.size = A at hD hSD ⊢
  have hA : ∀ q : Nat, s.heap.size ≤ q → A q := fun q h => by rw [← hAe]; exact Or.inr h
  have hl := lv_entry ([.ref p0, .int p1, .int p2, .int p3]) (n := 4) (Nat.le_of_ble_eq_true rfl)
  rw [lg_entry_eq]
  generalize (lg_sl ([.ref p0, .int p1, .int p2, .int p3]) ++ List.replicate (4 - (lg_sl ([.ref p0, .int p1, .int p2, .int p3])).length) Slot.unset).toArray = ls at hl ⊢
  have hl : lv_has ls 4 [(0, .ref p0), (1, .int p1), (2, .int p2), (3, .int p3)] := hl
  refine nameQ (fun Q hQ => ?_)
  have hw : WD D cy GG A s wr_X10_live__13 wa_X10_live__13 Ps w0 Ps w0 s.heap [] := ⟨hT, hP, hD, va_S.rf, FR.rf, hT.1, [], (List.append_nil _).symm⟩
  refine lv_iload_n hx hb dX10_live_0 rfl (lv_at hl 1 rfl) ?_
  have w_1 := r_p1
  by_cases cl_1 : p1.toInt < 0 ∨ 4 < p1.toInt
  · refine lv_tableOut (tgt := 90) hx hb dX10_live_1 cl_1 (by decide) ?_
    exact absurd cl_1 (by unfold RI at w_1; omega)
  · have e_1 : p1.toInt = 0 ∨ p1.toInt = 1 ∨ p1.toInt = 2 ∨ p1.toInt = 3 ∨ p1.toInt = 4 := by omega
    rcases e_1 with h_1 | h_1 | h_1 | h_1 | h_1
    · exact absurd h_1 (by unfold RI at w_1; omega)
    · exact absurd h_1 (by unfold RI at w_1; omega)
    · exact absurd h_1 (by unfold RI at w_1; omega)
    · exact absurd h_1 (by unfold RI at w_1; omega)
    · refine lv_tableIn (tgt := 76) (off := 75) hx hb dX10_live_1 (by omega) (by omega) (by rw [h_1]; rfl) (by decide) ?_
      have r_p1 : RI p1 4 4 := ⟨by omega, by omega⟩
      refine lv_aload_n hx hb dX10_live_76 rfl (lv_at hl 0 rfl) ?_
      refine tg_get (ci := 10) (ts := ty_MODEL) (C := RX10) (T := TX10) (N := 49) hx hb hts inX10 hown hK hw h_p0 rfl rfl 14 (by decide) (hts _ tw_1151) (fun _ h9 => h9) (ft := vR 34) rfl dX10_live_77 (fun u_1 hv_u_1 m_u_1 => ?_)
      obtain ⟨vu_1, rfl, h_vu_1⟩ := hv_u_1
      refine lv_bipush (v := 85) hx hb dX10_live_80 (by decide) ?_
      refine lv_dup2_11 hx hb dX10_live_82 rfl rfl ?_
      refine tg_iald (lo := (-2147483648)) (hi := 2147483647) hx hb hK hw h_vu_1 rfl 85 85 rl_85 (by decide) (by decide +kernel) dX10_live_83 (fun v_2 r_v_2 m_v_2 o_v_2 => ?_)
      refine lv_iconst (v := 1) hx hb dX10_live_84 (by decide) ?_
      refine lv_iload_n hx hb dX10_live_85 rfl (lv_at hl 2 rfl) ?_
      refine lv_ishl hx hb dX10_live_86 (lv_topi (fun v_3 e_v_3 => ?_))
      have r_v_3 : RI v_3 1 256 := by rw [e_v_3]; exact ri_shl1 (r_p2.to (c := 0) (d := 7) (by decide)) (by decide)
      refine lv_ior hx hb dX10_live_87 (lv_topi (fun v_4 e_v_4 => ?_))
      have r_v_4 := ri_any v_4
      have hw8 := hw
      refine tg_iast hx hb hK hw h_vu_1 rfl 85 85 rl_85 (by decide) r_v_4 (by decide +kernel) (RN_upd (by decide) (by decide)) (by decide) dX10_live_88 (fun ws H locs hw hF9 hU9 => ?_)
      have x_HD_p0_gdR : AX 14 34 (HDp gdR) Ps ws p0 := AX.ast hF9 hU9 x_HD_p0_gdR m_u_1 (fun f9 h9 => HDp.upd h9 (by have k1 := rl_85.cl (by decide); have k2 := rl_85.1; omega))
      have m_u_1 := FLD.over hF9 m_u_1 (by decide)
      subst hQ
      exact W.vret hx hb hr (fun t ht hW => ⟨⟨ws, rfl, ⟨⟨x_HD_p0_gdR, trivial⟩, hw.1, hw.2.2.2.2.1⟩, by rw [ht]; exact hw.2.1, va_K.moved hW.alike hK, hw.2.2.1⟩, hw.2.2.2.1.F ht⟩) hw.2.2.2.1.2.2 dX10_live_89
abbrev wr_X10_live__14 : List (Nat × Nat) := []
abbrev wa_X10_live__14 : List Nat := [34]
set_option maxHeartbeats 4000000 in
set_option maxRecDepth 100000 in
theorem c_X10_live__14 (l : Launch) (D : va_G) (cy : Nat → ClassId) (z : Nat → Nat) (sz : Nat) (Ps : PSI) (w0 : va_W) (hT : HT cy GG Ps w0) (p0 : Nat) (p1 : Int32) (p2 : Int32) (p3 : Int32) (gdR : Nat → Int32) (h_p0 : (p0, 55) ∈ Ps) (r_p1 : RI p1 5 5) (r_p2 : RI p2 0 7) (r_p3 : RI p3 0 5) (x_HD_p0_gdR : AX 14 34 (HDp gdR) Ps w0 p0) : Met l yX10_live (Cond.code yX10_live cX10_live 4 none :: gT) ({ frames := 0, cells := 0, slots := 0, locals := 200 } : Room) (va_Pc [.ref p0, .int p1, .int p2, .int p3] (PRE D cy z w0 sz)) (va_Qv (fun (u : va_W) => ((AX 14 34 (HDp gdR) Ps u p0) ∧ (True)) ∧ HT cy GG Ps u ∧ FR wr_X10_live__14 wa_X10_live__14 Ps w0 u) (BB D cy (va_A w0 sz) (fun (u : va_W) => u)) (va_A w0 sz)) 0 0 (va_A w0 sz) := by
  refine Met.ofW (cc := cX10_live) (maxL := 4) (ret := none) (by decide) rfl ?_
  intro p e s m args below meth c s₁ B hml hv
  obtain ⟨rfl, hsz, hP, hK, hD0, hSD⟩ := hv
  have hx := B.exec
  have hb := B.bytes
  have hr := B.returns
  have hlocks := B.notSynchronized
  have hts : ∀ w ∈ gT, w.before _ s = true := fun w h => atoms_spec (ws := Cond.code yX10_live cX10_live 4 none :: gT) B.pre w (List.mem_cons_of_mem _ h)
  have hown : s.vm.findClass RX10 = some m.cls := findClass_of_methodNamed B.named
  subst hsz
  have hD := hD0.self (sz := s.heap.size)
  generalize hAe : va_A w0 s.heap.size = A at hD hSD ⊢
  have hA : ∀ q : Nat, s.heap.size ≤ q → A q := fun q h => by rw [← hAe]; exact Or.inr h
  have hl := lv_entry ([.ref p0, .int p1, .int p2, .int p3]) (n := 4) (Nat.le_of_ble_eq_true rfl)
  rw [lg_entry_eq]
  generalize (lg_sl ([.ref p0, .int p1, .int p2, .int p3]) ++ List.replicate (4 - (lg_sl ([.ref p0, .int p1, .int p2, .int p3])).length) Slot.unset).toArray = ls at hl ⊢
  have hl : lv_has ls 4 [(0, .ref p0), (1, .int p1), (2, .int p2), (3, .int p3)] := hl
  refine nameQ (fun Q hQ => ?_)
  have hw : WD D cy GG A s wr_X10_live__14 wa_X10_live__14 Ps w0 Ps w0 s.heap [] := ⟨hT, hP, hD, va_S.rf, FR.rf, hT.1, [], (List.append_nil _).symm⟩
  refine lv_iload_n hx hb dX10_live_0 rfl (lv_at hl 1 rfl) ?_
  have w_1 := r_p1
  by_cases cl_1 : p1.toInt < 0 ∨ 4 < p1.toInt
  · refine lv_tableOut (tgt := 90) hx hb dX10_live_1 cl_1 (by decide) ?_
    refine lv_aload_n hx hb dX10_live_90 rfl (lv_at hl 0 rfl) ?_
    refine tg_get (ci := 10) (ts := ty_MODEL) (C := RX10) (T := TX10) (N := 49) hx hb hts inX10 hown hK hw h_p0 rfl rfl 14 (by decide) (hts _ tw_1151) (fun _ h9 => h9) (ft := vR 34) rfl dX10_live_91 (fun u_1 hv_u_1 m_u_1 => ?_)
    obtain ⟨vu_1, rfl, h_vu_1⟩ := hv_u_1
    refine lv_bipush (v := 86) hx hb dX10_live_94 (by decide) ?_
    refine lv_iload_n hx hb dX10_live_96 rfl (lv_at hl 2 rfl) ?_
    refine lv_iadd hx hb dX10_live_97 (lv_topi (fun v_2 e_v_2 => ?_))
    obtain ⟨t_v_2, r_v_2⟩ := tq_add (lo := 86) (hi := 93) rl_86 r_p2 (by decide +kernel) e_v_2
    have t_v_2 : v_2.toInt = 86 + p2.toInt := t_v_2
    refine lv_iload_n hx hb dX10_live_98 rfl (lv_at hl 3 rfl) ?_
    refine tg_iast hx hb hK hw h_vu_1 rfl 86 93 r_v_2 (by decide) r_p3 (by decide +kernel) (RN_upd (by decide) (by decide)) (by decide) dX10_live_99 (fun ws H locs hw hF9 hU9 => ?_)
    have x_HD_p0_gdR : AX 14 34 (HDp gdR) Ps ws p0 := AX.ast hF9 hU9 x_HD_p0_gdR m_u_1 (fun f9 h9 => HDp.upd h9 (by have k1 := r_v_2.cl (by decide); have k2 := r_v_2.1; omega))
    have m_u_1 := FLD.over hF9 m_u_1 (by decide)
    subst hQ
    exact W.vret hx hb hr (fun t ht hW => ⟨⟨ws, rfl, ⟨⟨x_HD_p0_gdR, trivial⟩, hw.1, hw.2.2.2.2.1⟩, by rw [ht]; exact hw.2.1, va_K.moved hW.alike hK, hw.2.2.1⟩, hw.2.2.2.1.F ht⟩) hw.2.2.2.1.2.2 dX10_live_100
  · have e_1 : p1.toInt = 0 ∨ p1.toInt = 1 ∨ p1.toInt = 2 ∨ p1.toInt = 3 ∨ p1.toInt = 4 := by omega
    rcases e_1 with h_1 | h_1 | h_1 | h_1 | h_1
    · exact absurd h_1 (by unfold RI at w_1; omega)
    · exact absurd h_1 (by unfold RI at w_1; omega)
    · exact absurd h_1 (by unfold RI at w_1; omega)
    · exact absurd h_1 (by unfold RI at w_1; omega)
    · exact absurd h_1 (by unfold RI at w_1; omega)
abbrev wr_X10_wonders__1 : List (Nat × Nat) := []
abbrev wa_X10_wonders__1 : List Nat := [34]
set_option maxHeartbeats 4000000 in
set_option maxRecDepth 100000 in
theorem c_X10_wonders__1 (l : Launch) (D : va_G) (cy : Nat → ClassId) (z : Nat → Nat) (sz : Nat) (Ps : PSI) (w0 : va_W) (hT : HT cy GG Ps w0) (p0 : Nat) (p1 : Int32) (gdR : Nat → Int32) (h_p0 : (p0, 55) ∈ Ps) (r_p1 : RI p1 0 7) (x_HD_p0_gdR : AX 14 34 (HDp gdR) Ps w0 p0) : Met l yX10_wonders (Cond.code yX10_wonders cX10_wonders 4 none :: gT) ({ frames := 3, cells := 0, slots := 0, locals := 600 } : Room) (va_Pc [.ref p0, .int p1] (PRE D cy z w0 sz)) (va_Qv (fun (u : va_W) => ((AX 14 34 (HDp gdR) Ps u p0) ∧ (True)) ∧ HT cy GG Ps u ∧ FR wr_X10_wonders__1 wa_X10_wonders__1 Ps w0 u) (BB D cy (va_A w0 sz) (fun (u : va_W) => u)) (va_A w0 sz)) 0 0 (va_A w0 sz) := by
  refine Met.ofW (cc := cX10_wonders) (maxL := 4) (ret := none) (by decide) rfl ?_
  intro p e s m args below meth c s₁ B hml hv
  obtain ⟨rfl, hsz, hP, hK, hD0, hSD⟩ := hv
  have hx := B.exec
  have hb := B.bytes
  have hr := B.returns
  have hlocks := B.notSynchronized
  have hts : ∀ w ∈ gT, w.before _ s = true := fun w h => atoms_spec (ws := Cond.code yX10_wonders cX10_wonders 4 none :: gT) B.pre w (List.mem_cons_of_mem _ h)
  have hown : s.vm.findClass RX10 = some m.cls := findClass_of_methodNamed B.named
  subst hsz
  have hD := hD0.self (sz := s.heap.size)
  generalize hAe : va_A w0 s.heap.size = A at hD hSD ⊢
  have hA : ∀ q : Nat, s.heap.size ≤ q → A q := fun q h => by rw [← hAe]; exact Or.inr h
  have hl := lv_entry ([.ref p0, .int p1]) (n := 4) (Nat.le_of_ble_eq_true rfl)
  rw [lg_entry_eq]
  generalize (lg_sl ([.ref p0, .int p1]) ++ List.replicate (4 - (lg_sl ([.ref p0, .int p1])).length) Slot.unset).toArray = ls at hl ⊢
  have hl : lv_has ls 4 [(0, .ref p0), (1, .int p1)] := hl
  refine nameQ (fun Q hQ => ?_)
  have hw : WD D cy GG A s wr_X10_wonders__1 wa_X10_wonders__1 Ps w0 Ps w0 s.heap [] := ⟨hT, hP, hD, va_S.rf, FR.rf, hT.1, [], (List.append_nil _).symm⟩
  have B49 : ∀ (nf : Nat) (x2 : Int32) (x3 : Int32) (ws : va_W) (H : Heap) (locs : List Loc) (ls : Array Slot), 6 - x3.toInt < (nf : Int) → RI p1 0 7 → RI x2 0 5 → RI x3 0 6 → AX 14 34 (HDp gdR) Ps ws p0 → WD D cy GG A s wr_X10_wonders__1 wa_X10_wonders__1 Ps w0 Ps ws H locs → lv_has ls 4 [(0, .ref p0), (1, .int p1), (2, .int x2), (3, .int x3)] → W p l e (headSpec (Cond.code yX10_wonders cX10_wonders 4 none :: gT) ({ frames := 3, cells := 0, slots := 0, locals := 600 } : Room)).room s m ([.ref p0, .int p1] : List Value).toArray below meth c H locs 0 0 Q (F0 m 49 ls []) := by
    intro nf49
    induction nf49 with
    | zero =>
      intro x2 x3 ws H locs ls hn49 r_p1 r_x2 r_x3 x_HD_p0_gdR hw hl
      exact absurd hn49 (by have q0 := r_x3.1; have u0 := r_x3.2; omega)
    | succ nf49 ih49 =>
      intro x2 x3 ws H locs ls hn49 r_p1 r_x2 r_x3 x_HD_p0_gdR hw hl
      refine lv_iload_n hx hb dX10_wonders_49 rfl (lv_at hl 3 rfl) ?_
      refine lv_aload_n hx hb dX10_wonders_50 rfl (lv_at hl 0 rfl) ?_
      refine tg_get (ci := 10) (ts := ty_MODEL) (C := RX10) (T := TX10) (N := 49) hx hb hts inX10 hown hK hw h_p0 rfl rfl 14 (by decide) (hts _ tw_1151) (fun _ h9 => h9) (ft := vR 34) rfl dX10_wonders_51 (fun u_1 hv_u_1 m_u_1 => ?_)
      obtain ⟨vu_1, rfl, h_vu_1⟩ := hv_u_1
      refine lv_iconst (v := 2) hx hb dX10_wonders_54 (by decide) ?_
      refine tg_iald (lo := 0) (hi := 6) hx hb hK hw h_vu_1 rfl 2 2 rl_2 (by decide) (by decide +kernel) dX10_wonders_55 (fun v_2 r_v_2 m_v_2 o_v_2 => ?_)
      refine lv_icmp_ge (tgt := 119) hx hb dX10_wonders_56 (by decide) (fun c_56 => ?_) (fun c_56 => ?_)
      · subst hQ
        exact W.vret hx hb hr (fun t ht hW => ⟨⟨ws, rfl, ⟨⟨x_HD_p0_gdR, trivial⟩, hw.1, hw.2.2.2.2.1⟩, by rw [ht]; exact hw.2.1, va_K.moved hW.alike hK, hw.2.2.1⟩, hw.2.2.2.1.F ht⟩) hw.2.2.2.1.2.2 dX10_wonders_119
      · have r_x3 : RI x3 0 5 := rc_lt1 r_x3 r_v_2 (ti_nle c_56) (by decide)
        have r_v_2 : RI v_2 1 6 := rc_lt2 r_x3 r_v_2 (ti_nle c_56) (by decide)
        refine lv_iload_n hx hb dX10_wonders_59 rfl (lv_at hl 3 rfl) ?_
        refine lv_iload_n hx hb dX10_wonders_60 rfl (lv_at hl 2 rfl) ?_
        refine lv_icmp_eq (tgt := 113) hx hb dX10_wonders_61 (by decide) (fun c_61 => ?_) (fun c_61 => ?_)
        · obtain ⟨v_3, e_v_3⟩ : ∃ q9 : Int32, q9 = x3 + Int32.ofInt 1 := ⟨_, rfl⟩
          obtain ⟨t_v_3, r_v_3⟩ := tq_add (lo := 1) (hi := 6) r_x3 (show RI (Int32.ofInt 1) 1 1 by unfold RI; decide +kernel) (by decide +kernel) e_v_3
          have t_v_3 : v_3.toInt = x3.toInt + 1 := t_v_3
          refine lv_iinc (v := v_3) (lv' := [(3, .int v_3), (0, .ref p0), (1, .int p1), (2, .int x2)]) hx hb dX10_wonders_113 hl (k := 3) rfl e_v_3.symm (by decide) rfl (fun ls hl => ?_)
          refine lv_goto (tgt := 49) hx hb dX10_wonders_116 (by decide) ?_
          exact ih49 x2 v_3 ws _ _ ls (by have q0 := r_v_3.1; have u0 := r_v_3.2; have o0 := r_x3.1; have p0 := r_x3.2; omega) r_p1 r_x2 (r_v_3.to (by decide)) x_HD_p0_gdR hw (lv_sub hl [1, 2, 3, 0] rfl)
        · refine lv_aload_n hx hb dX10_wonders_64 rfl (lv_at hl 0 rfl) ?_
          refine lv_iload_n hx hb dX10_wonders_65 rfl (lv_at hl 3 rfl) ?_
          refine tk_ir (va_runV (As := [.int x3]) (rest := []) ⟨hx, hb, hml, hown, hts⟩ (c_X10_isOpen l D cy z H.size Ps ws hw.1 p0 x3 h_p0 (r_x3.to (by decide))) (cwV 1 hts (gV tw_1457 tw_1459 ts_71 tw_15 tw_1460) rfl rfl rfl (by decide +kernel) ⟨Nat.le_of_ble_eq_true rfl, Nat.le_of_ble_eq_true rfl⟩) (tg_preV hw hK hSD hA (ci := 10) (q := (RX10, TX10, 49)) rfl h_p0 rfl) rfl rfl hl.1 rfl (lv_room (Nat.le_of_ble_eq_true rfl)) dX10_wonders_66 ⟨Nat.le_of_ble_eq_true rfl, Nat.le_of_ble_eq_true rfl⟩) hw hA (fun v_4  H locs hp_v_4 hw => ?_)
          have r_v_4 : RI v_4 0 1 := hp_v_4.1
          refine lv_if_ne (tgt := 113) hx hb dX10_wonders_69 (by decide) (fun c_69 => ?_) (fun c_69 => ?_)
          · have r_v_4 : RI v_4 1 1 := rc_neL r_v_4 rl_0 (ti_ne c_69) (by decide)
            obtain ⟨v_5, e_v_5⟩ : ∃ q9 : Int32, q9 = x3 + Int32.ofInt 1 := ⟨_, rfl⟩
            obtain ⟨t_v_5, r_v_5⟩ := tq_add (lo := 1) (hi := 6) r_x3 (show RI (Int32.ofInt 1) 1 1 by unfold RI; decide +kernel) (by decide +kernel) e_v_5
            have t_v_5 : v_5.toInt = x3.toInt + 1 := t_v_5
            refine lv_iinc (v := v_5) (lv' := [(3, .int v_5), (0, .ref p0), (1, .int p1), (2, .int x2)]) hx hb dX10_wonders_113 hl (k := 3) rfl e_v_5.symm (by decide) rfl (fun ls hl => ?_)
            refine lv_goto (tgt := 49) hx hb dX10_wonders_116 (by decide) ?_
            exact ih49 x2 v_5 ws _ _ ls (by have q0 := r_v_5.1; have u0 := r_v_5.2; have o0 := r_x3.1; have p0 := r_x3.2; omega) r_p1 r_x2 (r_v_5.to (by decide)) x_HD_p0_gdR hw (lv_sub hl [1, 2, 3, 0] rfl)
          · have r_v_4 : RI v_4 0 0 := rc_eq1 r_v_4 rl_0 (ti_eq c_69) (by decide)
            refine lv_aload_n hx hb dX10_wonders_72 rfl (lv_at hl 0 rfl) ?_
            refine tg_mem (ci := 10) (C := RX10) (T := TX10) (N := 49) hx hb hts inX10 hown hK hw 14 m_u_1 rfl (by decide) (hts _ tw_1151) (fun _ h9 => h9) dX10_wonders_73 ?_
            refine lv_bipush (v := 86) hx hb dX10_wonders_76 (by decide) ?_
            refine lv_iload_n hx hb dX10_wonders_78 rfl (lv_at hl 3 rfl) ?_
            refine lv_iadd hx hb dX10_wonders_79 (lv_topi (fun v_6 e_v_6 => ?_))
            obtain ⟨t_v_6, r_v_6⟩ := tq_add (lo := 86) (hi := 91) rl_86 r_x3 (by decide +kernel) e_v_6
            have t_v_6 : v_6.toInt = 86 + x3.toInt := t_v_6
            refine tg_iald (lo := (-2147483648)) (hi := 2147483647) hx hb hK hw h_vu_1 rfl 86 91 r_v_6 (by decide) (by decide +kernel) dX10_wonders_80 (fun v_7 r_v_7 m_v_7 o_v_7 => ?_)
            refine lv_aload_n hx hb dX10_wonders_81 rfl (lv_at hl 0 rfl) ?_
            refine tg_mem (ci := 10) (C := RX10) (T := TX10) (N := 49) hx hb hts inX10 hown hK hw 14 m_u_1 rfl (by decide) (hts _ tw_1151) (fun _ h9 => h9) dX10_wonders_82 ?_
            refine lv_bipush (v := 86) hx hb dX10_wonders_85 (by decide) ?_
            refine lv_iload_n hx hb dX10_wonders_87 rfl (lv_at hl 2 rfl) ?_
            refine lv_iadd hx hb dX10_wonders_88 (lv_topi (fun v_8 e_v_8 => ?_))
            obtain ⟨t_v_8, r_v_8⟩ := tq_add (lo := 86) (hi := 91) rl_86 r_x2 (by decide +kernel) e_v_8
            have t_v_8 : v_8.toInt = 86 + x2.toInt := t_v_8
            refine tg_iald (lo := (-2147483648)) (hi := 2147483647) hx hb hK hw h_vu_1 rfl 86 91 r_v_8 (by decide) (by decide +kernel) dX10_wonders_89 (fun v_9 r_v_9 m_v_9 o_v_9 => ?_)
            refine lv_icmp_ne (tgt := 113) hx hb dX10_wonders_90 (by decide) (fun c_90 => ?_) (fun c_90 => ?_)
            · obtain ⟨v_10, e_v_10⟩ : ∃ q9 : Int32, q9 = x3 + Int32.ofInt 1 := ⟨_, rfl⟩
              obtain ⟨t_v_10, r_v_10⟩ := tq_add (lo := 1) (hi := 6) r_x3 (show RI (Int32.ofInt 1) 1 1 by unfold RI; decide +kernel) (by decide +kernel) e_v_10
              have t_v_10 : v_10.toInt = x3.toInt + 1 := t_v_10
              refine lv_iinc (v := v_10) (lv' := [(3, .int v_10), (0, .ref p0), (1, .int p1), (2, .int x2)]) hx hb dX10_wonders_113 hl (k := 3) rfl e_v_10.symm (by decide) rfl (fun ls hl => ?_)
              refine lv_goto (tgt := 49) hx hb dX10_wonders_116 (by decide) ?_
              exact ih49 x2 v_10 ws _ _ ls (by have q0 := r_v_10.1; have u0 := r_v_10.2; have o0 := r_x3.1; have p0 := r_x3.2; omega) r_p1 r_x2 (r_v_10.to (by decide)) x_HD_p0_gdR hw (lv_sub hl [1, 2, 3, 0] rfl)
            · refine lv_aload_n hx hb dX10_wonders_93 rfl (lv_at hl 0 rfl) ?_
              refine lv_iload_n hx hb dX10_wonders_94 rfl (lv_at hl 3 rfl) ?_
              refine lv_aload_n hx hb dX10_wonders_95 rfl (lv_at hl 0 rfl) ?_
              refine tg_mem (ci := 10) (C := RX10) (T := TX10) (N := 49) hx hb hts inX10 hown hK hw 14 m_u_1 rfl (by decide) (hts _ tw_1151) (fun _ h9 => h9) dX10_wonders_96 ?_
              refine lv_bipush (v := 104) hx hb dX10_wonders_99 (by decide) ?_
              refine lv_iload_n hx hb dX10_wonders_101 rfl (lv_at hl 1 rfl) ?_
              refine lv_iadd hx hb dX10_wonders_102 (lv_topi (fun v_11 e_v_11 => ?_))
              obtain ⟨t_v_11, r_v_11⟩ := tq_add (lo := 104) (hi := 111) rl_104 r_p1 (by decide +kernel) e_v_11
              have t_v_11 : v_11.toInt = 104 + p1.toInt := t_v_11
              refine tg_iald (lo := 0) (hi := 5) hx hb hK hw h_vu_1 rfl 104 111 r_v_11 (by decide) (by decide +kernel) dX10_wonders_103 (fun v_12 r_v_12 m_v_12 o_v_12 => ?_)
              refine lv_aload_n hx hb dX10_wonders_104 rfl (lv_at hl 0 rfl) ?_
              refine tg_mem (ci := 10) (C := RX10) (T := TX10) (N := 49) hx hb hts inX10 hown hK hw 14 m_u_1 rfl (by decide) (hts _ tw_1151) (fun _ h9 => h9) dX10_wonders_105 ?_
              refine lv_iconst (v := 4) hx hb dX10_wonders_108 (by decide) ?_
              refine tg_iald (lo := (-2147483648)) (hi := 2147483647) hx hb hK hw h_vu_1 rfl 4 4 rl_4 (by decide) (by decide +kernel) dX10_wonders_109 (fun v_13 r_v_13 m_v_13 o_v_13 => ?_)
              have hw8 := hw
              refine tk_v (va_runV (As := [.int x3, .int v_12, .int v_13]) (rest := []) ⟨hx, hb, hml, hown, hts⟩ (c_X10_adds__1 l D cy z H.size Ps ws hw.1 p0 x3 v_12 v_13 (gdR) h_p0 r_x3 r_v_12 r_v_13 x_HD_p0_gdR) (cwV 3 hts (gV tw_1521 tw_1523 ts_82 tw_15 tw_1524) rfl rfl rfl (by decide +kernel) ⟨Nat.le_of_ble_eq_true rfl, Nat.le_of_ble_eq_true rfl⟩) (tg_preV hw hK hSD hA (ci := 10) (q := (RX10, TX10, 49)) rfl h_p0 rfl) rfl rfl hl.1 rfl (lv_room (Nat.le_of_ble_eq_true rfl)) dX10_wonders_110 ⟨Nat.le_of_ble_eq_true rfl, Nat.le_of_ble_eq_true rfl⟩) hw hA ⟨by decide, by decide⟩ (fun ws H locs hp_v_14 hw hF9 => ?_)
              have m_u_1 := FLD.over hF9 m_u_1 (by decide)
              obtain ⟨x_HD_p0_gdR, hp_v_14⟩ := hp_v_14
              obtain ⟨v_15, e_v_15⟩ : ∃ q9 : Int32, q9 = x3 + Int32.ofInt 1 := ⟨_, rfl⟩
              obtain ⟨t_v_15, r_v_15⟩ := tq_add (lo := 1) (hi := 6) r_x3 (show RI (Int32.ofInt 1) 1 1 by unfold RI; decide +kernel) (by decide +kernel) e_v_15
              have t_v_15 : v_15.toInt = x3.toInt + 1 := t_v_15
              refine lv_iinc (v := v_15) (lv' := [(3, .int v_15), (0, .ref p0), (1, .int p1), (2, .int x2)]) hx hb dX10_wonders_113 hl (k := 3) rfl e_v_15.symm (by decide) rfl (fun ls hl => ?_)
              refine lv_goto (tgt := 49) hx hb dX10_wonders_116 (by decide) ?_
              exact ih49 x2 v_15 ws _ _ ls (by have q0 := r_v_15.1; have u0 := r_v_15.2; have o0 := r_x3.1; have p0 := r_x3.2; omega) r_p1 r_x2 (r_v_15.to (by decide)) x_HD_p0_gdR hw (lv_sub hl [1, 2, 3, 0] rfl)
  refine lv_aload_n hx hb dX10_wonders_0 rfl (lv_at hl 0 rfl) ?_
  refine tg_get (ci := 10) (ts := ty_MODEL) (C := RX10) (T := TX10) (N := 49) hx hb hts inX10 hown hK hw h_p0 rfl rfl 14 (by decide) (hts _ tw_1151) (fun _ h9 => h9) (ft := vR 34) rfl dX10_wonders_1 (fun u_16 hv_u_16 m_u_16 => ?_)
  obtain ⟨vu_16, rfl, h_vu_16⟩ := hv_u_16
  refine lv_bipush (v := 112) hx hb dX10_wonders_4 (by decide) ?_
  refine lv_iload_n hx hb dX10_wonders_6 rfl (lv_at hl 1 rfl) ?_
  refine lv_iadd hx hb dX10_wonders_7 (lv_topi (fun v_17 e_v_17 => ?_))
  obtain ⟨t_v_17, r_v_17⟩ := tq_add (lo := 112) (hi := 119) rl_112 r_p1 (by decide +kernel) e_v_17
  have t_v_17 : v_17.toInt = 112 + p1.toInt := t_v_17
  refine tg_iald (lo := (-1)) (hi := 5) hx hb hK hw h_vu_16 rfl 112 119 r_v_17 (by decide) (by decide +kernel) dX10_wonders_8 (fun v_18 r_v_18 m_v_18 o_v_18 => ?_)
  refine lv_istore_n (lv' := [(2, .int v_18), (0, .ref p0), (1, .int p1)]) hx hb dX10_wonders_9 rfl hl (by decide) rfl (fun ls hl => ?_)
  refine lv_iload_n hx hb dX10_wonders_10 rfl (lv_at hl 0 rfl) ?_
  refine lv_iconst (v := (-1)) hx hb dX10_wonders_11 (by decide) ?_
  refine lv_icmp_eq (tgt := 23) hx hb dX10_wonders_12 (by decide) (fun c_12 => ?_) (fun c_12 => ?_)
  · have r_v_18 : RI v_18 (-1) (-1) := rc_eq1 r_v_18 rl_m1 (ti_eq c_12) (by decide)
    subst hQ
    exact W.vret hx hb hr (fun t ht hW => ⟨⟨w0, rfl, ⟨⟨x_HD_p0_gdR, trivial⟩, hw.1, hw.2.2.2.2.1⟩, by rw [ht]; exact hw.2.1, va_K.moved hW.alike hK, hw.2.2.1⟩, hw.2.2.2.1.F ht⟩) hw.2.2.2.1.2.2 dX10_wonders_23
  · have r_v_18 : RI v_18 0 5 := rc_neL r_v_18 rl_m1 (ti_ne c_12) (by decide)
    refine lv_aload_n hx hb dX10_wonders_15 rfl (lv_at hl 1 rfl) ?_
    refine lv_iload_n hx hb dX10_wonders_16 rfl (lv_at hl 0 rfl) ?_
    refine tk_ir (va_runV (As := [.int v_18]) (rest := []) ⟨hx, hb, hml, hown, hts⟩ (c_X10_isOpen l D cy z s.heap.size Ps w0 hw.1 p0 v_18 h_p0 (r_v_18.to (by decide))) (cwV 1 hts (gV tw_1457 tw_1459 ts_71 tw_15 tw_1460) rfl rfl rfl (by decide +kernel) ⟨Nat.le_of_ble_eq_true rfl, Nat.le_of_ble_eq_true rfl⟩) (tg_preV hw hK hSD hA (ci := 10) (q := (RX10, TX10, 49)) rfl h_p0 rfl) rfl rfl hl.1 rfl (lv_room (Nat.le_of_ble_eq_true rfl)) dX10_wonders_17 ⟨Nat.le_of_ble_eq_true rfl, Nat.le_of_ble_eq_true rfl⟩) hw hA (fun v_19  H locs hp_v_19 hw => ?_)
    have r_v_19 : RI v_19 0 1 := hp_v_19.1
    refine lv_if_eq (tgt := 24) hx hb dX10_wonders_20 (by decide) (fun c_20 => ?_) (fun c_20 => ?_)
    · have r_v_19 : RI v_19 0 0 := rc_eq1 r_v_19 rl_0 (ti_eq c_20) (by decide)
      refine lv_aload_n hx hb dX10_wonders_24 rfl (lv_at hl 1 rfl) ?_
      refine lv_iload_n hx hb dX10_wonders_25 rfl (lv_at hl 0 rfl) ?_
      refine lv_aload_n hx hb dX10_wonders_26 rfl (lv_at hl 1 rfl) ?_
      refine tg_mem (ci := 10) (C := RX10) (T := TX10) (N := 49) hx hb hts inX10 hown hK hw 14 m_u_16 rfl (by decide) (hts _ tw_1151) (fun _ h9 => h9) dX10_wonders_27 ?_
      refine lv_bipush (v := 104) hx hb dX10_wonders_30 (by decide) ?_
      refine lv_iload_n hx hb dX10_wonders_32 rfl (lv_at hl 2 rfl) ?_
      refine lv_iadd hx hb dX10_wonders_33 (lv_topi (fun v_20 e_v_20 => ?_))
      obtain ⟨t_v_20, r_v_20⟩ := tq_add (lo := 104) (hi := 111) rl_104 r_p1 (by decide +kernel) e_v_20
      have t_v_20 : v_20.toInt = 104 + p1.toInt := t_v_20
      refine tg_iald (lo := 0) (hi := 5) hx hb hK hw h_vu_16 rfl 104 111 r_v_20 (by decide) (by decide +kernel) dX10_wonders_34 (fun v_21 r_v_21 m_v_21 o_v_21 => ?_)
      refine lv_aload_n hx hb dX10_wonders_35 rfl (lv_at hl 1 rfl) ?_
      refine tg_mem (ci := 10) (C := RX10) (T := TX10) (N := 49) hx hb hts inX10 hown hK hw 14 m_u_16 rfl (by decide) (hts _ tw_1151) (fun _ h9 => h9) dX10_wonders_36 ?_
      refine lv_bipush (v := 32) hx hb dX10_wonders_39 (by decide) ?_
      refine lv_iload_n hx hb dX10_wonders_41 rfl (lv_at hl 2 rfl) ?_
      refine lv_iadd hx hb dX10_wonders_42 (lv_topi (fun v_22 e_v_22 => ?_))
      obtain ⟨t_v_22, r_v_22⟩ := tq_add (lo := 32) (hi := 39) rl_32 r_p1 (by decide +kernel) e_v_22
      have t_v_22 : v_22.toInt = 32 + p1.toInt := t_v_22
      refine tg_iald (lo := (-2147483648)) (hi := 2147483647) hx hb hK hw h_vu_16 rfl 32 39 r_v_22 (by decide) (by decide +kernel) dX10_wonders_43 (fun v_23 r_v_23 m_v_23 o_v_23 => ?_)
      have hw8 := hw
      refine tk_v (va_runV (As := [.int v_18, .int v_21, .int v_23]) (rest := []) ⟨hx, hb, hml, hown, hts⟩ (c_X10_adds__1 l D cy z H.size Ps w0 hw.1 p0 v_18 v_21 v_23 (gdR) h_p0 r_v_18 r_v_21 r_v_23 x_HD_p0_gdR) (cwV 3 hts (gV tw_1521 tw_1523 ts_82 tw_15 tw_1524) rfl rfl rfl (by decide +kernel) ⟨Nat.le_of_ble_eq_true rfl, Nat.le_of_ble_eq_true rfl⟩) (tg_preV hw hK hSD hA (ci := 10) (q := (RX10, TX10, 49)) rfl h_p0 rfl) rfl rfl hl.1 rfl (lv_room (Nat.le_of_ble_eq_true rfl)) dX10_wonders_44 ⟨Nat.le_of_ble_eq_true rfl, Nat.le_of_ble_eq_true rfl⟩) hw hA ⟨by decide, by decide⟩ (fun ws H locs hp_v_24 hw hF9 => ?_)
      have m_u_16 := FLD.over hF9 m_u_16 (by decide)
      obtain ⟨x_HD_p0_gdR, hp_v_24⟩ := hp_v_24
      refine lv_iconst (v := 0) hx hb dX10_wonders_47 (by decide) ?_
      refine lv_istore_n (lv' := [(3, .int 0), (2, .int v_18), (0, .ref p0), (1, .int p1)]) hx hb dX10_wonders_48 rfl hl (by decide) rfl (fun ls hl => ?_)
      exact B49 4294967298 v_18 0 ws _ _ ls (by have q0 := rl_0.1; have u0 := rl_0.2; omega) r_p1 r_v_18 (rl_0.to (by decide)) x_HD_p0_gdR hw (lv_sub hl [2, 3, 1, 0] rfl)
    · have r_v_19 : RI v_19 1 1 := rc_neL r_v_19 rl_0 (ti_ne c_20) (by decide)
      subst hQ
      exact W.vret hx hb hr (fun t ht hW => ⟨⟨w0, rfl, ⟨⟨x_HD_p0_gdR, trivial⟩, hw.1, hw.2.2.2.2.1⟩, by rw [ht]; exact hw.2.1, va_K.moved hW.alike hK, hw.2.2.1⟩, hw.2.2.2.1.F ht⟩) hw.2.2.2.1.2.2 dX10_wonders_23
abbrev wr_X10_oneDay__1 : List (Nat × Nat) := []
abbrev wa_X10_oneDay__1 : List Nat := [34, 46]
set_option maxHeartbeats 4000000 in
set_option maxRecDepth 100000 in
theorem c_X10_oneDay__1 (l : Launch) (D : va_G) (cy : Nat → ClassId) (z : Nat → Nat) (sz : Nat) (Ps : PSI) (w0 : va_W) (hT : HT cy GG Ps w0) (p0 : Nat) (gdR : Nat → Int32) (h_p0 : (p0, 55) ∈ Ps) (x_HD_p0_gdR : AX 14 34 (HDp gdR) Ps w0 p0) : Met l yX10_oneDay (Cond.code yX10_oneDay cX10_oneDay 2 none :: gT) ({ frames := 4, cells := 0, slots := 0, locals := 800 } : Room) (va_Pc [.ref p0] (PRE D cy z w0 sz)) (va_Qv (fun (u : va_W) => ((AX 14 34 (HDp gdR) Ps u p0) ∧ (True)) ∧ HT cy GG Ps u ∧ FR wr_X10_oneDay__1 wa_X10_oneDay__1 Ps w0 u) (BB D cy (va_A w0 sz) (fun (u : va_W) => u)) (va_A w0 sz)) 0 0 (va_A w0 sz) := by
  refine Met.ofW (cc := cX10_oneDay) (maxL := 2) (ret := none) (by decide) rfl ?_
  intro p e s m args below meth c s₁ B hml hv
  obtain ⟨rfl, hsz, hP, hK, hD0, hSD⟩ := hv
  have hx := B.exec
  have hb := B.bytes
  have hr := B.returns
  have hlocks := B.notSynchronized
  have hts : ∀ w ∈ gT, w.before _ s = true := fun w h => atoms_spec (ws := Cond.code yX10_oneDay cX10_oneDay 2 none :: gT) B.pre w (List.mem_cons_of_mem _ h)
  have hown : s.vm.findClass RX10 = some m.cls := findClass_of_methodNamed B.named
  subst hsz
  have hD := hD0.self (sz := s.heap.size)
  generalize hAe : va_A w0 s.heap.size = A at hD hSD ⊢
  have hA : ∀ q : Nat, s.heap.size ≤ q → A q := fun q h => by rw [← hAe]; exact Or.inr h
  have hl := lv_entry ([.ref p0]) (n := 2) (Nat.le_of_ble_eq_true rfl)
  rw [lg_entry_eq]
  generalize (lg_sl ([.ref p0]) ++ List.replicate (2 - (lg_sl ([.ref p0])).length) Slot.unset).toArray = ls at hl ⊢
  have hl : lv_has ls 2 [(0, .ref p0)] := hl
  refine nameQ (fun Q hQ => ?_)
  have hw : WD D cy GG A s wr_X10_oneDay__1 wa_X10_oneDay__1 Ps w0 Ps w0 s.heap [] := ⟨hT, hP, hD, va_S.rf, FR.rf, hT.1, [], (List.append_nil _).symm⟩
  have B54 : ∀ (nf : Nat) (x1 : Int32) (ws : va_W) (H : Heap) (locs : List Loc) (ls : Array Slot), 6 - x1.toInt < (nf : Int) → RI x1 0 6 → AX 14 34 (HDp gdR) Ps ws p0 → WD D cy GG A s wr_X10_oneDay__1 wa_X10_oneDay__1 Ps w0 Ps ws H locs → lv_has ls 2 [(0, .ref p0), (1, .int x1)] → W p l e (headSpec (Cond.code yX10_oneDay cX10_oneDay 2 none :: gT) ({ frames := 4, cells := 0, slots := 0, locals := 800 } : Room)).room s m ([.ref p0] : List Value).toArray below meth c H locs 0 0 Q (F0 m 54 ls []) := by
    intro nf54
    induction nf54 with
    | zero =>
      intro x1 ws H locs ls hn54 r_x1 x_HD_p0_gdR hw hl
      exact absurd hn54 (by have q0 := r_x1.1; have u0 := r_x1.2; omega)
    | succ nf54 ih54 =>
      have B109 : ∀ (x1 : Int32) (ws : va_W) (H : Heap) (locs : List Loc) (ls : Array Slot), RI x1 0 5 → AX 14 34 (HDp gdR) Ps ws p0 → 6 - x1.toInt < ((nf54 + 1 : Nat) : Int) → WD D cy GG A s wr_X10_oneDay__1 wa_X10_oneDay__1 Ps w0 Ps ws H locs → lv_has ls 2 [(0, .ref p0), (1, .int x1)] → W p l e (headSpec (Cond.code yX10_oneDay cX10_oneDay 2 none :: gT) ({ frames := 4, cells := 0, slots := 0, locals := 800 } : Room)).room s m ([.ref p0] : List Value).toArray below meth c H locs 0 0 Q (F0 m 109 ls []) := by
        intro x1 ws H locs ls r_x1 x_HD_p0_gdR hn54 hw hl
        refine lv_aload_n hx hb dX10_oneDay_109 rfl (lv_at hl 0 rfl) ?_
        refine lv_iload_n hx hb dX10_oneDay_110 rfl (lv_at hl 1 rfl) ?_
        refine tk_ir (va_runV (As := [.int x1]) (rest := []) ⟨hx, hb, hml, hown, hts⟩ (c_X10_whatIs l D cy z H.size Ps ws hw.1 p0 x1 h_p0 r_x1) (cwV 1 hts (gV tw_1449 tw_1451 ts_69 tw_15 tw_1452) rfl rfl rfl (by decide +kernel) ⟨Nat.le_of_ble_eq_true rfl, Nat.le_of_ble_eq_true rfl⟩) (tg_preV hw hK hSD hA (ci := 10) (q := (RX10, TX10, 49)) rfl h_p0 rfl) rfl rfl hl.1 rfl (lv_room (Nat.le_of_ble_eq_true rfl)) dX10_oneDay_111 ⟨Nat.le_of_ble_eq_true rfl, Nat.le_of_ble_eq_true rfl⟩) hw hA (fun v_1  H locs hp_v_1 hw => ?_)
        have r_v_1 : RI v_1 (-1) 5 := hp_v_1.1
        by_cases c9_v_1 : v_1.toInt < 0
        · have r_v_1 : RI v_1 (-1) (-1) := by unfold RI at r_v_1 ⊢; omega
          have x_NB_p0_x1 := (hp_v_1.2.2.2.2.1 (by omega)).1
          refine lv_aload_n hx hb dX10_oneDay_114 rfl (lv_at hl 0 rfl) ?_
          refine tg_get (ci := 10) (ts := ty_MODEL) (C := RX10) (T := TX10) (N := 49) hx hb hts inX10 hown hK hw h_p0 rfl rfl 26 (by decide) (hts _ tw_1163) (fun _ h9 => h9) (ft := vR 46) rfl dX10_oneDay_115 (fun u_2 hv_u_2 m_u_2 => ?_)
          obtain ⟨vu_2, rfl, h_vu_2⟩ := hv_u_2
          refine lv_iload_n hx hb dX10_oneDay_118 rfl (lv_at hl 1 rfl) ?_
          refine tg_iald (lo := (-2147483648)) (hi := 2147483647) hx hb hK hw h_vu_2 rfl 0 5 r_x1 (by decide) (by exact fun _ _ _ => ⟨Int.le_refl _, Int.le_refl _⟩) dX10_oneDay_119 (fun v_3 r_v_3 m_v_3 o_v_3 => ?_)
          refine lv_icmp_eq (tgt := 136) hx hb dX10_oneDay_120 (by decide) (fun c_120 => ?_) (fun c_120 => ?_)
          · have r_v_3 : RI v_3 (-1) (-1) := rc_eq2 r_v_1 r_v_3 (ti_eq c_120) (by decide)
            obtain ⟨v_4, e_v_4⟩ : ∃ q9 : Int32, q9 = x1 + Int32.ofInt 1 := ⟨_, rfl⟩
            obtain ⟨t_v_4, r_v_4⟩ := tq_add (lo := 1) (hi := 6) r_x1 (show RI (Int32.ofInt 1) 1 1 by unfold RI; decide +kernel) (by decide +kernel) e_v_4
            have t_v_4 : v_4.toInt = x1.toInt + 1 := t_v_4
            refine lv_iinc (v := v_4) (lv' := [(1, .int v_4), (0, .ref p0)]) hx hb dX10_oneDay_136 hl (k := 1) rfl e_v_4.symm (by decide) rfl (fun ls hl => ?_)
            refine lv_goto (tgt := 54) hx hb dX10_oneDay_139 (by decide) ?_
            exact ih54 v_4 ws _ _ ls (by have q0 := r_v_4.1; have u0 := r_v_4.2; have o0 := r_x1.1; have p0 := r_x1.2; omega) (r_v_4.to (by decide)) x_HD_p0_gdR hw (lv_sub hl [1, 0] rfl)
          · refine lv_aload_n hx hb dX10_oneDay_123 rfl (lv_at hl 0 rfl) ?_
            refine tg_get (ci := 10) (ts := ty_MODEL) (C := RX10) (T := TX10) (N := 49) hx hb hts inX10 hown hK hw h_p0 rfl rfl 14 (by decide) (hts _ tw_1151) (fun _ h9 => h9) (ft := vR 34) rfl dX10_oneDay_124 (fun u_5 hv_u_5 m_u_5 => ?_)
            obtain ⟨vu_5, rfl, h_vu_5⟩ := hv_u_5
            refine lv_bipush (v := 98) hx hb dX10_oneDay_127 (by decide) ?_
            refine lv_iload_n hx hb dX10_oneDay_129 rfl (lv_at hl 1 rfl) ?_
            refine lv_iadd hx hb dX10_oneDay_130 (lv_topi (fun v_6 e_v_6 => ?_))
            obtain ⟨t_v_6, r_v_6⟩ := tq_add (lo := 98) (hi := 103) rl_98 r_x1 (by decide +kernel) e_v_6
            have t_v_6 : v_6.toInt = 98 + x1.toInt := t_v_6
            refine lv_dup2_11 hx hb dX10_oneDay_131 rfl rfl ?_
            refine tg_iald (lo := (-2147483648)) (hi := 2147483647) hx hb hK hw h_vu_5 rfl 98 103 r_v_6 (by decide) (by decide +kernel) dX10_oneDay_132 (fun v_7 r_v_7 m_v_7 o_v_7 => ?_)
            refine lv_iconst (v := 1) hx hb dX10_oneDay_133 (by decide) ?_
            refine lv_iadd hx hb dX10_oneDay_134 (lv_topi (fun v_8 e_v_8 => ?_))
            have r_v_8 := ri_any v_8
            have hw8 := hw
            refine tg_iast hx hb hK hw h_vu_5 rfl 98 103 r_v_6 (by decide) r_v_8 (by decide +kernel) (RN_upd (by decide) (by decide)) (by decide) dX10_oneDay_135 (fun ws H locs hw hF9 hU9 => ?_)
            have x_HD_p0_gdR : AX 14 34 (HDp gdR) Ps ws p0 := AX.ast hF9 hU9 x_HD_p0_gdR m_u_5 (fun f9 h9 => HDp.upd h9 (by have k1 := r_v_6.cl (by decide); have k2 := r_v_6.1; omega))
            have m_v_3 := AEL.over hw8 hF9 h_vu_2 m_v_3 (by decide)
            have m_u_2 := FLD.over hF9 m_u_2 (by decide)
            have m_u_5 := FLD.over hF9 m_u_5 (by decide)
            obtain ⟨v_9, e_v_9⟩ : ∃ q9 : Int32, q9 = x1 + Int32.ofInt 1 := ⟨_, rfl⟩
            obtain ⟨t_v_9, r_v_9⟩ := tq_add (lo := 1) (hi := 6) r_x1 (show RI (Int32.ofInt 1) 1 1 by unfold RI; decide +kernel) (by decide +kernel) e_v_9
            have t_v_9 : v_9.toInt = x1.toInt + 1 := t_v_9
            refine lv_iinc (v := v_9) (lv' := [(1, .int v_9), (0, .ref p0)]) hx hb dX10_oneDay_136 hl (k := 1) rfl e_v_9.symm (by decide) rfl (fun ls hl => ?_)
            refine lv_goto (tgt := 54) hx hb dX10_oneDay_139 (by decide) ?_
            exact ih54 v_9 ws _ _ ls (by have q0 := r_v_9.1; have u0 := r_v_9.2; have o0 := r_x1.1; have p0 := r_x1.2; omega) (r_v_9.to (by decide)) x_HD_p0_gdR hw (lv_sub hl [1, 0] rfl)
        · have r_v_1 : RI v_1 0 5 := by unfold RI at r_v_1 ⊢; omega
          have x_WB_p0_x1_v_1 := (hp_v_1.2.2.2.2.2 (by omega)).1
          refine lv_aload_n hx hb dX10_oneDay_114 rfl (lv_at hl 0 rfl) ?_
          refine tg_get (ci := 10) (ts := ty_MODEL) (C := RX10) (T := TX10) (N := 49) hx hb hts inX10 hown hK hw h_p0 rfl rfl 26 (by decide) (hts _ tw_1163) (fun _ h9 => h9) (ft := vR 46) rfl dX10_oneDay_115 (fun u_10 hv_u_10 m_u_10 => ?_)
          obtain ⟨vu_10, rfl, h_vu_10⟩ := hv_u_10
          refine lv_iload_n hx hb dX10_oneDay_118 rfl (lv_at hl 1 rfl) ?_
          refine tg_iald (lo := (-2147483648)) (hi := 2147483647) hx hb hK hw h_vu_10 rfl 0 5 r_x1 (by decide) (by exact fun _ _ _ => ⟨Int.le_refl _, Int.le_refl _⟩) dX10_oneDay_119 (fun v_11 r_v_11 m_v_11 o_v_11 => ?_)
          refine lv_icmp_eq (tgt := 136) hx hb dX10_oneDay_120 (by decide) (fun c_120 => ?_) (fun c_120 => ?_)
          · have r_v_11 : RI v_11 0 5 := rc_eq2 r_v_1 r_v_11 (ti_eq c_120) (by decide)
            obtain ⟨v_12, e_v_12⟩ : ∃ q9 : Int32, q9 = x1 + Int32.ofInt 1 := ⟨_, rfl⟩
            obtain ⟨t_v_12, r_v_12⟩ := tq_add (lo := 1) (hi := 6) r_x1 (show RI (Int32.ofInt 1) 1 1 by unfold RI; decide +kernel) (by decide +kernel) e_v_12
            have t_v_12 : v_12.toInt = x1.toInt + 1 := t_v_12
            refine lv_iinc (v := v_12) (lv' := [(1, .int v_12), (0, .ref p0)]) hx hb dX10_oneDay_136 hl (k := 1) rfl e_v_12.symm (by decide) rfl (fun ls hl => ?_)
            refine lv_goto (tgt := 54) hx hb dX10_oneDay_139 (by decide) ?_
            exact ih54 v_12 ws _ _ ls (by have q0 := r_v_12.1; have u0 := r_v_12.2; have o0 := r_x1.1; have p0 := r_x1.2; omega) (r_v_12.to (by decide)) x_HD_p0_gdR hw (lv_sub hl [1, 0] rfl)
          · refine lv_aload_n hx hb dX10_oneDay_123 rfl (lv_at hl 0 rfl) ?_
            refine tg_get (ci := 10) (ts := ty_MODEL) (C := RX10) (T := TX10) (N := 49) hx hb hts inX10 hown hK hw h_p0 rfl rfl 14 (by decide) (hts _ tw_1151) (fun _ h9 => h9) (ft := vR 34) rfl dX10_oneDay_124 (fun u_13 hv_u_13 m_u_13 => ?_)
            obtain ⟨vu_13, rfl, h_vu_13⟩ := hv_u_13
            refine lv_bipush (v := 98) hx hb dX10_oneDay_127 (by decide) ?_
            refine lv_iload_n hx hb dX10_oneDay_129 rfl (lv_at hl 1 rfl) ?_
            refine lv_iadd hx hb dX10_oneDay_130 (lv_topi (fun v_14 e_v_14 => ?_))
            obtain ⟨t_v_14, r_v_14⟩ := tq_add (lo := 98) (hi := 103) rl_98 r_x1 (by decide +kernel) e_v_14
            have t_v_14 : v_14.toInt = 98 + x1.toInt := t_v_14
            refine lv_dup2_11 hx hb dX10_oneDay_131 rfl rfl ?_
            refine tg_iald (lo := (-2147483648)) (hi := 2147483647) hx hb hK hw h_vu_13 rfl 98 103 r_v_14 (by decide) (by decide +kernel) dX10_oneDay_132 (fun v_15 r_v_15 m_v_15 o_v_15 => ?_)
            refine lv_iconst (v := 1) hx hb dX10_oneDay_133 (by decide) ?_
            refine lv_iadd hx hb dX10_oneDay_134 (lv_topi (fun v_16 e_v_16 => ?_))
            have r_v_16 := ri_any v_16
            have hw8 := hw
            refine tg_iast hx hb hK hw h_vu_13 rfl 98 103 r_v_14 (by decide) r_v_16 (by decide +kernel) (RN_upd (by decide) (by decide)) (by decide) dX10_oneDay_135 (fun ws H locs hw hF9 hU9 => ?_)
            have x_HD_p0_gdR : AX 14 34 (HDp gdR) Ps ws p0 := AX.ast hF9 hU9 x_HD_p0_gdR m_u_13 (fun f9 h9 => HDp.upd h9 (by have k1 := r_v_14.cl (by decide); have k2 := r_v_14.1; omega))
            have m_v_11 := AEL.over hw8 hF9 h_vu_10 m_v_11 (by decide)
            have m_u_10 := FLD.over hF9 m_u_10 (by decide)
            have m_u_13 := FLD.over hF9 m_u_13 (by decide)
            obtain ⟨v_17, e_v_17⟩ : ∃ q9 : Int32, q9 = x1 + Int32.ofInt 1 := ⟨_, rfl⟩
            obtain ⟨t_v_17, r_v_17⟩ := tq_add (lo := 1) (hi := 6) r_x1 (show RI (Int32.ofInt 1) 1 1 by unfold RI; decide +kernel) (by decide +kernel) e_v_17
            have t_v_17 : v_17.toInt = x1.toInt + 1 := t_v_17
            refine lv_iinc (v := v_17) (lv' := [(1, .int v_17), (0, .ref p0)]) hx hb dX10_oneDay_136 hl (k := 1) rfl e_v_17.symm (by decide) rfl (fun ls hl => ?_)
            refine lv_goto (tgt := 54) hx hb dX10_oneDay_139 (by decide) ?_
            exact ih54 v_17 ws _ _ ls (by have q0 := r_v_17.1; have u0 := r_v_17.2; have o0 := r_x1.1; have p0 := r_x1.2; omega) (r_v_17.to (by decide)) x_HD_p0_gdR hw (lv_sub hl [1, 0] rfl)
      intro x1 ws H locs ls hn54 r_x1 x_HD_p0_gdR hw hl
      refine lv_iload_n hx hb dX10_oneDay_54 rfl (lv_at hl 1 rfl) ?_
      refine lv_aload_n hx hb dX10_oneDay_55 rfl (lv_at hl 0 rfl) ?_
      refine tg_get (ci := 10) (ts := ty_MODEL) (C := RX10) (T := TX10) (N := 49) hx hb hts inX10 hown hK hw h_p0 rfl rfl 14 (by decide) (hts _ tw_1151) (fun _ h9 => h9) (ft := vR 34) rfl dX10_oneDay_56 (fun u_18 hv_u_18 m_u_18 => ?_)
      obtain ⟨vu_18, rfl, h_vu_18⟩ := hv_u_18
      refine lv_iconst (v := 2) hx hb dX10_oneDay_59 (by decide) ?_
      refine tg_iald (lo := 0) (hi := 6) hx hb hK hw h_vu_18 rfl 2 2 rl_2 (by decide) (by decide +kernel) dX10_oneDay_60 (fun v_19 r_v_19 m_v_19 o_v_19 => ?_)
      refine lv_icmp_ge (tgt := 142) hx hb dX10_oneDay_61 (by decide) (fun c_61 => ?_) (fun c_61 => ?_)
      · refine lv_aload_n hx hb dX10_oneDay_142 rfl (lv_at hl 0 rfl) ?_
        refine tg_mem (ci := 10) (C := RX10) (T := TX10) (N := 49) hx hb hts inX10 hown hK hw 14 m_u_18 rfl (by decide) (hts _ tw_1151) (fun _ h9 => h9) dX10_oneDay_143 ?_
        refine lv_bipush (v := 84) hx hb dX10_oneDay_146 (by decide) ?_
        refine lv_dup2_11 hx hb dX10_oneDay_148 rfl rfl ?_
        refine tg_iald (lo := (-2147483648)) (hi := 2147483647) hx hb hK hw h_vu_18 rfl 84 84 rl_84 (by decide) (by decide +kernel) dX10_oneDay_149 (fun v_20 r_v_20 m_v_20 o_v_20 => ?_)
        refine lv_iconst (v := 1) hx hb dX10_oneDay_150 (by decide) ?_
        refine lv_iadd hx hb dX10_oneDay_151 (lv_topi (fun v_21 e_v_21 => ?_))
        have r_v_21 := ri_any v_21
        have hw8 := hw
        refine tg_iast hx hb hK hw h_vu_18 rfl 84 84 rl_84 (by decide) r_v_21 (by decide +kernel) (RN_upd (by decide) (by decide)) (by decide) dX10_oneDay_152 (fun ws H locs hw hF9 hU9 => ?_)
        have x_HD_p0_gdR : AX 14 34 (HDp gdR) Ps ws p0 := AX.ast hF9 hU9 x_HD_p0_gdR m_u_18 (fun f9 h9 => HDp.upd h9 (by have k1 := rl_84.cl (by decide); have k2 := rl_84.1; omega))
        have m_u_18 := FLD.over hF9 m_u_18 (by decide)
        subst hQ
        exact W.vret hx hb hr (fun t ht hW => ⟨⟨ws, rfl, ⟨⟨x_HD_p0_gdR, trivial⟩, hw.1, hw.2.2.2.2.1⟩, by rw [ht]; exact hw.2.1, va_K.moved hW.alike hK, hw.2.2.1⟩, hw.2.2.2.1.F ht⟩) hw.2.2.2.1.2.2 dX10_oneDay_153
      · have r_x1 : RI x1 0 5 := rc_lt1 r_x1 r_v_19 (ti_nle c_61) (by decide)
        have r_v_19 : RI v_19 1 6 := rc_lt2 r_x1 r_v_19 (ti_nle c_61) (by decide)
        refine lv_aload_n hx hb dX10_oneDay_64 rfl (lv_at hl 0 rfl) ?_
        refine lv_iload_n hx hb dX10_oneDay_65 rfl (lv_at hl 1 rfl) ?_
        refine tk_ir (va_runV (As := [.int x1]) (rest := []) ⟨hx, hb, hml, hown, hts⟩ (c_X10_isOpen l D cy z H.size Ps ws hw.1 p0 x1 h_p0 (r_x1.to (by decide))) (cwV 1 hts (gV tw_1457 tw_1459 ts_71 tw_15 tw_1460) rfl rfl rfl (by decide +kernel) ⟨Nat.le_of_ble_eq_true rfl, Nat.le_of_ble_eq_true rfl⟩) (tg_preV hw hK hSD hA (ci := 10) (q := (RX10, TX10, 49)) rfl h_p0 rfl) rfl rfl hl.1 rfl (lv_room (Nat.le_of_ble_eq_true rfl)) dX10_oneDay_66 ⟨Nat.le_of_ble_eq_true rfl, Nat.le_of_ble_eq_true rfl⟩) hw hA (fun v_22  H locs hp_v_22 hw => ?_)
        have r_v_22 : RI v_22 0 1 := hp_v_22.1
        refine lv_if_ne (tgt := 109) hx hb dX10_oneDay_69 (by decide) (fun c_69 => ?_) (fun c_69 => ?_)
        · have r_v_22 : RI v_22 1 1 := rc_neL r_v_22 rl_0 (ti_ne c_69) (by decide)
          exact B109 x1 ws _ _ ls r_x1 x_HD_p0_gdR (by have q0 := r_x1.1; have u0 := r_x1.2; omega) hw hl
        · have r_v_22 : RI v_22 0 0 := rc_eq1 r_v_22 rl_0 (ti_eq c_69) (by decide)
          refine lv_aload_n hx hb dX10_oneDay_72 rfl (lv_at hl 0 rfl) ?_
          refine lv_aload_n hx hb dX10_oneDay_73 rfl (lv_at hl 0 rfl) ?_
          refine lv_iload_n hx hb dX10_oneDay_74 rfl (lv_at hl 1 rfl) ?_
          refine tk_ir (va_runV (As := [.int x1]) (rest := [.ref p0]) ⟨hx, hb, hml, hown, hts⟩ (c_X10_sittersOf l D cy z H.size Ps ws hw.1 p0 x1 h_p0 (r_x1.to (by decide))) (cwV 1 hts (gV tw_1461 tw_1463 ts_72 tw_15 tw_1464) rfl rfl rfl (by decide +kernel) ⟨Nat.le_of_ble_eq_true rfl, Nat.le_of_ble_eq_true rfl⟩) (tg_preV hw hK hSD hA (ci := 10) (q := (RX10, TX10, 49)) rfl h_p0 rfl) rfl rfl hl.1 rfl (lv_room (Nat.le_of_ble_eq_true rfl)) dX10_oneDay_75 ⟨Nat.le_of_ble_eq_true rfl, Nat.le_of_ble_eq_true rfl⟩) hw hA (fun v_23  H locs hp_v_23 hw => ?_)
          have r_v_23 : RI v_23 (-2147483648) 2147483647 := hp_v_23.1
          refine tk_ir (va_runV (As := [.int v_23]) (rest := []) ⟨hx, hb, hml, hown, hts⟩ (c_X10_areUnlike l D cy z H.size Ps ws hw.1 p0 v_23 h_p0 r_v_23) (cwV 1 hts (gV tw_1572 tw_1574 ts_87 tw_15 tw_1575) rfl rfl rfl (by decide +kernel) ⟨Nat.le_of_ble_eq_true rfl, Nat.le_of_ble_eq_true rfl⟩) (tg_preV hw hK hSD hA (ci := 10) (q := (RX10, TX10, 49)) rfl h_p0 rfl) rfl rfl hl.1 rfl (lv_room (Nat.le_of_ble_eq_true rfl)) dX10_oneDay_78 ⟨Nat.le_of_ble_eq_true rfl, Nat.le_of_ble_eq_true rfl⟩) hw hA (fun v_24  H locs hp_v_24 hw => ?_)
          have r_v_24 : RI v_24 0 1 := hp_v_24.1
          refine lv_if_eq (tgt := 109) hx hb dX10_oneDay_81 (by decide) (fun c_81 => ?_) (fun c_81 => ?_)
          · have r_v_24 : RI v_24 0 0 := rc_eq1 r_v_24 rl_0 (ti_eq c_81) (by decide)
            exact B109 x1 ws _ _ ls r_x1 x_HD_p0_gdR (by have q0 := r_x1.1; have u0 := r_x1.2; omega) hw hl
          · have r_v_24 : RI v_24 1 1 := rc_neL r_v_24 rl_0 (ti_ne c_81) (by decide)
            refine lv_aload_n hx hb dX10_oneDay_84 rfl (lv_at hl 0 rfl) ?_
            refine tg_mem (ci := 10) (C := RX10) (T := TX10) (N := 49) hx hb hts inX10 hown hK hw 14 m_u_18 rfl (by decide) (hts _ tw_1151) (fun _ h9 => h9) dX10_oneDay_85 ?_
            refine lv_bipush (v := 92) hx hb dX10_oneDay_88 (by decide) ?_
            refine lv_iload_n hx hb dX10_oneDay_90 rfl (lv_at hl 1 rfl) ?_
            refine lv_iadd hx hb dX10_oneDay_91 (lv_topi (fun v_25 e_v_25 => ?_))
            obtain ⟨t_v_25, r_v_25⟩ := tq_add (lo := 92) (hi := 97) rl_92 r_x1 (by decide +kernel) e_v_25
            have t_v_25 : v_25.toInt = 92 + x1.toInt := t_v_25
            refine lv_bipush (v := 99) hx hb dX10_oneDay_92 (by decide) ?_
            refine lv_aload_n hx hb dX10_oneDay_94 rfl (lv_at hl 0 rfl) ?_
            refine tg_mem (ci := 10) (C := RX10) (T := TX10) (N := 49) hx hb hts inX10 hown hK hw 14 m_u_18 rfl (by decide) (hts _ tw_1151) (fun _ h9 => h9) dX10_oneDay_95 ?_
            refine lv_bipush (v := 92) hx hb dX10_oneDay_98 (by decide) ?_
            refine lv_iload_n hx hb dX10_oneDay_100 rfl (lv_at hl 1 rfl) ?_
            refine lv_iadd hx hb dX10_oneDay_101 (lv_topi (fun v_26 e_v_26 => ?_))
            obtain ⟨t_v_26, r_v_26⟩ := tq_add (lo := 92) (hi := 97) rl_92 r_x1 (by decide +kernel) e_v_26
            have t_v_26 : v_26.toInt = 92 + x1.toInt := t_v_26
            refine tg_iald (lo := (-2147483648)) (hi := 2147483647) hx hb hK hw h_vu_18 rfl 92 97 r_v_26 (by decide) (by decide +kernel) dX10_oneDay_102 (fun v_27 r_v_27 m_v_27 o_v_27 => ?_)
            refine lv_iconst (v := 1) hx hb dX10_oneDay_103 (by decide) ?_
            refine lv_iadd hx hb dX10_oneDay_104 (lv_topi (fun v_28 e_v_28 => ?_))
            have r_v_28 := ri_any v_28
            refine tk_ir (va_runS (As := [.int 99, .int v_28]) (rest := [.int v_25, .ref vu_18]) ⟨hx, hb, hml, hown, hts⟩ (c_X10_least l D cy z H.size Ps ws hw.1 99 v_28 rl_99 r_v_28) (va_cwS 2 hts (gS tw_1525 tw_1526 tw_15 tw_1527) rfl rfl rfl (by decide +kernel) ⟨Nat.le_of_ble_eq_true rfl, Nat.le_of_ble_eq_true rfl⟩) (tg_preS hw hK hSD hA) rfl rfl hl.1 rfl (lv_room (Nat.le_of_ble_eq_true rfl)) dX10_oneDay_105 ⟨Nat.le_of_ble_eq_true rfl, Nat.le_of_ble_eq_true rfl⟩) hw hA (fun v_29  H locs hp_v_29 hw => ?_)
            have r_v_29 : RI v_29 (-2147483648) 99 := hp_v_29.1
            have hw8 := hw
            refine tg_iast hx hb hK hw h_vu_18 rfl 92 97 r_v_25 (by decide) r_v_29 (by decide +kernel) (RN_upd (by decide) (by decide)) (by decide) dX10_oneDay_108 (fun ws H locs hw hF9 hU9 => ?_)
            have x_HD_p0_gdR : AX 14 34 (HDp gdR) Ps ws p0 := AX.ast hF9 hU9 x_HD_p0_gdR m_u_18 (fun f9 h9 => HDp.upd h9 (by have k1 := r_v_25.cl (by decide); have k2 := r_v_25.1; omega))
            have m_u_18 := FLD.over hF9 m_u_18 (by decide)
            exact B109 x1 ws _ _ ls r_x1 x_HD_p0_gdR (by have q0 := r_x1.1; have u0 := r_x1.2; omega) hw hl
  have B31 : ∀ (nf : Nat) (x1 : Int32) (ws : va_W) (H : Heap) (locs : List Loc) (ls : Array Slot), 8 - x1.toInt < (nf : Int) → RI x1 0 8 → AX 14 34 (HDp gdR) Ps ws p0 → WD D cy GG A s wr_X10_oneDay__1 wa_X10_oneDay__1 Ps w0 Ps ws H locs → lv_has ls 2 [(0, .ref p0), (1, .int x1)] → W p l e (headSpec (Cond.code yX10_oneDay cX10_oneDay 2 none :: gT) ({ frames := 4, cells := 0, slots := 0, locals := 800 } : Room)).room s m ([.ref p0] : List Value).toArray below meth c H locs 0 0 Q (F0 m 31 ls []) := by
    intro nf31
    induction nf31 with
    | zero =>
      intro x1 ws H locs ls hn31 r_x1 x_HD_p0_gdR hw hl
      exact absurd hn31 (by have q0 := r_x1.1; have u0 := r_x1.2; omega)
    | succ nf31 ih31 =>
      intro x1 ws H locs ls hn31 r_x1 x_HD_p0_gdR hw hl
      refine lv_iload_n hx hb dX10_oneDay_31 rfl (lv_at hl 1 rfl) ?_
      refine lv_aload_n hx hb dX10_oneDay_32 rfl (lv_at hl 0 rfl) ?_
      refine tg_get (ci := 10) (ts := ty_MODEL) (C := RX10) (T := TX10) (N := 49) hx hb hts inX10 hown hK hw h_p0 rfl rfl 14 (by decide) (hts _ tw_1151) (fun _ h9 => h9) (ft := vR 34) rfl dX10_oneDay_33 (fun u_30 hv_u_30 m_u_30 => ?_)
      obtain ⟨vu_30, rfl, h_vu_30⟩ := hv_u_30
      refine lv_iconst (v := 3) hx hb dX10_oneDay_36 (by decide) ?_
      refine tg_iald (lo := 0) (hi := 8) hx hb hK hw h_vu_30 rfl 3 3 rl_3 (by decide) (by decide +kernel) dX10_oneDay_37 (fun v_31 r_v_31 m_v_31 o_v_31 => ?_)
      refine lv_icmp_ge (tgt := 52) hx hb dX10_oneDay_38 (by decide) (fun c_38 => ?_) (fun c_38 => ?_)
      · refine lv_iconst (v := 0) hx hb dX10_oneDay_52 (by decide) ?_
        refine lv_istore_n (lv' := [(1, .int 0), (0, .ref p0)]) hx hb dX10_oneDay_53 rfl hl (by decide) rfl (fun ls hl => ?_)
        exact B54 4294967298 0 ws _ _ ls (by have q0 := rl_0.1; have u0 := rl_0.2; omega) (rl_0.to (by decide)) x_HD_p0_gdR hw (lv_sub hl [1, 0] rfl)
      · have r_x1 : RI x1 0 7 := rc_lt1 r_x1 r_v_31 (ti_nle c_38) (by decide)
        have r_v_31 : RI v_31 1 8 := rc_lt2 r_x1 r_v_31 (ti_nle c_38) (by decide)
        refine lv_aload_n hx hb dX10_oneDay_41 rfl (lv_at hl 0 rfl) ?_
        refine lv_iload_n hx hb dX10_oneDay_42 rfl (lv_at hl 1 rfl) ?_
        have hw8 := hw
        refine tk_v (va_runV (As := [.int x1]) (rest := []) ⟨hx, hb, hml, hown, hts⟩ (c_X10_wonders__1 l D cy z H.size Ps ws hw.1 p0 x1 (gdR) h_p0 r_x1 x_HD_p0_gdR) (cwV 1 hts (gV tw_1568 tw_1570 ts_86 tw_15 tw_1571) rfl rfl rfl (by decide +kernel) ⟨Nat.le_of_ble_eq_true rfl, Nat.le_of_ble_eq_true rfl⟩) (tg_preV hw hK hSD hA (ci := 10) (q := (RX10, TX10, 49)) rfl h_p0 rfl) rfl rfl hl.1 rfl (lv_room (Nat.le_of_ble_eq_true rfl)) dX10_oneDay_43 ⟨Nat.le_of_ble_eq_true rfl, Nat.le_of_ble_eq_true rfl⟩) hw hA ⟨by decide, by decide⟩ (fun ws H locs hp_v_32 hw hF9 => ?_)
        have m_u_30 := FLD.over hF9 m_u_30 (by decide)
        obtain ⟨x_HD_p0_gdR, hp_v_32⟩ := hp_v_32
        obtain ⟨v_33, e_v_33⟩ : ∃ q9 : Int32, q9 = x1 + Int32.ofInt 1 := ⟨_, rfl⟩
        obtain ⟨t_v_33, r_v_33⟩ := tq_add (lo := 1) (hi := 8) r_x1 (show RI (Int32.ofInt 1) 1 1 by unfold RI; decide +kernel) (by decide +kernel) e_v_33
        have t_v_33 : v_33.toInt = x1.toInt + 1 := t_v_33
        refine lv_iinc (v := v_33) (lv' := [(1, .int v_33), (0, .ref p0)]) hx hb dX10_oneDay_46 hl (k := 1) rfl e_v_33.symm (by decide) rfl (fun ls hl => ?_)
        refine lv_goto (tgt := 31) hx hb dX10_oneDay_49 (by decide) ?_
        exact ih31 v_33 ws _ _ ls (by have q0 := r_v_33.1; have u0 := r_v_33.2; have o0 := r_x1.1; have p0 := r_x1.2; omega) (r_v_33.to (by decide)) x_HD_p0_gdR hw (lv_sub hl [1, 0] rfl)
  have B2 : ∀ (nf : Nat) (x1 : Int32) (ws : va_W) (H : Heap) (locs : List Loc) (ls : Array Slot), 6 - x1.toInt < (nf : Int) → RI x1 0 6 → AX 14 34 (HDp gdR) Ps ws p0 → WD D cy GG A s wr_X10_oneDay__1 wa_X10_oneDay__1 Ps w0 Ps ws H locs → lv_has ls 2 [(0, .ref p0), (1, .int x1)] → W p l e (headSpec (Cond.code yX10_oneDay cX10_oneDay 2 none :: gT) ({ frames := 4, cells := 0, slots := 0, locals := 800 } : Room)).room s m ([.ref p0] : List Value).toArray below meth c H locs 0 0 Q (F0 m 2 ls []) := by
    intro nf2
    induction nf2 with
    | zero =>
      intro x1 ws H locs ls hn2 r_x1 x_HD_p0_gdR hw hl
      exact absurd hn2 (by have q0 := r_x1.1; have u0 := r_x1.2; omega)
    | succ nf2 ih2 =>
      intro x1 ws H locs ls hn2 r_x1 x_HD_p0_gdR hw hl
      refine lv_iload_n hx hb dX10_oneDay_2 rfl (lv_at hl 1 rfl) ?_
      refine lv_aload_n hx hb dX10_oneDay_3 rfl (lv_at hl 0 rfl) ?_
      refine tg_get (ci := 10) (ts := ty_MODEL) (C := RX10) (T := TX10) (N := 49) hx hb hts inX10 hown hK hw h_p0 rfl rfl 14 (by decide) (hts _ tw_1151) (fun _ h9 => h9) (ft := vR 34) rfl dX10_oneDay_4 (fun u_34 hv_u_34 m_u_34 => ?_)
      obtain ⟨vu_34, rfl, h_vu_34⟩ := hv_u_34
      refine lv_iconst (v := 2) hx hb dX10_oneDay_7 (by decide) ?_
      refine tg_iald (lo := 0) (hi := 6) hx hb hK hw h_vu_34 rfl 2 2 rl_2 (by decide) (by decide +kernel) dX10_oneDay_8 (fun v_35 r_v_35 m_v_35 o_v_35 => ?_)
      refine lv_icmp_ge (tgt := 29) hx hb dX10_oneDay_9 (by decide) (fun c_9 => ?_) (fun c_9 => ?_)
      · refine lv_iconst (v := 0) hx hb dX10_oneDay_29 (by decide) ?_
        refine lv_istore_n (lv' := [(1, .int 0), (0, .ref p0)]) hx hb dX10_oneDay_30 rfl hl (by decide) rfl (fun ls hl => ?_)
        exact B31 4294967298 0 ws _ _ ls (by have q0 := rl_0.1; have u0 := rl_0.2; omega) (rl_0.to (by decide)) x_HD_p0_gdR hw (lv_sub hl [1, 0] rfl)
      · have r_x1 : RI x1 0 5 := rc_lt1 r_x1 r_v_35 (ti_nle c_9) (by decide)
        have r_v_35 : RI v_35 1 6 := rc_lt2 r_x1 r_v_35 (ti_nle c_9) (by decide)
        refine lv_aload_n hx hb dX10_oneDay_12 rfl (lv_at hl 0 rfl) ?_
        refine tg_get (ci := 10) (ts := ty_MODEL) (C := RX10) (T := TX10) (N := 49) hx hb hts inX10 hown hK hw h_p0 rfl rfl 26 (by decide) (hts _ tw_1163) (fun _ h9 => h9) (ft := vR 46) rfl dX10_oneDay_13 (fun u_36 hv_u_36 m_u_36 => ?_)
        obtain ⟨vu_36, rfl, h_vu_36⟩ := hv_u_36
        refine lv_iload_n hx hb dX10_oneDay_16 rfl (lv_at hl 1 rfl) ?_
        refine lv_aload_n hx hb dX10_oneDay_17 rfl (lv_at hl 0 rfl) ?_
        refine lv_iload_n hx hb dX10_oneDay_18 rfl (lv_at hl 1 rfl) ?_
        refine tk_ir (va_runV (As := [.int x1]) (rest := [.int x1, .ref vu_36]) ⟨hx, hb, hml, hown, hts⟩ (c_X10_whatIs l D cy z H.size Ps ws hw.1 p0 x1 h_p0 r_x1) (cwV 1 hts (gV tw_1449 tw_1451 ts_69 tw_15 tw_1452) rfl rfl rfl (by decide +kernel) ⟨Nat.le_of_ble_eq_true rfl, Nat.le_of_ble_eq_true rfl⟩) (tg_preV hw hK hSD hA (ci := 10) (q := (RX10, TX10, 49)) rfl h_p0 rfl) rfl rfl hl.1 rfl (lv_room (Nat.le_of_ble_eq_true rfl)) dX10_oneDay_19 ⟨Nat.le_of_ble_eq_true rfl, Nat.le_of_ble_eq_true rfl⟩) hw hA (fun v_37  H locs hp_v_37 hw => ?_)
        have r_v_37 : RI v_37 (-1) 5 := hp_v_37.1
        by_cases c9_v_37 : v_37.toInt < 0
        · have r_v_37 : RI v_37 (-1) (-1) := by unfold RI at r_v_37 ⊢; omega
          have x_NB_p0_x1 := (hp_v_37.2.2.2.2.1 (by omega)).1
          have hw8 := hw
          refine tg_iast hx hb hK hw h_vu_36 rfl 0 5 r_x1 (by decide) r_v_37 (by exact fun _ _ _ => by decide) (fun _ _ _ _ _ => trivial) (by decide) dX10_oneDay_22 (fun ws H locs hw hF9 hU9 => ?_)
          have m_v_35 := AEL.over hw8 hF9 h_vu_34 m_v_35 (by decide)
          have x_HD_p0_gdR := AX.over hF9 x_HD_p0_gdR (by decide)
          have x_NB_p0_x1 := AX.over hF9 x_NB_p0_x1 (by decide)
          have m_u_34 := FLD.over hF9 m_u_34 (by decide)
          have m_u_36 := FLD.over hF9 m_u_36 (by decide)
          obtain ⟨v_38, e_v_38⟩ : ∃ q9 : Int32, q9 = x1 + Int32.ofInt 1 := ⟨_, rfl⟩
          obtain ⟨t_v_38, r_v_38⟩ := tq_add (lo := 1) (hi := 6) r_x1 (show RI (Int32.ofInt 1) 1 1 by unfold RI; decide +kernel) (by decide +kernel) e_v_38
          have t_v_38 : v_38.toInt = x1.toInt + 1 := t_v_38
          refine lv_iinc (v := v_38) (lv' := [(1, .int v_38), (0, .ref p0)]) hx hb dX10_oneDay_23 hl (k := 1) rfl e_v_38.symm (by decide) rfl (fun ls hl => ?_)
          refine lv_goto (tgt := 2) hx hb dX10_oneDay_26 (by decide) ?_
          exact ih2 v_38 ws _ _ ls (by have q0 := r_v_38.1; have u0 := r_v_38.2; have o0 := r_x1.1; have p0 := r_x1.2; omega) (r_v_38.to (by decide)) x_HD_p0_gdR hw (lv_sub hl [1, 0] rfl)
        · have r_v_37 : RI v_37 0 5 := by unfold RI at r_v_37 ⊢; omega
          have x_WB_p0_x1_v_37 := (hp_v_37.2.2.2.2.2 (by omega)).1
          have hw8 := hw
          refine tg_iast hx hb hK hw h_vu_36 rfl 0 5 r_x1 (by decide) r_v_37 (by exact fun _ _ _ => by decide) (fun _ _ _ _ _ => trivial) (by decide) dX10_oneDay_22 (fun ws H locs hw hF9 hU9 => ?_)
          have m_v_35 := AEL.over hw8 hF9 h_vu_34 m_v_35 (by decide)
          have x_HD_p0_gdR := AX.over hF9 x_HD_p0_gdR (by decide)
          have x_WB_p0_x1_v_37 := AX.over hF9 x_WB_p0_x1_v_37 (by decide)
          have m_u_34 := FLD.over hF9 m_u_34 (by decide)
          have m_u_36 := FLD.over hF9 m_u_36 (by decide)
          obtain ⟨v_39, e_v_39⟩ : ∃ q9 : Int32, q9 = x1 + Int32.ofInt 1 := ⟨_, rfl⟩
          obtain ⟨t_v_39, r_v_39⟩ := tq_add (lo := 1) (hi := 6) r_x1 (show RI (Int32.ofInt 1) 1 1 by unfold RI; decide +kernel) (by decide +kernel) e_v_39
          have t_v_39 : v_39.toInt = x1.toInt + 1 := t_v_39
          refine lv_iinc (v := v_39) (lv' := [(1, .int v_39), (0, .ref p0)]) hx hb dX10_oneDay_23 hl (k := 1) rfl e_v_39.symm (by decide) rfl (fun ls hl => ?_)
          refine lv_goto (tgt := 2) hx hb dX10_oneDay_26 (by decide) ?_
          exact ih2 v_39 ws _ _ ls (by have q0 := r_v_39.1; have u0 := r_v_39.2; have o0 := r_x1.1; have p0 := r_x1.2; omega) (r_v_39.to (by decide)) x_HD_p0_gdR hw (lv_sub hl [1, 0] rfl)
  refine lv_iconst (v := 0) hx hb dX10_oneDay_0 (by decide) ?_
  refine lv_istore_n (lv' := [(1, .int 0), (0, .ref p0)]) hx hb dX10_oneDay_1 rfl hl (by decide) rfl (fun ls hl => ?_)
  exact B2 4294967298 0 w0 _ _ ls (by have q0 := rl_0.1; have u0 := rl_0.2; omega) (rl_0.to (by decide)) x_HD_p0_gdR hw (lv_sub hl [1, 0] rfl)
abbrev wr_X10_passDays__1 : List (Nat × Nat) := []
abbrev wa_X10_passDays__1 : List Nat := [34, 46]
set_option maxHeartbeats 4000000 in
set_option maxRecDepth 100000 in
theorem c_X10_passDays__1 (l : Launch) (D : va_G) (cy : Nat → ClassId) (z : Nat → Nat) (sz : Nat) (Ps : PSI) (w0 : va_W) (hT : HT cy GG Ps w0) (p0 : Nat) (p1 : Int32) (gdR : Nat → Int32) (h_p0 : (p0, 55) ∈ Ps) (r_p1 : RI p1 (-2147483648) 2147483647) (x_HD_p0_gdR : AX 14 34 (HDp gdR) Ps w0 p0) : Met l yX10_passDays (Cond.code yX10_passDays cX10_passDays 4 (some .int) :: gT) ({ frames := 5, cells := 0, slots := 0, locals := 1000 } : Room) (va_Pc [.ref p0, .int p1] (PRE D cy z w0 sz)) (va_Qi (fun (r : Int32) (u : va_W) => ((AX 14 34 (HDp gdR) Ps u p0) ∧ (RI r (-2147483648) 2147483647 ∧ (r = 0 → True) ∧ (¬ r = 0 → True))) ∧ HT cy GG Ps u ∧ FR wr_X10_passDays__1 wa_X10_passDays__1 Ps w0 u) (BB D cy (va_A w0 sz) (fun (u : va_W) => u)) (va_A w0 sz)) 0 0 (va_A w0 sz) := by
  refine Met.ofW (cc := cX10_passDays) (maxL := 4) (ret := (some .int)) (by decide) rfl ?_
  intro p e s m args below meth c s₁ B hml hv
  obtain ⟨rfl, hsz, hP, hK, hD0, hSD⟩ := hv
  have hx := B.exec
  have hb := B.bytes
  have hr := B.returns
  have hlocks := B.notSynchronized
  have hts : ∀ w ∈ gT, w.before _ s = true := fun w h => atoms_spec (ws := Cond.code yX10_passDays cX10_passDays 4 (some .int) :: gT) B.pre w (List.mem_cons_of_mem _ h)
  have hown : s.vm.findClass RX10 = some m.cls := findClass_of_methodNamed B.named
  subst hsz
  have hD := hD0.self (sz := s.heap.size)
  generalize hAe : va_A w0 s.heap.size = A at hD hSD ⊢
  have hA : ∀ q : Nat, s.heap.size ≤ q → A q := fun q h => by rw [← hAe]; exact Or.inr h
  have hl := lv_entry ([.ref p0, .int p1]) (n := 4) (Nat.le_of_ble_eq_true rfl)
  rw [lg_entry_eq]
  generalize (lg_sl ([.ref p0, .int p1]) ++ List.replicate (4 - (lg_sl ([.ref p0, .int p1])).length) Slot.unset).toArray = ls at hl ⊢
  have hl : lv_has ls 4 [(0, .ref p0), (1, .int p1)] := hl
  refine nameQ (fun Q hQ => ?_)
  have hw : WD D cy GG A s wr_X10_passDays__1 wa_X10_passDays__1 Ps w0 Ps w0 s.heap [] := ⟨hT, hP, hD, va_S.rf, FR.rf, hT.1, [], (List.append_nil _).symm⟩
  have B18 : ∀ (nf : Nat) (x2 : Int32) (x3 : Int32) (ws : va_W) (H : Heap) (locs : List Loc) (ls : Array Slot), 2147483647 - x3.toInt < (nf : Int) → RI p1 (-2147483648) 2147483647 → RI x2 (-2147483648) 2147483647 → RI x3 0 2147483647 → AX 14 34 (HDp gdR) Ps ws p0 → WD D cy GG A s wr_X10_passDays__1 wa_X10_passDays__1 Ps w0 Ps ws H locs → lv_has ls 4 [(0, .ref p0), (1, .int p1), (2, .int x2), (3, .int x3)] → W p l e (headSpec (Cond.code yX10_passDays cX10_passDays 4 (some .int) :: gT) ({ frames := 5, cells := 0, slots := 0, locals := 1000 } : Room)).room s m ([.ref p0, .int p1] : List Value).toArray below meth c H locs 0 0 Q (F0 m 18 ls []) := by
    intro nf18
    induction nf18 with
    | zero =>
      intro x2 x3 ws H locs ls hn18 r_p1 r_x2 r_x3 x_HD_p0_gdR hw hl
      exact absurd hn18 (by have q0 := r_x3.1; have u0 := r_x3.2; omega)
    | succ nf18 ih18 =>
      intro x2 x3 ws H locs ls hn18 r_p1 r_x2 r_x3 x_HD_p0_gdR hw hl
      refine lv_iload_n hx hb dX10_passDays_18 rfl (lv_at hl 3 rfl) ?_
      refine lv_iload_n hx hb dX10_passDays_19 rfl (lv_at hl 2 rfl) ?_
      refine lv_icmp_ge (tgt := 33) hx hb dX10_passDays_20 (by decide) (fun c_20 => ?_) (fun c_20 => ?_)
      · refine lv_iload_n hx hb dX10_passDays_33 rfl (lv_at hl 2 rfl) ?_
        subst hQ
        exact W.iret (v := x2) hx hb hr (fun t ht hW => ⟨⟨x2, ws, rfl, ⟨⟨x_HD_p0_gdR, r_x2.to (by decide), (fun h0 => trivial), (fun h0 => trivial)⟩, hw.1, hw.2.2.2.2.1⟩, by rw [ht]; exact hw.2.1, va_K.moved hW.alike hK, hw.2.2.1⟩, hw.2.2.2.1.F ht⟩) hw.2.2.2.1.2.2 dX10_passDays_34
      · have r_x3 : RI x3 0 2147483646 := rc_lt1 r_x3 r_x2 (ti_nle c_20) (by decide)
        have r_x2 : RI x2 1 2147483647 := rc_lt2 r_x3 r_x2 (ti_nle c_20) (by decide)
        refine lv_aload_n hx hb dX10_passDays_23 rfl (lv_at hl 0 rfl) ?_
        refine tk_v (va_runV (As := []) (rest := []) ⟨hx, hb, hml, hown, hts⟩ (c_X10_oneDay__1 l D cy z H.size Ps ws hw.1 p0 (gdR) h_p0 x_HD_p0_gdR) (cwV 0 hts (gV tw_1564 tw_1566 ts_85 tw_15 tw_1567) rfl rfl rfl (by decide +kernel) ⟨Nat.le_of_ble_eq_true rfl, Nat.le_of_ble_eq_true rfl⟩) (tg_preV hw hK hSD hA (ci := 10) (q := (RX10, TX10, 49)) rfl h_p0 rfl) rfl rfl hl.1 rfl (lv_room (Nat.le_of_ble_eq_true rfl)) dX10_passDays_24 ⟨Nat.le_of_ble_eq_true rfl, Nat.le_of_ble_eq_true rfl⟩) hw hA ⟨by decide, by decide⟩ (fun ws H locs hp_v_1 hw hF9 => ?_)
        obtain ⟨x_HD_p0_gdR, hp_v_1⟩ := hp_v_1
        obtain ⟨v_2, e_v_2⟩ : ∃ q9 : Int32, q9 = x3 + Int32.ofInt 1 := ⟨_, rfl⟩
        obtain ⟨t_v_2, r_v_2⟩ := tq_add (lo := 1) (hi := 2147483647) r_x3 (show RI (Int32.ofInt 1) 1 1 by unfold RI; decide +kernel) (by decide +kernel) e_v_2
        have t_v_2 : v_2.toInt = x3.toInt + 1 := t_v_2
        refine lv_iinc (v := v_2) (lv' := [(3, .int v_2), (0, .ref p0), (1, .int p1), (2, .int x2)]) hx hb dX10_passDays_27 hl (k := 3) rfl e_v_2.symm (by decide) rfl (fun ls hl => ?_)
        refine lv_goto (tgt := 18) hx hb dX10_passDays_30 (by decide) ?_
        exact ih18 x2 v_2 ws _ _ ls (by have q0 := r_v_2.1; have u0 := r_v_2.2; have o0 := r_x3.1; have p0 := r_x3.2; omega) r_p1 (r_x2.to (by decide)) (r_v_2.to (by decide)) x_HD_p0_gdR hw (lv_sub hl [1, 2, 3, 0] rfl)
  refine lv_iload_n hx hb dX10_passDays_0 rfl (lv_at hl 1 rfl) ?_
  refine lv_sipush (v := 400) hx hb dX10_passDays_1 (by decide) ?_
  refine lv_aload_n hx hb dX10_passDays_4 rfl (lv_at hl 0 rfl) ?_
  refine tg_get (ci := 10) (ts := ty_MODEL) (C := RX10) (T := TX10) (N := 49) hx hb hts inX10 hown hK hw h_p0 rfl rfl 14 (by decide) (hts _ tw_1151) (fun _ h9 => h9) (ft := vR 34) rfl dX10_passDays_5 (fun u_3 hv_u_3 m_u_3 => ?_)
  obtain ⟨vu_3, rfl, h_vu_3⟩ := hv_u_3
  refine lv_bipush (v := 84) hx hb dX10_passDays_8 (by decide) ?_
  refine tg_iald (lo := (-2147483648)) (hi := 2147483647) hx hb hK hw h_vu_3 rfl 84 84 rl_84 (by decide) (by decide +kernel) dX10_passDays_10 (fun v_4 r_v_4 m_v_4 o_v_4 => ?_)
  refine lv_isub hx hb dX10_passDays_11 (lv_topi (fun v_5 e_v_5 => ?_))
  have r_v_5 := ri_any v_5
  refine tk_ir (va_runS (As := [.int p1, .int v_5]) (rest := []) ⟨hx, hb, hml, hown, hts⟩ (c_X10_least__1 l D cy z s.heap.size Ps w0 hw.1 p1 v_5 r_p1 r_v_5) (va_cwS 2 hts (gS tw_1525 tw_1526 tw_15 tw_1527) rfl rfl rfl (by decide +kernel) ⟨Nat.le_of_ble_eq_true rfl, Nat.le_of_ble_eq_true rfl⟩) (tg_preS hw hK hSD hA) rfl rfl hl.1 rfl (lv_room (Nat.le_of_ble_eq_true rfl)) dX10_passDays_12 ⟨Nat.le_of_ble_eq_true rfl, Nat.le_of_ble_eq_true rfl⟩) hw hA (fun v_6  H locs hp_v_6 hw => ?_)
  have r_v_6 : RI v_6 (-2147483648) 2147483647 := hp_v_6.1
  refine lv_istore_n (lv' := [(2, .int v_6), (0, .ref p0), (1, .int p1)]) hx hb dX10_passDays_15 rfl hl (by decide) rfl (fun ls hl => ?_)
  refine lv_iconst (v := 0) hx hb dX10_passDays_16 (by decide) ?_
  refine lv_istore_n (lv' := [(3, .int 0), (2, .int v_6), (0, .ref p0), (1, .int p1)]) hx hb dX10_passDays_17 rfl hl (by decide) rfl (fun ls hl => ?_)
  exact B18 4294967298 v_6 0 w0 _ _ ls (by have q0 := rl_0.1; have u0 := rl_0.2; omega) r_p1 r_v_6 (rl_0.to (by decide)) x_HD_p0_gdR hw (lv_sub hl [2, 3, 1, 0] rfl)
abbrev wr_X10_goBy__1 : List (Nat × Nat) := []
abbrev wa_X10_goBy__1 : List Nat := [34, 46]
set_option maxHeartbeats 4000000 in
set_option maxRecDepth 100000 in
theorem c_X10_goBy__1 (l : Launch) (D : va_G) (cy : Nat → ClassId) (z : Nat → Nat) (sz : Nat) (Ps : PSI) (w0 : va_W) (hT : HT cy GG Ps w0) (p0 : Nat) (p1 : Int32) (gdR : Nat → Int32) (h_p0 : (p0, 55) ∈ Ps) (r_p1 : RI p1 0 117) (x_GL_p0_p1 : AX 40 52 (fun f => GLk f (Int32.toNatClampNeg p1)) Ps w0 p0) (x_HD_p0_gdR : AX 14 34 (HDp gdR) Ps w0 p0) : Met l yX10_goBy (Cond.code yX10_goBy cX10_goBy 4 (some .int) :: gT) ({ frames := 6, cells := 0, slots := 0, locals := 1200 } : Room) (va_Pc [.ref p0, .int p1] (PRE D cy z w0 sz)) (va_Qi (fun (r : Int32) (u : va_W) => ((AX 14 34 (HDp gdR) Ps u p0) ∧ (RI r 0 61 ∧ (r = 0 → True) ∧ (¬ r = 0 → True))) ∧ HT cy GG Ps u ∧ FR wr_X10_goBy__1 wa_X10_goBy__1 Ps w0 u) (BB D cy (va_A w0 sz) (fun (u : va_W) => u)) (va_A w0 sz)) 0 0 (va_A w0 sz) := by
  refine Met.ofW (cc := cX10_goBy) (maxL := 4) (ret := (some .int)) (by decide) rfl ?_
  intro p e s m args below meth c s₁ B hml hv
  obtain ⟨rfl, hsz, hP, hK, hD0, hSD⟩ := hv
  have hx := B.exec
  have hb := B.bytes
  have hr := B.returns
  have hlocks := B.notSynchronized
  have hts : ∀ w ∈ gT, w.before _ s = true := fun w h => atoms_spec (ws := Cond.code yX10_goBy cX10_goBy 4 (some .int) :: gT) B.pre w (List.mem_cons_of_mem _ h)
  have hown : s.vm.findClass RX10 = some m.cls := findClass_of_methodNamed B.named
  subst hsz
  have hD := hD0.self (sz := s.heap.size)
  generalize hAe : va_A w0 s.heap.size = A at hD hSD ⊢
  have hA : ∀ q : Nat, s.heap.size ≤ q → A q := fun q h => by rw [← hAe]; exact Or.inr h
  have hl := lv_entry ([.ref p0, .int p1]) (n := 4) (Nat.le_of_ble_eq_true rfl)
  rw [lg_entry_eq]
  generalize (lg_sl ([.ref p0, .int p1]) ++ List.replicate (4 - (lg_sl ([.ref p0, .int p1])).length) Slot.unset).toArray = ls at hl ⊢
  have hl : lv_has ls 4 [(0, .ref p0), (1, .int p1)] := hl
  refine nameQ (fun Q hQ => ?_)
  have hw : WD D cy GG A s wr_X10_goBy__1 wa_X10_goBy__1 Ps w0 Ps w0 s.heap [] := ⟨hT, hP, hD, va_S.rf, FR.rf, hT.1, [], (List.append_nil _).symm⟩
  refine lv_aload_n hx hb dX10_goBy_0 rfl (lv_at hl 0 rfl) ?_
  refine tg_get (ci := 10) (ts := ty_MODEL) (C := RX10) (T := TX10) (N := 49) hx hb hts inX10 hown hK hw h_p0 rfl rfl 40 (by decide) (hts _ tw_1177) (fun _ h9 => h9) (ft := vR 52) rfl dX10_goBy_1 (fun u_1 hv_u_1 m_u_1 => ?_)
  obtain ⟨vu_1, rfl, h_vu_1⟩ := hv_u_1
  refine lv_iload_n hx hb dX10_goBy_4 rfl (lv_at hl 1 rfl) ?_
  refine lv_iconst (v := 1) hx hb dX10_goBy_5 (by decide) ?_
  refine lv_iadd hx hb dX10_goBy_6 (lv_topi (fun v_2 e_v_2 => ?_))
  obtain ⟨t_v_2, r_v_2⟩ := tq_add (lo := 1) (hi := 118) r_p1 rl_1 (by decide +kernel) e_v_2
  have t_v_2 : v_2.toInt = p1.toInt + 1 := t_v_2
  refine tg_iald (lo := 0) (hi := 60) hx hb hK hw h_vu_1 rfl 1 118 r_v_2 (by decide) (by exact fun _ _ _ => ⟨Int.le_refl _, Int.le_refl _⟩) dX10_goBy_7 (fun v_3 r_v_3 m_v_3 o_v_3 => ?_)
  refine lv_istore_n (lv' := [(2, .int v_3), (0, .ref p0), (1, .int p1)]) hx hb dX10_goBy_8 rfl hl (by decide) rfl (fun ls hl => ?_)
  refine lv_aload_n hx hb dX10_goBy_9 rfl (lv_at hl 1 rfl) ?_
  refine tg_mem (ci := 10) (C := RX10) (T := TX10) (N := 49) hx hb hts inX10 hown hK hw 40 m_u_1 rfl (by decide) (hts _ tw_1177) (fun _ h9 => h9) dX10_goBy_10 ?_
  refine lv_iload_n hx hb dX10_goBy_13 rfl (lv_at hl 2 rfl) ?_
  refine tg_iald (lo := 0) (hi := 60) hx hb hK hw h_vu_1 rfl 0 117 r_p1 (by decide) (by exact fun _ _ _ => ⟨Int.le_refl _, Int.le_refl _⟩) dX10_goBy_14 (fun v_4 r_v_4 m_v_4 o_v_4 => ?_)
  refine lv_bipush (v := 6) hx hb dX10_goBy_15 (by decide) ?_
  refine lv_icmp_ne (tgt := 46) hx hb dX10_goBy_17 (by decide) (fun c_17 => ?_) (fun c_17 => ?_)
  · have g_gl : (0 ≤ v_4.toInt ∧ v_4.toInt ≤ 6) ∧ (v_4.toInt = 6 ∨ v_3.toInt ≤ 7) := by obtain ⟨_, f9, e8, e7, q9⟩ := x_GL_p0_p1; cases FLD.inj hw.2.2.1 e8 m_u_1; have t9 := ARR.ael hw.2.2.1 e7 m_v_4; have x9 := ARR.ael hw.2.2.1 e7 m_v_3; rw [show Int32.toNatClampNeg v_2 = Int32.toNatClampNeg p1 + 1 from (by have k1 := r_v_2.cl (by decide); have k2 := r_p1.cl (by decide); omega)] at x9; have q8 := q9.1; have q7 := q9.2.1; rw [t9] at q8 q7; rw [x9] at q7; exact ⟨q8, q7⟩
    have n_9 := ti_ne c_17
    have n_8 : (6 : Int32).toInt = 6 := by decide
    have r_v_3 : RI v_3 0 7 := ⟨r_v_3.1, by omega⟩
    rcases (show v_4.toInt = 0 ∨ v_4.toInt = 1 ∨ v_4.toInt = 2 ∨ v_4.toInt = 3 ∨ v_4.toInt = 4 ∨ v_4.toInt = 5 by omega) with h_9 | h_9 | h_9 | h_9 | h_9 | h_9
    · have r_v_4 : RI v_4 0 0 := ⟨by omega, by omega⟩
      refine lv_aload_n hx hb dX10_goBy_46 rfl (lv_at hl 1 rfl) ?_
      refine lv_aload_n hx hb dX10_goBy_47 rfl (lv_at hl 1 rfl) ?_
      refine tg_mem (ci := 10) (C := RX10) (T := TX10) (N := 49) hx hb hts inX10 hown hK hw 40 m_u_1 rfl (by decide) (hts _ tw_1177) (fun _ h9 => h9) dX10_goBy_48 ?_
      refine lv_iload_n hx hb dX10_goBy_51 rfl (lv_at hl 2 rfl) ?_
      refine tg_imem hx hb hK hw h_vu_1 rfl r_p1 (by decide) m_v_4 dX10_goBy_52 ?_
      refine lv_iload_n hx hb dX10_goBy_53 rfl (lv_at hl 0 rfl) ?_
      refine lv_aload_n hx hb dX10_goBy_54 rfl (lv_at hl 1 rfl) ?_
      refine tg_mem (ci := 10) (C := RX10) (T := TX10) (N := 49) hx hb hts inX10 hown hK hw 40 m_u_1 rfl (by decide) (hts _ tw_1177) (fun _ h9 => h9) dX10_goBy_55 ?_
      refine lv_iload_n hx hb dX10_goBy_58 rfl (lv_at hl 2 rfl) ?_
      refine lv_iconst (v := 2) hx hb dX10_goBy_59 (by decide) ?_
      refine lv_iadd hx hb dX10_goBy_60 (lv_topi (fun v_6 e_v_6 => ?_))
      obtain ⟨t_v_6, r_v_6⟩ := tq_add (lo := 2) (hi := 119) r_p1 rl_2 (by decide +kernel) e_v_6
      have t_v_6 : v_6.toInt = p1.toInt + 2 := t_v_6
      refine tg_iald (lo := 0) (hi := 60) hx hb hK hw h_vu_1 rfl 2 119 r_v_6 (by decide) (by exact fun _ _ _ => ⟨Int.le_refl _, Int.le_refl _⟩) dX10_goBy_61 (fun v_7 r_v_7 m_v_7 o_v_7 => ?_)
      have r_v_7 : RI v_7 0 5 := ⟨r_v_7.1, by obtain ⟨_, f9, e8, e7, q9⟩ := x_GL_p0_p1; cases FLD.inj hw.2.2.1 e8 m_u_1; have x9 := ARR.ael hw.2.2.1 e7 m_v_7; rw [show Int32.toNatClampNeg v_6 = Int32.toNatClampNeg p1 + 2 from (by have k1 := r_v_6.cl (by decide); have k2 := r_p1.cl (by decide); omega)] at x9; have q8 := q9.2.2; rw [x9] at q8; exact q8⟩
      refine tk_ir (va_runV (As := [.int v_4, .int v_3, .int v_7]) (rest := []) ⟨hx, hb, hml, hown, hts⟩ (c_X10_why__3 l D cy z s.heap.size Ps w0 hw.1 p0 v_4 v_3 v_7 h_p0 r_v_4 r_v_3 r_v_7) (cwV 3 hts (gV tw_1501 tw_1503 ts_77 tw_15 tw_1504) rfl rfl rfl (by decide +kernel) ⟨Nat.le_of_ble_eq_true rfl, Nat.le_of_ble_eq_true rfl⟩) (tg_preV hw hK hSD hA (ci := 10) (q := (RX10, TX10, 49)) rfl h_p0 rfl) rfl rfl hl.1 rfl (lv_room (Nat.le_of_ble_eq_true rfl)) dX10_goBy_62 ⟨Nat.le_of_ble_eq_true rfl, Nat.le_of_ble_eq_true rfl⟩) hw hA (fun v_8  H locs hp_v_8 hw => ?_)
      have r_v_8 : RI v_8 0 1 := hp_v_8.1
      refine lv_istore_n (lv' := [(3, .int v_8), (2, .int v_3), (0, .ref p0), (1, .int p1)]) hx hb dX10_goBy_65 rfl hl (by decide) rfl (fun ls hl => ?_)
      refine lv_iload_n hx hb dX10_goBy_66 rfl (lv_at hl 0 rfl) ?_
      refine lv_if_eq (tgt := 82) hx hb dX10_goBy_67 (by decide) (fun c_67 => ?_) (fun c_67 => ?_)
      · have r_v_8 : RI v_8 0 0 := rc_eq1 r_v_8 rl_0 (ti_eq c_67) (by decide)
        refine lv_aload_n hx hb dX10_goBy_82 rfl (lv_at hl 2 rfl) ?_
        refine lv_aload_n hx hb dX10_goBy_83 rfl (lv_at hl 2 rfl) ?_
        refine tg_mem (ci := 10) (C := RX10) (T := TX10) (N := 49) hx hb hts inX10 hown hK hw 40 m_u_1 rfl (by decide) (hts _ tw_1177) (fun _ h9 => h9) dX10_goBy_84 ?_
        refine lv_iload_n hx hb dX10_goBy_87 rfl (lv_at hl 3 rfl) ?_
        refine tg_imem hx hb hK hw h_vu_1 rfl r_p1 (by decide) m_v_4 dX10_goBy_88 ?_
        refine lv_iload_n hx hb dX10_goBy_89 rfl (lv_at hl 1 rfl) ?_
        refine lv_aload_n hx hb dX10_goBy_90 rfl (lv_at hl 2 rfl) ?_
        refine tg_mem (ci := 10) (C := RX10) (T := TX10) (N := 49) hx hb hts inX10 hown hK hw 40 m_u_1 rfl (by decide) (hts _ tw_1177) (fun _ h9 => h9) dX10_goBy_91 ?_
        refine lv_iload_n hx hb dX10_goBy_94 rfl (lv_at hl 3 rfl) ?_
        refine lv_iconst (v := 2) hx hb dX10_goBy_95 (by decide) ?_
        refine lv_iadd hx hb dX10_goBy_96 (lv_topi (fun v_10 e_v_10 => ?_))
        obtain ⟨t_v_10, r_v_10⟩ := tq_add (lo := 2) (hi := 119) r_p1 rl_2 (by decide +kernel) e_v_10
        have t_v_10 : v_10.toInt = p1.toInt + 2 := t_v_10
        refine tg_iald (lo := 0) (hi := 60) hx hb hK hw h_vu_1 rfl 2 119 r_v_10 (by decide) (by exact fun _ _ _ => ⟨Int.le_refl _, Int.le_refl _⟩) dX10_goBy_97 (fun v_11 r_v_11 m_v_11 o_v_11 => ?_)
        have r_v_11 : RI v_11 0 5 := ⟨r_v_11.1, by obtain ⟨_, f9, e8, e7, q9⟩ := x_GL_p0_p1; cases FLD.inj hw.2.2.1 e8 m_u_1; have x9 := ARR.ael hw.2.2.1 e7 m_v_11; rw [show Int32.toNatClampNeg v_10 = Int32.toNatClampNeg p1 + 2 from (by have k1 := r_v_10.cl (by decide); have k2 := r_p1.cl (by decide); omega)] at x9; have q8 := q9.2.2; rw [x9] at q8; exact q8⟩
        have hw8 := hw
        refine tk_v (va_runV (As := [.int v_4, .int v_3, .int v_11]) (rest := []) ⟨hx, hb, hml, hown, hts⟩ (c_X10_live__9 l D cy z H.size Ps w0 hw.1 p0 v_4 v_3 v_11 (gdR) h_p0 r_v_4 r_v_3 r_v_11 x_HD_p0_gdR) (cwV 3 hts (gV tw_1509 tw_1511 ts_79 tw_15 tw_1512) rfl rfl rfl (by decide +kernel) ⟨Nat.le_of_ble_eq_true rfl, Nat.le_of_ble_eq_true rfl⟩) (tg_preV hw hK hSD hA (ci := 10) (q := (RX10, TX10, 49)) rfl h_p0 rfl) rfl rfl hl.1 rfl (lv_room (Nat.le_of_ble_eq_true rfl)) dX10_goBy_98 ⟨Nat.le_of_ble_eq_true rfl, Nat.le_of_ble_eq_true rfl⟩) hw hA ⟨by decide, by decide⟩ (fun ws H locs hp_v_12 hw hF9 => ?_)
        have m_v_3 := AEL.over hw8 hF9 h_vu_1 m_v_3 (by decide)
        have m_v_4 := AEL.over hw8 hF9 h_vu_1 m_v_4 (by decide)
        have m_v_7 := AEL.over hw8 hF9 h_vu_1 m_v_7 (by decide)
        have m_v_11 := AEL.over hw8 hF9 h_vu_1 m_v_11 (by decide)
        have m_u_1 := FLD.over hF9 m_u_1 (by decide)
        have x_GL_p0_p1 := AX.over hF9 x_GL_p0_p1 (by decide)
        obtain ⟨x_HD_p0_gdR, hp_v_12⟩ := hp_v_12
        refine lv_iconst (v := 0) hx hb dX10_goBy_101 (by decide) ?_
        subst hQ
        exact W.iret (v := 0) hx hb hr (fun t ht hW => ⟨⟨0, ws, rfl, ⟨⟨x_HD_p0_gdR, rl_0.to (by decide), (fun h0 => trivial), (fun _ => trivial)⟩, hw.1, hw.2.2.2.2.1⟩, by rw [ht]; exact hw.2.1, va_K.moved hW.alike hK, hw.2.2.1⟩, hw.2.2.2.1.F ht⟩) hw.2.2.2.1.2.2 dX10_goBy_102
      · have r_v_8 : RI v_8 1 1 := rc_neL r_v_8 rl_0 (ti_ne c_67) (by decide)
        refine lv_bipush (v := 10) hx hb dX10_goBy_70 (by decide) ?_
        refine lv_aload_n hx hb dX10_goBy_72 rfl (lv_at hl 2 rfl) ?_
        refine tg_mem (ci := 10) (C := RX10) (T := TX10) (N := 49) hx hb hts inX10 hown hK hw 40 m_u_1 rfl (by decide) (hts _ tw_1177) (fun _ h9 => h9) dX10_goBy_73 ?_
        refine lv_iload_n hx hb dX10_goBy_76 rfl (lv_at hl 3 rfl) ?_
        refine tg_imem hx hb hK hw h_vu_1 rfl r_p1 (by decide) m_v_4 dX10_goBy_77 ?_
        refine lv_imul hx hb dX10_goBy_78 (lv_topi (fun v_14 e_v_14 => ?_))
        obtain ⟨t_v_14, r_v_14⟩ := tq_mul (lo := 0) (hi := 0) rl_10 r_v_4 (by decide +kernel) e_v_14
        have t_v_14 : v_14.toInt = 10 * v_4.toInt := t_v_14
        refine lv_iload_n hx hb dX10_goBy_79 rfl (lv_at hl 0 rfl) ?_
        refine lv_iadd hx hb dX10_goBy_80 (lv_topi (fun v_15 e_v_15 => ?_))
        obtain ⟨t_v_15, r_v_15⟩ := tq_add (lo := 1) (hi := 1) r_v_14 r_v_8 (by decide +kernel) e_v_15
        subst hQ
        exact W.iret (v := v_15) hx hb hr (fun t ht hW => ⟨⟨v_15, w0, rfl, ⟨⟨x_HD_p0_gdR, r_v_15.to (by decide), (fun _ => trivial), (fun h0 => trivial)⟩, hw.1, hw.2.2.2.2.1⟩, by rw [ht]; exact hw.2.1, va_K.moved hW.alike hK, hw.2.2.1⟩, hw.2.2.2.1.F ht⟩) hw.2.2.2.1.2.2 dX10_goBy_81
    · have r_v_4 : RI v_4 1 1 := ⟨by omega, by omega⟩
      refine lv_aload_n hx hb dX10_goBy_46 rfl (lv_at hl 1 rfl) ?_
      refine lv_aload_n hx hb dX10_goBy_47 rfl (lv_at hl 1 rfl) ?_
      refine tg_mem (ci := 10) (C := RX10) (T := TX10) (N := 49) hx hb hts inX10 hown hK hw 40 m_u_1 rfl (by decide) (hts _ tw_1177) (fun _ h9 => h9) dX10_goBy_48 ?_
      refine lv_iload_n hx hb dX10_goBy_51 rfl (lv_at hl 2 rfl) ?_
      refine tg_imem hx hb hK hw h_vu_1 rfl r_p1 (by decide) m_v_4 dX10_goBy_52 ?_
      refine lv_iload_n hx hb dX10_goBy_53 rfl (lv_at hl 0 rfl) ?_
      refine lv_aload_n hx hb dX10_goBy_54 rfl (lv_at hl 1 rfl) ?_
      refine tg_mem (ci := 10) (C := RX10) (T := TX10) (N := 49) hx hb hts inX10 hown hK hw 40 m_u_1 rfl (by decide) (hts _ tw_1177) (fun _ h9 => h9) dX10_goBy_55 ?_
      refine lv_iload_n hx hb dX10_goBy_58 rfl (lv_at hl 2 rfl) ?_
      refine lv_iconst (v := 2) hx hb dX10_goBy_59 (by decide) ?_
      refine lv_iadd hx hb dX10_goBy_60 (lv_topi (fun v_17 e_v_17 => ?_))
      obtain ⟨t_v_17, r_v_17⟩ := tq_add (lo := 2) (hi := 119) r_p1 rl_2 (by decide +kernel) e_v_17
      have t_v_17 : v_17.toInt = p1.toInt + 2 := t_v_17
      refine tg_iald (lo := 0) (hi := 60) hx hb hK hw h_vu_1 rfl 2 119 r_v_17 (by decide) (by exact fun _ _ _ => ⟨Int.le_refl _, Int.le_refl _⟩) dX10_goBy_61 (fun v_18 r_v_18 m_v_18 o_v_18 => ?_)
      have r_v_18 : RI v_18 0 5 := ⟨r_v_18.1, by obtain ⟨_, f9, e8, e7, q9⟩ := x_GL_p0_p1; cases FLD.inj hw.2.2.1 e8 m_u_1; have x9 := ARR.ael hw.2.2.1 e7 m_v_18; rw [show Int32.toNatClampNeg v_17 = Int32.toNatClampNeg p1 + 2 from (by have k1 := r_v_17.cl (by decide); have k2 := r_p1.cl (by decide); omega)] at x9; have q8 := q9.2.2; rw [x9] at q8; exact q8⟩
      refine tk_ir (va_runV (As := [.int v_4, .int v_3, .int v_18]) (rest := []) ⟨hx, hb, hml, hown, hts⟩ (c_X10_why__6 l D cy z s.heap.size Ps w0 hw.1 p0 v_4 v_3 v_18 h_p0 r_v_4 r_v_3 r_v_18) (cwV 3 hts (gV tw_1501 tw_1503 ts_77 tw_15 tw_1504) rfl rfl rfl (by decide +kernel) ⟨Nat.le_of_ble_eq_true rfl, Nat.le_of_ble_eq_true rfl⟩) (tg_preV hw hK hSD hA (ci := 10) (q := (RX10, TX10, 49)) rfl h_p0 rfl) rfl rfl hl.1 rfl (lv_room (Nat.le_of_ble_eq_true rfl)) dX10_goBy_62 ⟨Nat.le_of_ble_eq_true rfl, Nat.le_of_ble_eq_true rfl⟩) hw hA (fun v_19  H locs hp_v_19 hw => ?_)
      have r_v_19 : RI v_19 0 1 := hp_v_19.1
      refine lv_istore_n (lv' := [(3, .int v_19), (2, .int v_3), (0, .ref p0), (1, .int p1)]) hx hb dX10_goBy_65 rfl hl (by decide) rfl (fun ls hl => ?_)
      refine lv_iload_n hx hb dX10_goBy_66 rfl (lv_at hl 0 rfl) ?_
      refine lv_if_eq (tgt := 82) hx hb dX10_goBy_67 (by decide) (fun c_67 => ?_) (fun c_67 => ?_)
      · have r_v_19 : RI v_19 0 0 := rc_eq1 r_v_19 rl_0 (ti_eq c_67) (by decide)
        refine lv_aload_n hx hb dX10_goBy_82 rfl (lv_at hl 2 rfl) ?_
        refine lv_aload_n hx hb dX10_goBy_83 rfl (lv_at hl 2 rfl) ?_
        refine tg_mem (ci := 10) (C := RX10) (T := TX10) (N := 49) hx hb hts inX10 hown hK hw 40 m_u_1 rfl (by decide) (hts _ tw_1177) (fun _ h9 => h9) dX10_goBy_84 ?_
        refine lv_iload_n hx hb dX10_goBy_87 rfl (lv_at hl 3 rfl) ?_
        refine tg_imem hx hb hK hw h_vu_1 rfl r_p1 (by decide) m_v_4 dX10_goBy_88 ?_
        refine lv_iload_n hx hb dX10_goBy_89 rfl (lv_at hl 1 rfl) ?_
        refine lv_aload_n hx hb dX10_goBy_90 rfl (lv_at hl 2 rfl) ?_
        refine tg_mem (ci := 10) (C := RX10) (T := TX10) (N := 49) hx hb hts inX10 hown hK hw 40 m_u_1 rfl (by decide) (hts _ tw_1177) (fun _ h9 => h9) dX10_goBy_91 ?_
        refine lv_iload_n hx hb dX10_goBy_94 rfl (lv_at hl 3 rfl) ?_
        refine lv_iconst (v := 2) hx hb dX10_goBy_95 (by decide) ?_
        refine lv_iadd hx hb dX10_goBy_96 (lv_topi (fun v_21 e_v_21 => ?_))
        obtain ⟨t_v_21, r_v_21⟩ := tq_add (lo := 2) (hi := 119) r_p1 rl_2 (by decide +kernel) e_v_21
        have t_v_21 : v_21.toInt = p1.toInt + 2 := t_v_21
        refine tg_iald (lo := 0) (hi := 60) hx hb hK hw h_vu_1 rfl 2 119 r_v_21 (by decide) (by exact fun _ _ _ => ⟨Int.le_refl _, Int.le_refl _⟩) dX10_goBy_97 (fun v_22 r_v_22 m_v_22 o_v_22 => ?_)
        have r_v_22 : RI v_22 0 5 := ⟨r_v_22.1, by obtain ⟨_, f9, e8, e7, q9⟩ := x_GL_p0_p1; cases FLD.inj hw.2.2.1 e8 m_u_1; have x9 := ARR.ael hw.2.2.1 e7 m_v_22; rw [show Int32.toNatClampNeg v_21 = Int32.toNatClampNeg p1 + 2 from (by have k1 := r_v_21.cl (by decide); have k2 := r_p1.cl (by decide); omega)] at x9; have q8 := q9.2.2; rw [x9] at q8; exact q8⟩
        have hw8 := hw
        refine tk_v (va_runV (As := [.int v_4, .int v_3, .int v_22]) (rest := []) ⟨hx, hb, hml, hown, hts⟩ (c_X10_live__10 l D cy z H.size Ps w0 hw.1 p0 v_4 v_3 v_22 (gdR) h_p0 r_v_4 r_v_3 r_v_22 x_HD_p0_gdR) (cwV 3 hts (gV tw_1509 tw_1511 ts_79 tw_15 tw_1512) rfl rfl rfl (by decide +kernel) ⟨Nat.le_of_ble_eq_true rfl, Nat.le_of_ble_eq_true rfl⟩) (tg_preV hw hK hSD hA (ci := 10) (q := (RX10, TX10, 49)) rfl h_p0 rfl) rfl rfl hl.1 rfl (lv_room (Nat.le_of_ble_eq_true rfl)) dX10_goBy_98 ⟨Nat.le_of_ble_eq_true rfl, Nat.le_of_ble_eq_true rfl⟩) hw hA ⟨by decide, by decide⟩ (fun ws H locs hp_v_23 hw hF9 => ?_)
        have m_v_3 := AEL.over hw8 hF9 h_vu_1 m_v_3 (by decide)
        have m_v_4 := AEL.over hw8 hF9 h_vu_1 m_v_4 (by decide)
        have m_v_18 := AEL.over hw8 hF9 h_vu_1 m_v_18 (by decide)
        have m_v_22 := AEL.over hw8 hF9 h_vu_1 m_v_22 (by decide)
        have m_u_1 := FLD.over hF9 m_u_1 (by decide)
        have x_GL_p0_p1 := AX.over hF9 x_GL_p0_p1 (by decide)
        obtain ⟨x_HD_p0_gdR, hp_v_23⟩ := hp_v_23
        refine lv_iconst (v := 0) hx hb dX10_goBy_101 (by decide) ?_
        subst hQ
        exact W.iret (v := 0) hx hb hr (fun t ht hW => ⟨⟨0, ws, rfl, ⟨⟨x_HD_p0_gdR, rl_0.to (by decide), (fun h0 => trivial), (fun _ => trivial)⟩, hw.1, hw.2.2.2.2.1⟩, by rw [ht]; exact hw.2.1, va_K.moved hW.alike hK, hw.2.2.1⟩, hw.2.2.2.1.F ht⟩) hw.2.2.2.1.2.2 dX10_goBy_102
      · have r_v_19 : RI v_19 1 1 := rc_neL r_v_19 rl_0 (ti_ne c_67) (by decide)
        refine lv_bipush (v := 10) hx hb dX10_goBy_70 (by decide) ?_
        refine lv_aload_n hx hb dX10_goBy_72 rfl (lv_at hl 2 rfl) ?_
        refine tg_mem (ci := 10) (C := RX10) (T := TX10) (N := 49) hx hb hts inX10 hown hK hw 40 m_u_1 rfl (by decide) (hts _ tw_1177) (fun _ h9 => h9) dX10_goBy_73 ?_
        refine lv_iload_n hx hb dX10_goBy_76 rfl (lv_at hl 3 rfl) ?_
        refine tg_imem hx hb hK hw h_vu_1 rfl r_p1 (by decide) m_v_4 dX10_goBy_77 ?_
        refine lv_imul hx hb dX10_goBy_78 (lv_topi (fun v_25 e_v_25 => ?_))
        obtain ⟨t_v_25, r_v_25⟩ := tq_mul (lo := 10) (hi := 10) rl_10 r_v_4 (by decide +kernel) e_v_25
        have t_v_25 : v_25.toInt = 10 * v_4.toInt := t_v_25
        refine lv_iload_n hx hb dX10_goBy_79 rfl (lv_at hl 0 rfl) ?_
        refine lv_iadd hx hb dX10_goBy_80 (lv_topi (fun v_26 e_v_26 => ?_))
        obtain ⟨t_v_26, r_v_26⟩ := tq_add (lo := 11) (hi := 11) r_v_25 r_v_19 (by decide +kernel) e_v_26
        subst hQ
        exact W.iret (v := v_26) hx hb hr (fun t ht hW => ⟨⟨v_26, w0, rfl, ⟨⟨x_HD_p0_gdR, r_v_26.to (by decide), (fun _ => trivial), (fun h0 => trivial)⟩, hw.1, hw.2.2.2.2.1⟩, by rw [ht]; exact hw.2.1, va_K.moved hW.alike hK, hw.2.2.1⟩, hw.2.2.2.1.F ht⟩) hw.2.2.2.1.2.2 dX10_goBy_81
    · have r_v_4 : RI v_4 2 2 := ⟨by omega, by omega⟩
      refine lv_aload_n hx hb dX10_goBy_46 rfl (lv_at hl 1 rfl) ?_
      refine lv_aload_n hx hb dX10_goBy_47 rfl (lv_at hl 1 rfl) ?_
      refine tg_mem (ci := 10) (C := RX10) (T := TX10) (N := 49) hx hb hts inX10 hown hK hw 40 m_u_1 rfl (by decide) (hts _ tw_1177) (fun _ h9 => h9) dX10_goBy_48 ?_
      refine lv_iload_n hx hb dX10_goBy_51 rfl (lv_at hl 2 rfl) ?_
      refine tg_imem hx hb hK hw h_vu_1 rfl r_p1 (by decide) m_v_4 dX10_goBy_52 ?_
      refine lv_iload_n hx hb dX10_goBy_53 rfl (lv_at hl 0 rfl) ?_
      refine lv_aload_n hx hb dX10_goBy_54 rfl (lv_at hl 1 rfl) ?_
      refine tg_mem (ci := 10) (C := RX10) (T := TX10) (N := 49) hx hb hts inX10 hown hK hw 40 m_u_1 rfl (by decide) (hts _ tw_1177) (fun _ h9 => h9) dX10_goBy_55 ?_
      refine lv_iload_n hx hb dX10_goBy_58 rfl (lv_at hl 2 rfl) ?_
      refine lv_iconst (v := 2) hx hb dX10_goBy_59 (by decide) ?_
      refine lv_iadd hx hb dX10_goBy_60 (lv_topi (fun v_28 e_v_28 => ?_))
      obtain ⟨t_v_28, r_v_28⟩ := tq_add (lo := 2) (hi := 119) r_p1 rl_2 (by decide +kernel) e_v_28
      have t_v_28 : v_28.toInt = p1.toInt + 2 := t_v_28
      refine tg_iald (lo := 0) (hi := 60) hx hb hK hw h_vu_1 rfl 2 119 r_v_28 (by decide) (by exact fun _ _ _ => ⟨Int.le_refl _, Int.le_refl _⟩) dX10_goBy_61 (fun v_29 r_v_29 m_v_29 o_v_29 => ?_)
      have r_v_29 : RI v_29 0 5 := ⟨r_v_29.1, by obtain ⟨_, f9, e8, e7, q9⟩ := x_GL_p0_p1; cases FLD.inj hw.2.2.1 e8 m_u_1; have x9 := ARR.ael hw.2.2.1 e7 m_v_29; rw [show Int32.toNatClampNeg v_28 = Int32.toNatClampNeg p1 + 2 from (by have k1 := r_v_28.cl (by decide); have k2 := r_p1.cl (by decide); omega)] at x9; have q8 := q9.2.2; rw [x9] at q8; exact q8⟩
      refine tk_ir (va_runV (As := [.int v_4, .int v_3, .int v_29]) (rest := []) ⟨hx, hb, hml, hown, hts⟩ (c_X10_why__5 l D cy z s.heap.size Ps w0 hw.1 p0 v_4 v_3 v_29 h_p0 r_v_4 r_v_3 r_v_29) (cwV 3 hts (gV tw_1501 tw_1503 ts_77 tw_15 tw_1504) rfl rfl rfl (by decide +kernel) ⟨Nat.le_of_ble_eq_true rfl, Nat.le_of_ble_eq_true rfl⟩) (tg_preV hw hK hSD hA (ci := 10) (q := (RX10, TX10, 49)) rfl h_p0 rfl) rfl rfl hl.1 rfl (lv_room (Nat.le_of_ble_eq_true rfl)) dX10_goBy_62 ⟨Nat.le_of_ble_eq_true rfl, Nat.le_of_ble_eq_true rfl⟩) hw hA (fun v_30  H locs hp_v_30 hw => ?_)
      have r_v_30 : RI v_30 0 1 := hp_v_30.1
      refine lv_istore_n (lv' := [(3, .int v_30), (2, .int v_3), (0, .ref p0), (1, .int p1)]) hx hb dX10_goBy_65 rfl hl (by decide) rfl (fun ls hl => ?_)
      refine lv_iload_n hx hb dX10_goBy_66 rfl (lv_at hl 0 rfl) ?_
      refine lv_if_eq (tgt := 82) hx hb dX10_goBy_67 (by decide) (fun c_67 => ?_) (fun c_67 => ?_)
      · have r_v_30 : RI v_30 0 0 := rc_eq1 r_v_30 rl_0 (ti_eq c_67) (by decide)
        refine lv_aload_n hx hb dX10_goBy_82 rfl (lv_at hl 2 rfl) ?_
        refine lv_aload_n hx hb dX10_goBy_83 rfl (lv_at hl 2 rfl) ?_
        refine tg_mem (ci := 10) (C := RX10) (T := TX10) (N := 49) hx hb hts inX10 hown hK hw 40 m_u_1 rfl (by decide) (hts _ tw_1177) (fun _ h9 => h9) dX10_goBy_84 ?_
        refine lv_iload_n hx hb dX10_goBy_87 rfl (lv_at hl 3 rfl) ?_
        refine tg_imem hx hb hK hw h_vu_1 rfl r_p1 (by decide) m_v_4 dX10_goBy_88 ?_
        refine lv_iload_n hx hb dX10_goBy_89 rfl (lv_at hl 1 rfl) ?_
        refine lv_aload_n hx hb dX10_goBy_90 rfl (lv_at hl 2 rfl) ?_
        refine tg_mem (ci := 10) (C := RX10) (T := TX10) (N := 49) hx hb hts inX10 hown hK hw 40 m_u_1 rfl (by decide) (hts _ tw_1177) (fun _ h9 => h9) dX10_goBy_91 ?_
        refine lv_iload_n hx hb dX10_goBy_94 rfl (lv_at hl 3 rfl) ?_
        refine lv_iconst (v := 2) hx hb dX10_goBy_95 (by decide) ?_
        refine lv_iadd hx hb dX10_goBy_96 (lv_topi (fun v_32 e_v_32 => ?_))
        obtain ⟨t_v_32, r_v_32⟩ := tq_add (lo := 2) (hi := 119) r_p1 rl_2 (by decide +kernel) e_v_32
        have t_v_32 : v_32.toInt = p1.toInt + 2 := t_v_32
        refine tg_iald (lo := 0) (hi := 60) hx hb hK hw h_vu_1 rfl 2 119 r_v_32 (by decide) (by exact fun _ _ _ => ⟨Int.le_refl _, Int.le_refl _⟩) dX10_goBy_97 (fun v_33 r_v_33 m_v_33 o_v_33 => ?_)
        have r_v_33 : RI v_33 0 5 := ⟨r_v_33.1, by obtain ⟨_, f9, e8, e7, q9⟩ := x_GL_p0_p1; cases FLD.inj hw.2.2.1 e8 m_u_1; have x9 := ARR.ael hw.2.2.1 e7 m_v_33; rw [show Int32.toNatClampNeg v_32 = Int32.toNatClampNeg p1 + 2 from (by have k1 := r_v_32.cl (by decide); have k2 := r_p1.cl (by decide); omega)] at x9; have q8 := q9.2.2; rw [x9] at q8; exact q8⟩
        have hw8 := hw
        refine tk_v (va_runV (As := [.int v_4, .int v_3, .int v_33]) (rest := []) ⟨hx, hb, hml, hown, hts⟩ (c_X10_live__11 l D cy z H.size Ps w0 hw.1 p0 v_4 v_3 v_33 (gdR) h_p0 r_v_4 r_v_3 r_v_33 x_HD_p0_gdR) (cwV 3 hts (gV tw_1509 tw_1511 ts_79 tw_15 tw_1512) rfl rfl rfl (by decide +kernel) ⟨Nat.le_of_ble_eq_true rfl, Nat.le_of_ble_eq_true rfl⟩) (tg_preV hw hK hSD hA (ci := 10) (q := (RX10, TX10, 49)) rfl h_p0 rfl) rfl rfl hl.1 rfl (lv_room (Nat.le_of_ble_eq_true rfl)) dX10_goBy_98 ⟨Nat.le_of_ble_eq_true rfl, Nat.le_of_ble_eq_true rfl⟩) hw hA ⟨by decide, by decide⟩ (fun ws H locs hp_v_34 hw hF9 => ?_)
        have m_v_3 := AEL.over hw8 hF9 h_vu_1 m_v_3 (by decide)
        have m_v_4 := AEL.over hw8 hF9 h_vu_1 m_v_4 (by decide)
        have m_v_29 := AEL.over hw8 hF9 h_vu_1 m_v_29 (by decide)
        have m_v_33 := AEL.over hw8 hF9 h_vu_1 m_v_33 (by decide)
        have m_u_1 := FLD.over hF9 m_u_1 (by decide)
        have x_GL_p0_p1 := AX.over hF9 x_GL_p0_p1 (by decide)
        obtain ⟨x_HD_p0_gdR, hp_v_34⟩ := hp_v_34
        refine lv_iconst (v := 0) hx hb dX10_goBy_101 (by decide) ?_
        subst hQ
        exact W.iret (v := 0) hx hb hr (fun t ht hW => ⟨⟨0, ws, rfl, ⟨⟨x_HD_p0_gdR, rl_0.to (by decide), (fun h0 => trivial), (fun _ => trivial)⟩, hw.1, hw.2.2.2.2.1⟩, by rw [ht]; exact hw.2.1, va_K.moved hW.alike hK, hw.2.2.1⟩, hw.2.2.2.1.F ht⟩) hw.2.2.2.1.2.2 dX10_goBy_102
      · have r_v_30 : RI v_30 1 1 := rc_neL r_v_30 rl_0 (ti_ne c_67) (by decide)
        refine lv_bipush (v := 10) hx hb dX10_goBy_70 (by decide) ?_
        refine lv_aload_n hx hb dX10_goBy_72 rfl (lv_at hl 2 rfl) ?_
        refine tg_mem (ci := 10) (C := RX10) (T := TX10) (N := 49) hx hb hts inX10 hown hK hw 40 m_u_1 rfl (by decide) (hts _ tw_1177) (fun _ h9 => h9) dX10_goBy_73 ?_
        refine lv_iload_n hx hb dX10_goBy_76 rfl (lv_at hl 3 rfl) ?_
        refine tg_imem hx hb hK hw h_vu_1 rfl r_p1 (by decide) m_v_4 dX10_goBy_77 ?_
        refine lv_imul hx hb dX10_goBy_78 (lv_topi (fun v_36 e_v_36 => ?_))
        obtain ⟨t_v_36, r_v_36⟩ := tq_mul (lo := 20) (hi := 20) rl_10 r_v_4 (by decide +kernel) e_v_36
        have t_v_36 : v_36.toInt = 10 * v_4.toInt := t_v_36
        refine lv_iload_n hx hb dX10_goBy_79 rfl (lv_at hl 0 rfl) ?_
        refine lv_iadd hx hb dX10_goBy_80 (lv_topi (fun v_37 e_v_37 => ?_))
        obtain ⟨t_v_37, r_v_37⟩ := tq_add (lo := 21) (hi := 21) r_v_36 r_v_30 (by decide +kernel) e_v_37
        subst hQ
        exact W.iret (v := v_37) hx hb hr (fun t ht hW => ⟨⟨v_37, w0, rfl, ⟨⟨x_HD_p0_gdR, r_v_37.to (by decide), (fun _ => trivial), (fun h0 => trivial)⟩, hw.1, hw.2.2.2.2.1⟩, by rw [ht]; exact hw.2.1, va_K.moved hW.alike hK, hw.2.2.1⟩, hw.2.2.2.1.F ht⟩) hw.2.2.2.1.2.2 dX10_goBy_81
    · have r_v_4 : RI v_4 3 3 := ⟨by omega, by omega⟩
      refine lv_aload_n hx hb dX10_goBy_46 rfl (lv_at hl 1 rfl) ?_
      refine lv_aload_n hx hb dX10_goBy_47 rfl (lv_at hl 1 rfl) ?_
      refine tg_mem (ci := 10) (C := RX10) (T := TX10) (N := 49) hx hb hts inX10 hown hK hw 40 m_u_1 rfl (by decide) (hts _ tw_1177) (fun _ h9 => h9) dX10_goBy_48 ?_
      refine lv_iload_n hx hb dX10_goBy_51 rfl (lv_at hl 2 rfl) ?_
      refine tg_imem hx hb hK hw h_vu_1 rfl r_p1 (by decide) m_v_4 dX10_goBy_52 ?_
      refine lv_iload_n hx hb dX10_goBy_53 rfl (lv_at hl 0 rfl) ?_
      refine lv_aload_n hx hb dX10_goBy_54 rfl (lv_at hl 1 rfl) ?_
      refine tg_mem (ci := 10) (C := RX10) (T := TX10) (N := 49) hx hb hts inX10 hown hK hw 40 m_u_1 rfl (by decide) (hts _ tw_1177) (fun _ h9 => h9) dX10_goBy_55 ?_
      refine lv_iload_n hx hb dX10_goBy_58 rfl (lv_at hl 2 rfl) ?_
      refine lv_iconst (v := 2) hx hb dX10_goBy_59 (by decide) ?_
      refine lv_iadd hx hb dX10_goBy_60 (lv_topi (fun v_39 e_v_39 => ?_))
      obtain ⟨t_v_39, r_v_39⟩ := tq_add (lo := 2) (hi := 119) r_p1 rl_2 (by decide +kernel) e_v_39
      have t_v_39 : v_39.toInt = p1.toInt + 2 := t_v_39
      refine tg_iald (lo := 0) (hi := 60) hx hb hK hw h_vu_1 rfl 2 119 r_v_39 (by decide) (by exact fun _ _ _ => ⟨Int.le_refl _, Int.le_refl _⟩) dX10_goBy_61 (fun v_40 r_v_40 m_v_40 o_v_40 => ?_)
      have r_v_40 : RI v_40 0 5 := ⟨r_v_40.1, by obtain ⟨_, f9, e8, e7, q9⟩ := x_GL_p0_p1; cases FLD.inj hw.2.2.1 e8 m_u_1; have x9 := ARR.ael hw.2.2.1 e7 m_v_40; rw [show Int32.toNatClampNeg v_39 = Int32.toNatClampNeg p1 + 2 from (by have k1 := r_v_39.cl (by decide); have k2 := r_p1.cl (by decide); omega)] at x9; have q8 := q9.2.2; rw [x9] at q8; exact q8⟩
      refine tk_ir (va_runV (As := [.int v_4, .int v_3, .int v_40]) (rest := []) ⟨hx, hb, hml, hown, hts⟩ (c_X10_why__1 l D cy z s.heap.size Ps w0 hw.1 p0 v_4 v_3 v_40 h_p0 r_v_4 r_v_3 r_v_40) (cwV 3 hts (gV tw_1501 tw_1503 ts_77 tw_15 tw_1504) rfl rfl rfl (by decide +kernel) ⟨Nat.le_of_ble_eq_true rfl, Nat.le_of_ble_eq_true rfl⟩) (tg_preV hw hK hSD hA (ci := 10) (q := (RX10, TX10, 49)) rfl h_p0 rfl) rfl rfl hl.1 rfl (lv_room (Nat.le_of_ble_eq_true rfl)) dX10_goBy_62 ⟨Nat.le_of_ble_eq_true rfl, Nat.le_of_ble_eq_true rfl⟩) hw hA (fun v_41  H locs hp_v_41 hw => ?_)
      have r_v_41 : RI v_41 0 2 := hp_v_41.1
      by_cases c9_v_41 : v_41 = 0
      · have r_v_41 : RI v_41 0 0 := by rw [c9_v_41]; exact rl_0
        have x_SITOK_p0_v_3 := ((hp_v_41.2.1 c9_v_41).1)
        refine lv_istore_n (lv' := [(3, .int v_41), (2, .int v_3), (0, .ref p0), (1, .int p1)]) hx hb dX10_goBy_65 rfl hl (by decide) rfl (fun ls hl => ?_)
        refine lv_iload_n hx hb dX10_goBy_66 rfl (lv_at hl 0 rfl) ?_
        refine lv_if_eq (tgt := 82) hx hb dX10_goBy_67 (by decide) (fun c_67 => ?_) (fun c_67 => ?_)
        · refine lv_aload_n hx hb dX10_goBy_82 rfl (lv_at hl 2 rfl) ?_
          refine lv_aload_n hx hb dX10_goBy_83 rfl (lv_at hl 2 rfl) ?_
          refine tg_mem (ci := 10) (C := RX10) (T := TX10) (N := 49) hx hb hts inX10 hown hK hw 40 m_u_1 rfl (by decide) (hts _ tw_1177) (fun _ h9 => h9) dX10_goBy_84 ?_
          refine lv_iload_n hx hb dX10_goBy_87 rfl (lv_at hl 3 rfl) ?_
          refine tg_imem hx hb hK hw h_vu_1 rfl r_p1 (by decide) m_v_4 dX10_goBy_88 ?_
          refine lv_iload_n hx hb dX10_goBy_89 rfl (lv_at hl 1 rfl) ?_
          refine lv_aload_n hx hb dX10_goBy_90 rfl (lv_at hl 2 rfl) ?_
          refine tg_mem (ci := 10) (C := RX10) (T := TX10) (N := 49) hx hb hts inX10 hown hK hw 40 m_u_1 rfl (by decide) (hts _ tw_1177) (fun _ h9 => h9) dX10_goBy_91 ?_
          refine lv_iload_n hx hb dX10_goBy_94 rfl (lv_at hl 3 rfl) ?_
          refine lv_iconst (v := 2) hx hb dX10_goBy_95 (by decide) ?_
          refine lv_iadd hx hb dX10_goBy_96 (lv_topi (fun v_43 e_v_43 => ?_))
          obtain ⟨t_v_43, r_v_43⟩ := tq_add (lo := 2) (hi := 119) r_p1 rl_2 (by decide +kernel) e_v_43
          have t_v_43 : v_43.toInt = p1.toInt + 2 := t_v_43
          refine tg_iald (lo := 0) (hi := 60) hx hb hK hw h_vu_1 rfl 2 119 r_v_43 (by decide) (by exact fun _ _ _ => ⟨Int.le_refl _, Int.le_refl _⟩) dX10_goBy_97 (fun v_44 r_v_44 m_v_44 o_v_44 => ?_)
          have r_v_44 : RI v_44 0 5 := ⟨r_v_44.1, by obtain ⟨_, f9, e8, e7, q9⟩ := x_GL_p0_p1; cases FLD.inj hw.2.2.1 e8 m_u_1; have x9 := ARR.ael hw.2.2.1 e7 m_v_44; rw [show Int32.toNatClampNeg v_43 = Int32.toNatClampNeg p1 + 2 from (by have k1 := r_v_43.cl (by decide); have k2 := r_p1.cl (by decide); omega)] at x9; have q8 := q9.2.2; rw [x9] at q8; exact q8⟩
          have hw8 := hw
          refine tk_v (va_runV (As := [.int v_4, .int v_3, .int v_44]) (rest := []) ⟨hx, hb, hml, hown, hts⟩ (c_X10_live__12 l D cy z H.size Ps w0 hw.1 p0 v_4 v_3 v_44 (gdR) h_p0 r_v_4 r_v_3 r_v_44 x_SITOK_p0_v_3 x_HD_p0_gdR) (cwV 3 hts (gV tw_1509 tw_1511 ts_79 tw_15 tw_1512) rfl rfl rfl (by decide +kernel) ⟨Nat.le_of_ble_eq_true rfl, Nat.le_of_ble_eq_true rfl⟩) (tg_preV hw hK hSD hA (ci := 10) (q := (RX10, TX10, 49)) rfl h_p0 rfl) rfl rfl hl.1 rfl (lv_room (Nat.le_of_ble_eq_true rfl)) dX10_goBy_98 ⟨Nat.le_of_ble_eq_true rfl, Nat.le_of_ble_eq_true rfl⟩) hw hA ⟨by decide, by decide⟩ (fun ws H locs hp_v_45 hw hF9 => ?_)
          have m_v_3 := AEL.over hw8 hF9 h_vu_1 m_v_3 (by decide)
          have m_v_4 := AEL.over hw8 hF9 h_vu_1 m_v_4 (by decide)
          have m_v_40 := AEL.over hw8 hF9 h_vu_1 m_v_40 (by decide)
          have m_v_44 := AEL.over hw8 hF9 h_vu_1 m_v_44 (by decide)
          have m_u_1 := FLD.over hF9 m_u_1 (by decide)
          have x_GL_p0_p1 := AX.over hF9 x_GL_p0_p1 (by decide)
          obtain ⟨x_HD_p0_gdR, hp_v_45⟩ := hp_v_45
          refine lv_iconst (v := 0) hx hb dX10_goBy_101 (by decide) ?_
          subst hQ
          exact W.iret (v := 0) hx hb hr (fun t ht hW => ⟨⟨0, ws, rfl, ⟨⟨x_HD_p0_gdR, rl_0.to (by decide), (fun h0 => trivial), (fun _ => trivial)⟩, hw.1, hw.2.2.2.2.1⟩, by rw [ht]; exact hw.2.1, va_K.moved hW.alike hK, hw.2.2.1⟩, hw.2.2.2.1.F ht⟩) hw.2.2.2.1.2.2 dX10_goBy_102
        · exact absurd (r_v_41.eq.trans rl_0.eq.symm) ((ti_ne c_67))
      · have r_v_41 : RI v_41 1 2 := rc_neL r_v_41 rl_0 (ti_ne c9_v_41) (by decide)
        refine lv_istore_n (lv' := [(3, .int v_41), (2, .int v_3), (0, .ref p0), (1, .int p1)]) hx hb dX10_goBy_65 rfl hl (by decide) rfl (fun ls hl => ?_)
        refine lv_iload_n hx hb dX10_goBy_66 rfl (lv_at hl 0 rfl) ?_
        refine lv_if_eq (tgt := 82) hx hb dX10_goBy_67 (by decide) (fun c_67 => ?_) (fun c_67 => ?_)
        · have r_v_41 : RI v_41 1 0 := rc_eq1 r_v_41 rl_0 (ti_eq c_67) (by decide)
          exact (r_v_41.no (by decide)).elim
        · refine lv_bipush (v := 10) hx hb dX10_goBy_70 (by decide) ?_
          refine lv_aload_n hx hb dX10_goBy_72 rfl (lv_at hl 2 rfl) ?_
          refine tg_mem (ci := 10) (C := RX10) (T := TX10) (N := 49) hx hb hts inX10 hown hK hw 40 m_u_1 rfl (by decide) (hts _ tw_1177) (fun _ h9 => h9) dX10_goBy_73 ?_
          refine lv_iload_n hx hb dX10_goBy_76 rfl (lv_at hl 3 rfl) ?_
          refine tg_imem hx hb hK hw h_vu_1 rfl r_p1 (by decide) m_v_4 dX10_goBy_77 ?_
          refine lv_imul hx hb dX10_goBy_78 (lv_topi (fun v_47 e_v_47 => ?_))
          obtain ⟨t_v_47, r_v_47⟩ := tq_mul (lo := 30) (hi := 30) rl_10 r_v_4 (by decide +kernel) e_v_47
          have t_v_47 : v_47.toInt = 10 * v_4.toInt := t_v_47
          refine lv_iload_n hx hb dX10_goBy_79 rfl (lv_at hl 0 rfl) ?_
          refine lv_iadd hx hb dX10_goBy_80 (lv_topi (fun v_48 e_v_48 => ?_))
          obtain ⟨t_v_48, r_v_48⟩ := tq_add (lo := 31) (hi := 32) r_v_47 r_v_41 (by decide +kernel) e_v_48
          subst hQ
          exact W.iret (v := v_48) hx hb hr (fun t ht hW => ⟨⟨v_48, w0, rfl, ⟨⟨x_HD_p0_gdR, r_v_48.to (by decide), (fun _ => trivial), (fun h0 => trivial)⟩, hw.1, hw.2.2.2.2.1⟩, by rw [ht]; exact hw.2.1, va_K.moved hW.alike hK, hw.2.2.1⟩, hw.2.2.2.1.F ht⟩) hw.2.2.2.1.2.2 dX10_goBy_81
    · have r_v_4 : RI v_4 4 4 := ⟨by omega, by omega⟩
      refine lv_aload_n hx hb dX10_goBy_46 rfl (lv_at hl 1 rfl) ?_
      refine lv_aload_n hx hb dX10_goBy_47 rfl (lv_at hl 1 rfl) ?_
      refine tg_mem (ci := 10) (C := RX10) (T := TX10) (N := 49) hx hb hts inX10 hown hK hw 40 m_u_1 rfl (by decide) (hts _ tw_1177) (fun _ h9 => h9) dX10_goBy_48 ?_
      refine lv_iload_n hx hb dX10_goBy_51 rfl (lv_at hl 2 rfl) ?_
      refine tg_imem hx hb hK hw h_vu_1 rfl r_p1 (by decide) m_v_4 dX10_goBy_52 ?_
      refine lv_iload_n hx hb dX10_goBy_53 rfl (lv_at hl 0 rfl) ?_
      refine lv_aload_n hx hb dX10_goBy_54 rfl (lv_at hl 1 rfl) ?_
      refine tg_mem (ci := 10) (C := RX10) (T := TX10) (N := 49) hx hb hts inX10 hown hK hw 40 m_u_1 rfl (by decide) (hts _ tw_1177) (fun _ h9 => h9) dX10_goBy_55 ?_
      refine lv_iload_n hx hb dX10_goBy_58 rfl (lv_at hl 2 rfl) ?_
      refine lv_iconst (v := 2) hx hb dX10_goBy_59 (by decide) ?_
      refine lv_iadd hx hb dX10_goBy_60 (lv_topi (fun v_50 e_v_50 => ?_))
      obtain ⟨t_v_50, r_v_50⟩ := tq_add (lo := 2) (hi := 119) r_p1 rl_2 (by decide +kernel) e_v_50
      have t_v_50 : v_50.toInt = p1.toInt + 2 := t_v_50
      refine tg_iald (lo := 0) (hi := 60) hx hb hK hw h_vu_1 rfl 2 119 r_v_50 (by decide) (by exact fun _ _ _ => ⟨Int.le_refl _, Int.le_refl _⟩) dX10_goBy_61 (fun v_51 r_v_51 m_v_51 o_v_51 => ?_)
      have r_v_51 : RI v_51 0 5 := ⟨r_v_51.1, by obtain ⟨_, f9, e8, e7, q9⟩ := x_GL_p0_p1; cases FLD.inj hw.2.2.1 e8 m_u_1; have x9 := ARR.ael hw.2.2.1 e7 m_v_51; rw [show Int32.toNatClampNeg v_50 = Int32.toNatClampNeg p1 + 2 from (by have k1 := r_v_50.cl (by decide); have k2 := r_p1.cl (by decide); omega)] at x9; have q8 := q9.2.2; rw [x9] at q8; exact q8⟩
      refine tk_ir (va_runV (As := [.int v_4, .int v_3, .int v_51]) (rest := []) ⟨hx, hb, hml, hown, hts⟩ (c_X10_why__7 l D cy z s.heap.size Ps w0 hw.1 p0 v_4 v_3 v_51 h_p0 r_v_4 r_v_3 r_v_51) (cwV 3 hts (gV tw_1501 tw_1503 ts_77 tw_15 tw_1504) rfl rfl rfl (by decide +kernel) ⟨Nat.le_of_ble_eq_true rfl, Nat.le_of_ble_eq_true rfl⟩) (tg_preV hw hK hSD hA (ci := 10) (q := (RX10, TX10, 49)) rfl h_p0 rfl) rfl rfl hl.1 rfl (lv_room (Nat.le_of_ble_eq_true rfl)) dX10_goBy_62 ⟨Nat.le_of_ble_eq_true rfl, Nat.le_of_ble_eq_true rfl⟩) hw hA (fun v_52  H locs hp_v_52 hw => ?_)
      have r_v_52 : RI v_52 0 1 := hp_v_52.1
      refine lv_istore_n (lv' := [(3, .int v_52), (2, .int v_3), (0, .ref p0), (1, .int p1)]) hx hb dX10_goBy_65 rfl hl (by decide) rfl (fun ls hl => ?_)
      refine lv_iload_n hx hb dX10_goBy_66 rfl (lv_at hl 0 rfl) ?_
      refine lv_if_eq (tgt := 82) hx hb dX10_goBy_67 (by decide) (fun c_67 => ?_) (fun c_67 => ?_)
      · have r_v_52 : RI v_52 0 0 := rc_eq1 r_v_52 rl_0 (ti_eq c_67) (by decide)
        refine lv_aload_n hx hb dX10_goBy_82 rfl (lv_at hl 2 rfl) ?_
        refine lv_aload_n hx hb dX10_goBy_83 rfl (lv_at hl 2 rfl) ?_
        refine tg_mem (ci := 10) (C := RX10) (T := TX10) (N := 49) hx hb hts inX10 hown hK hw 40 m_u_1 rfl (by decide) (hts _ tw_1177) (fun _ h9 => h9) dX10_goBy_84 ?_
        refine lv_iload_n hx hb dX10_goBy_87 rfl (lv_at hl 3 rfl) ?_
        refine tg_imem hx hb hK hw h_vu_1 rfl r_p1 (by decide) m_v_4 dX10_goBy_88 ?_
        refine lv_iload_n hx hb dX10_goBy_89 rfl (lv_at hl 1 rfl) ?_
        refine lv_aload_n hx hb dX10_goBy_90 rfl (lv_at hl 2 rfl) ?_
        refine tg_mem (ci := 10) (C := RX10) (T := TX10) (N := 49) hx hb hts inX10 hown hK hw 40 m_u_1 rfl (by decide) (hts _ tw_1177) (fun _ h9 => h9) dX10_goBy_91 ?_
        refine lv_iload_n hx hb dX10_goBy_94 rfl (lv_at hl 3 rfl) ?_
        refine lv_iconst (v := 2) hx hb dX10_goBy_95 (by decide) ?_
        refine lv_iadd hx hb dX10_goBy_96 (lv_topi (fun v_54 e_v_54 => ?_))
        obtain ⟨t_v_54, r_v_54⟩ := tq_add (lo := 2) (hi := 119) r_p1 rl_2 (by decide +kernel) e_v_54
        have t_v_54 : v_54.toInt = p1.toInt + 2 := t_v_54
        refine tg_iald (lo := 0) (hi := 60) hx hb hK hw h_vu_1 rfl 2 119 r_v_54 (by decide) (by exact fun _ _ _ => ⟨Int.le_refl _, Int.le_refl _⟩) dX10_goBy_97 (fun v_55 r_v_55 m_v_55 o_v_55 => ?_)
        have r_v_55 : RI v_55 0 5 := ⟨r_v_55.1, by obtain ⟨_, f9, e8, e7, q9⟩ := x_GL_p0_p1; cases FLD.inj hw.2.2.1 e8 m_u_1; have x9 := ARR.ael hw.2.2.1 e7 m_v_55; rw [show Int32.toNatClampNeg v_54 = Int32.toNatClampNeg p1 + 2 from (by have k1 := r_v_54.cl (by decide); have k2 := r_p1.cl (by decide); omega)] at x9; have q8 := q9.2.2; rw [x9] at q8; exact q8⟩
        have hw8 := hw
        refine tk_v (va_runV (As := [.int v_4, .int v_3, .int v_55]) (rest := []) ⟨hx, hb, hml, hown, hts⟩ (c_X10_live__13 l D cy z H.size Ps w0 hw.1 p0 v_4 v_3 v_55 (gdR) h_p0 r_v_4 r_v_3 r_v_55 x_HD_p0_gdR) (cwV 3 hts (gV tw_1509 tw_1511 ts_79 tw_15 tw_1512) rfl rfl rfl (by decide +kernel) ⟨Nat.le_of_ble_eq_true rfl, Nat.le_of_ble_eq_true rfl⟩) (tg_preV hw hK hSD hA (ci := 10) (q := (RX10, TX10, 49)) rfl h_p0 rfl) rfl rfl hl.1 rfl (lv_room (Nat.le_of_ble_eq_true rfl)) dX10_goBy_98 ⟨Nat.le_of_ble_eq_true rfl, Nat.le_of_ble_eq_true rfl⟩) hw hA ⟨by decide, by decide⟩ (fun ws H locs hp_v_56 hw hF9 => ?_)
        have m_v_3 := AEL.over hw8 hF9 h_vu_1 m_v_3 (by decide)
        have m_v_4 := AEL.over hw8 hF9 h_vu_1 m_v_4 (by decide)
        have m_v_51 := AEL.over hw8 hF9 h_vu_1 m_v_51 (by decide)
        have m_v_55 := AEL.over hw8 hF9 h_vu_1 m_v_55 (by decide)
        have m_u_1 := FLD.over hF9 m_u_1 (by decide)
        have x_GL_p0_p1 := AX.over hF9 x_GL_p0_p1 (by decide)
        obtain ⟨x_HD_p0_gdR, hp_v_56⟩ := hp_v_56
        refine lv_iconst (v := 0) hx hb dX10_goBy_101 (by decide) ?_
        subst hQ
        exact W.iret (v := 0) hx hb hr (fun t ht hW => ⟨⟨0, ws, rfl, ⟨⟨x_HD_p0_gdR, rl_0.to (by decide), (fun h0 => trivial), (fun _ => trivial)⟩, hw.1, hw.2.2.2.2.1⟩, by rw [ht]; exact hw.2.1, va_K.moved hW.alike hK, hw.2.2.1⟩, hw.2.2.2.1.F ht⟩) hw.2.2.2.1.2.2 dX10_goBy_102
      · have r_v_52 : RI v_52 1 1 := rc_neL r_v_52 rl_0 (ti_ne c_67) (by decide)
        refine lv_bipush (v := 10) hx hb dX10_goBy_70 (by decide) ?_
        refine lv_aload_n hx hb dX10_goBy_72 rfl (lv_at hl 2 rfl) ?_
        refine tg_mem (ci := 10) (C := RX10) (T := TX10) (N := 49) hx hb hts inX10 hown hK hw 40 m_u_1 rfl (by decide) (hts _ tw_1177) (fun _ h9 => h9) dX10_goBy_73 ?_
        refine lv_iload_n hx hb dX10_goBy_76 rfl (lv_at hl 3 rfl) ?_
        refine tg_imem hx hb hK hw h_vu_1 rfl r_p1 (by decide) m_v_4 dX10_goBy_77 ?_
        refine lv_imul hx hb dX10_goBy_78 (lv_topi (fun v_58 e_v_58 => ?_))
        obtain ⟨t_v_58, r_v_58⟩ := tq_mul (lo := 40) (hi := 40) rl_10 r_v_4 (by decide +kernel) e_v_58
        have t_v_58 : v_58.toInt = 10 * v_4.toInt := t_v_58
        refine lv_iload_n hx hb dX10_goBy_79 rfl (lv_at hl 0 rfl) ?_
        refine lv_iadd hx hb dX10_goBy_80 (lv_topi (fun v_59 e_v_59 => ?_))
        obtain ⟨t_v_59, r_v_59⟩ := tq_add (lo := 41) (hi := 41) r_v_58 r_v_52 (by decide +kernel) e_v_59
        subst hQ
        exact W.iret (v := v_59) hx hb hr (fun t ht hW => ⟨⟨v_59, w0, rfl, ⟨⟨x_HD_p0_gdR, r_v_59.to (by decide), (fun _ => trivial), (fun h0 => trivial)⟩, hw.1, hw.2.2.2.2.1⟩, by rw [ht]; exact hw.2.1, va_K.moved hW.alike hK, hw.2.2.1⟩, hw.2.2.2.1.F ht⟩) hw.2.2.2.1.2.2 dX10_goBy_81
    · have r_v_4 : RI v_4 5 5 := ⟨by omega, by omega⟩
      refine lv_aload_n hx hb dX10_goBy_46 rfl (lv_at hl 1 rfl) ?_
      refine lv_aload_n hx hb dX10_goBy_47 rfl (lv_at hl 1 rfl) ?_
      refine tg_mem (ci := 10) (C := RX10) (T := TX10) (N := 49) hx hb hts inX10 hown hK hw 40 m_u_1 rfl (by decide) (hts _ tw_1177) (fun _ h9 => h9) dX10_goBy_48 ?_
      refine lv_iload_n hx hb dX10_goBy_51 rfl (lv_at hl 2 rfl) ?_
      refine tg_imem hx hb hK hw h_vu_1 rfl r_p1 (by decide) m_v_4 dX10_goBy_52 ?_
      refine lv_iload_n hx hb dX10_goBy_53 rfl (lv_at hl 0 rfl) ?_
      refine lv_aload_n hx hb dX10_goBy_54 rfl (lv_at hl 1 rfl) ?_
      refine tg_mem (ci := 10) (C := RX10) (T := TX10) (N := 49) hx hb hts inX10 hown hK hw 40 m_u_1 rfl (by decide) (hts _ tw_1177) (fun _ h9 => h9) dX10_goBy_55 ?_
      refine lv_iload_n hx hb dX10_goBy_58 rfl (lv_at hl 2 rfl) ?_
      refine lv_iconst (v := 2) hx hb dX10_goBy_59 (by decide) ?_
      refine lv_iadd hx hb dX10_goBy_60 (lv_topi (fun v_61 e_v_61 => ?_))
      obtain ⟨t_v_61, r_v_61⟩ := tq_add (lo := 2) (hi := 119) r_p1 rl_2 (by decide +kernel) e_v_61
      have t_v_61 : v_61.toInt = p1.toInt + 2 := t_v_61
      refine tg_iald (lo := 0) (hi := 60) hx hb hK hw h_vu_1 rfl 2 119 r_v_61 (by decide) (by exact fun _ _ _ => ⟨Int.le_refl _, Int.le_refl _⟩) dX10_goBy_61 (fun v_62 r_v_62 m_v_62 o_v_62 => ?_)
      have r_v_62 : RI v_62 0 5 := ⟨r_v_62.1, by obtain ⟨_, f9, e8, e7, q9⟩ := x_GL_p0_p1; cases FLD.inj hw.2.2.1 e8 m_u_1; have x9 := ARR.ael hw.2.2.1 e7 m_v_62; rw [show Int32.toNatClampNeg v_61 = Int32.toNatClampNeg p1 + 2 from (by have k1 := r_v_61.cl (by decide); have k2 := r_p1.cl (by decide); omega)] at x9; have q8 := q9.2.2; rw [x9] at q8; exact q8⟩
      refine tk_ir (va_runV (As := [.int v_4, .int v_3, .int v_62]) (rest := []) ⟨hx, hb, hml, hown, hts⟩ (c_X10_why__8 l D cy z s.heap.size Ps w0 hw.1 p0 v_4 v_3 v_62 h_p0 r_v_4 r_v_3 r_v_62) (cwV 3 hts (gV tw_1501 tw_1503 ts_77 tw_15 tw_1504) rfl rfl rfl (by decide +kernel) ⟨Nat.le_of_ble_eq_true rfl, Nat.le_of_ble_eq_true rfl⟩) (tg_preV hw hK hSD hA (ci := 10) (q := (RX10, TX10, 49)) rfl h_p0 rfl) rfl rfl hl.1 rfl (lv_room (Nat.le_of_ble_eq_true rfl)) dX10_goBy_62 ⟨Nat.le_of_ble_eq_true rfl, Nat.le_of_ble_eq_true rfl⟩) hw hA (fun v_63  H locs hp_v_63 hw => ?_)
      have r_v_63 : RI v_63 0 2 := hp_v_63.1
      refine lv_istore_n (lv' := [(3, .int v_63), (2, .int v_3), (0, .ref p0), (1, .int p1)]) hx hb dX10_goBy_65 rfl hl (by decide) rfl (fun ls hl => ?_)
      refine lv_iload_n hx hb dX10_goBy_66 rfl (lv_at hl 0 rfl) ?_
      refine lv_if_eq (tgt := 82) hx hb dX10_goBy_67 (by decide) (fun c_67 => ?_) (fun c_67 => ?_)
      · have r_v_63 : RI v_63 0 0 := rc_eq1 r_v_63 rl_0 (ti_eq c_67) (by decide)
        refine lv_aload_n hx hb dX10_goBy_82 rfl (lv_at hl 2 rfl) ?_
        refine lv_aload_n hx hb dX10_goBy_83 rfl (lv_at hl 2 rfl) ?_
        refine tg_mem (ci := 10) (C := RX10) (T := TX10) (N := 49) hx hb hts inX10 hown hK hw 40 m_u_1 rfl (by decide) (hts _ tw_1177) (fun _ h9 => h9) dX10_goBy_84 ?_
        refine lv_iload_n hx hb dX10_goBy_87 rfl (lv_at hl 3 rfl) ?_
        refine tg_imem hx hb hK hw h_vu_1 rfl r_p1 (by decide) m_v_4 dX10_goBy_88 ?_
        refine lv_iload_n hx hb dX10_goBy_89 rfl (lv_at hl 1 rfl) ?_
        refine lv_aload_n hx hb dX10_goBy_90 rfl (lv_at hl 2 rfl) ?_
        refine tg_mem (ci := 10) (C := RX10) (T := TX10) (N := 49) hx hb hts inX10 hown hK hw 40 m_u_1 rfl (by decide) (hts _ tw_1177) (fun _ h9 => h9) dX10_goBy_91 ?_
        refine lv_iload_n hx hb dX10_goBy_94 rfl (lv_at hl 3 rfl) ?_
        refine lv_iconst (v := 2) hx hb dX10_goBy_95 (by decide) ?_
        refine lv_iadd hx hb dX10_goBy_96 (lv_topi (fun v_65 e_v_65 => ?_))
        obtain ⟨t_v_65, r_v_65⟩ := tq_add (lo := 2) (hi := 119) r_p1 rl_2 (by decide +kernel) e_v_65
        have t_v_65 : v_65.toInt = p1.toInt + 2 := t_v_65
        refine tg_iald (lo := 0) (hi := 60) hx hb hK hw h_vu_1 rfl 2 119 r_v_65 (by decide) (by exact fun _ _ _ => ⟨Int.le_refl _, Int.le_refl _⟩) dX10_goBy_97 (fun v_66 r_v_66 m_v_66 o_v_66 => ?_)
        have r_v_66 : RI v_66 0 5 := ⟨r_v_66.1, by obtain ⟨_, f9, e8, e7, q9⟩ := x_GL_p0_p1; cases FLD.inj hw.2.2.1 e8 m_u_1; have x9 := ARR.ael hw.2.2.1 e7 m_v_66; rw [show Int32.toNatClampNeg v_65 = Int32.toNatClampNeg p1 + 2 from (by have k1 := r_v_65.cl (by decide); have k2 := r_p1.cl (by decide); omega)] at x9; have q8 := q9.2.2; rw [x9] at q8; exact q8⟩
        have hw8 := hw
        refine tk_v (va_runV (As := [.int v_4, .int v_3, .int v_66]) (rest := []) ⟨hx, hb, hml, hown, hts⟩ (c_X10_live__14 l D cy z H.size Ps w0 hw.1 p0 v_4 v_3 v_66 (gdR) h_p0 r_v_4 r_v_3 r_v_66 x_HD_p0_gdR) (cwV 3 hts (gV tw_1509 tw_1511 ts_79 tw_15 tw_1512) rfl rfl rfl (by decide +kernel) ⟨Nat.le_of_ble_eq_true rfl, Nat.le_of_ble_eq_true rfl⟩) (tg_preV hw hK hSD hA (ci := 10) (q := (RX10, TX10, 49)) rfl h_p0 rfl) rfl rfl hl.1 rfl (lv_room (Nat.le_of_ble_eq_true rfl)) dX10_goBy_98 ⟨Nat.le_of_ble_eq_true rfl, Nat.le_of_ble_eq_true rfl⟩) hw hA ⟨by decide, by decide⟩ (fun ws H locs hp_v_67 hw hF9 => ?_)
        have m_v_3 := AEL.over hw8 hF9 h_vu_1 m_v_3 (by decide)
        have m_v_4 := AEL.over hw8 hF9 h_vu_1 m_v_4 (by decide)
        have m_v_62 := AEL.over hw8 hF9 h_vu_1 m_v_62 (by decide)
        have m_v_66 := AEL.over hw8 hF9 h_vu_1 m_v_66 (by decide)
        have m_u_1 := FLD.over hF9 m_u_1 (by decide)
        have x_GL_p0_p1 := AX.over hF9 x_GL_p0_p1 (by decide)
        obtain ⟨x_HD_p0_gdR, hp_v_67⟩ := hp_v_67
        refine lv_iconst (v := 0) hx hb dX10_goBy_101 (by decide) ?_
        subst hQ
        exact W.iret (v := 0) hx hb hr (fun t ht hW => ⟨⟨0, ws, rfl, ⟨⟨x_HD_p0_gdR, rl_0.to (by decide), (fun h0 => trivial), (fun _ => trivial)⟩, hw.1, hw.2.2.2.2.1⟩, by rw [ht]; exact hw.2.1, va_K.moved hW.alike hK, hw.2.2.1⟩, hw.2.2.2.1.F ht⟩) hw.2.2.2.1.2.2 dX10_goBy_102
      · have r_v_63 : RI v_63 1 2 := rc_neL r_v_63 rl_0 (ti_ne c_67) (by decide)
        refine lv_bipush (v := 10) hx hb dX10_goBy_70 (by decide) ?_
        refine lv_aload_n hx hb dX10_goBy_72 rfl (lv_at hl 2 rfl) ?_
        refine tg_mem (ci := 10) (C := RX10) (T := TX10) (N := 49) hx hb hts inX10 hown hK hw 40 m_u_1 rfl (by decide) (hts _ tw_1177) (fun _ h9 => h9) dX10_goBy_73 ?_
        refine lv_iload_n hx hb dX10_goBy_76 rfl (lv_at hl 3 rfl) ?_
        refine tg_imem hx hb hK hw h_vu_1 rfl r_p1 (by decide) m_v_4 dX10_goBy_77 ?_
        refine lv_imul hx hb dX10_goBy_78 (lv_topi (fun v_69 e_v_69 => ?_))
        obtain ⟨t_v_69, r_v_69⟩ := tq_mul (lo := 50) (hi := 50) rl_10 r_v_4 (by decide +kernel) e_v_69
        have t_v_69 : v_69.toInt = 10 * v_4.toInt := t_v_69
        refine lv_iload_n hx hb dX10_goBy_79 rfl (lv_at hl 0 rfl) ?_
        refine lv_iadd hx hb dX10_goBy_80 (lv_topi (fun v_70 e_v_70 => ?_))
        obtain ⟨t_v_70, r_v_70⟩ := tq_add (lo := 51) (hi := 52) r_v_69 r_v_63 (by decide +kernel) e_v_70
        subst hQ
        exact W.iret (v := v_70) hx hb hr (fun t ht hW => ⟨⟨v_70, w0, rfl, ⟨⟨x_HD_p0_gdR, r_v_70.to (by decide), (fun _ => trivial), (fun h0 => trivial)⟩, hw.1, hw.2.2.2.2.1⟩, by rw [ht]; exact hw.2.1, va_K.moved hW.alike hK, hw.2.2.1⟩, hw.2.2.2.1.F ht⟩) hw.2.2.2.1.2.2 dX10_goBy_81
  · have r_v_4 : RI v_4 6 6 := rc_eq1 r_v_4 rl_6 (ti_eq c_17) (by decide)
    refine lv_aload_n hx hb dX10_goBy_20 rfl (lv_at hl 1 rfl) ?_
    refine tg_get (ci := 10) (ts := ty_MODEL) (C := RX10) (T := TX10) (N := 49) hx hb hts inX10 hown hK hw h_p0 rfl rfl 14 (by decide) (hts _ tw_1151) (fun _ h9 => h9) (ft := vR 34) rfl dX10_goBy_21 (fun u_71 hv_u_71 m_u_71 => ?_)
    obtain ⟨vu_71, rfl, h_vu_71⟩ := hv_u_71
    refine lv_bipush (v := 84) hx hb dX10_goBy_24 (by decide) ?_
    refine tg_iald (lo := (-2147483648)) (hi := 2147483647) hx hb hK hw h_vu_71 rfl 84 84 rl_84 (by decide) (by decide +kernel) dX10_goBy_26 (fun v_72 r_v_72 m_v_72 o_v_72 => ?_)
    refine lv_iload_n hx hb dX10_goBy_27 rfl (lv_at hl 0 rfl) ?_
    refine lv_iadd hx hb dX10_goBy_28 (lv_topi (fun v_73 e_v_73 => ?_))
    have r_v_73 := ri_any v_73
    refine lv_sipush (v := 400) hx hb dX10_goBy_29 (by decide) ?_
    refine lv_icmp_le (tgt := 38) hx hb dX10_goBy_32 (by decide) (fun c_32 => ?_) (fun c_32 => ?_)
    · have r_v_73 : RI v_73 (-2147483648) 400 := rc_le1 r_v_73 rl_400 (ti_le c_32) (by decide)
      refine lv_aload_n hx hb dX10_goBy_38 rfl (lv_at hl 1 rfl) ?_
      refine lv_iload_n hx hb dX10_goBy_39 rfl (lv_at hl 0 rfl) ?_
      have hw8 := hw
      refine tk_i (va_runV (As := [.int v_3]) (rest := []) ⟨hx, hb, hml, hown, hts⟩ (c_X10_passDays__1 l D cy z s.heap.size Ps w0 hw.1 p0 v_3 (gdR) h_p0 (r_v_3.to (by decide)) x_HD_p0_gdR) (cwV 1 hts (gV tw_1560 tw_1562 ts_84 tw_15 tw_1563) rfl rfl rfl (by decide +kernel) ⟨Nat.le_of_ble_eq_true rfl, Nat.le_of_ble_eq_true rfl⟩) (tg_preV hw hK hSD hA (ci := 10) (q := (RX10, TX10, 49)) rfl h_p0 rfl) rfl rfl hl.1 rfl (lv_room (Nat.le_of_ble_eq_true rfl)) dX10_goBy_40 ⟨Nat.le_of_ble_eq_true rfl, Nat.le_of_ble_eq_true rfl⟩) hw hA ⟨by decide, by decide⟩ (fun v_74 ws H locs hp_v_74 hw hF9 => ?_)
      have m_v_3 := AEL.over hw8 hF9 h_vu_1 m_v_3 (by decide)
      have m_v_4 := AEL.over hw8 hF9 h_vu_1 m_v_4 (by decide)
      have m_u_1 := FLD.over hF9 m_u_1 (by decide)
      have m_u_71 := FLD.over hF9 m_u_71 (by decide)
      have x_GL_p0_p1 := AX.over hF9 x_GL_p0_p1 (by decide)
      obtain ⟨x_HD_p0_gdR, hp_v_74⟩ := hp_v_74
      have r_v_74 : RI v_74 (-2147483648) 2147483647 := hp_v_74.1
      refine lv_pop hx hb dX10_goBy_43 rfl ?_
      refine lv_iconst (v := 0) hx hb dX10_goBy_44 (by decide) ?_
      subst hQ
      exact W.iret (v := 0) hx hb hr (fun t ht hW => ⟨⟨0, ws, rfl, ⟨⟨x_HD_p0_gdR, rl_0.to (by decide), (fun h0 => trivial), (fun _ => trivial)⟩, hw.1, hw.2.2.2.2.1⟩, by rw [ht]; exact hw.2.1, va_K.moved hW.alike hK, hw.2.2.1⟩, hw.2.2.2.1.F ht⟩) hw.2.2.2.1.2.2 dX10_goBy_45
    · have r_v_73 : RI v_73 401 2147483647 := rc_lt2 rl_400 r_v_73 (ti_nle c_32) (by decide)
      refine lv_bipush (v := 61) hx hb dX10_goBy_35 (by decide) ?_
      subst hQ
      exact W.iret (v := 61) hx hb hr (fun t ht hW => ⟨⟨61, w0, rfl, ⟨⟨x_HD_p0_gdR, rl_61.to (by decide), (fun _ => trivial), (fun h0 => trivial)⟩, hw.1, hw.2.2.2.2.1⟩, by rw [ht]; exact hw.2.1, va_K.moved hW.alike hK, hw.2.2.1⟩, hw.2.2.2.1.F ht⟩) hw.2.2.2.1.2.2 dX10_goBy_37
abbrev wr_X10_book__2 : List (Nat × Nat) := [(10, 0), (10, 2), (10, 3), (10, 4), (10, 5), (10, 6), (10, 7), (10, 8), (10, 9), (10, 10), (10, 11), (10, 12), (10, 13), (10, 25), (10, 42), (10, 43)]
abbrev wa_X10_book__2 : List Nat := [34, 37, 38, 46, 52, 53]
set_option maxHeartbeats 4000000 in
set_option maxRecDepth 100000 in
theorem c_X10_book__2 (l : Launch) (D : va_G) (cy : Nat → ClassId) (z : Nat → Nat) (sz : Nat) (Ps : PSI) (w0 : va_W) (hT : HT cy GG Ps w0) (p0 : Nat) (p1 : Int32) (gh : Int) (gdR : Nat → Int32) (h_p0 : (p0, 55) ∈ Ps) (r_p1 : RI p1 (-2147483648) 2147483647) (x_TLM_p0_gh : TLM w0 p0 (gh)) (x_HD_p0_gdR : AX 14 34 (HDp gdR) Ps w0 p0) : Met l yX10_book (Cond.code yX10_book cX10_book 4 (some .int) :: gT) ({ frames := 8, cells := 0, slots := 0, locals := 1600 } : Room) (va_Pc [.ref p0, .int p1] (PRE D cy z w0 sz)) (va_Qi (fun (r : Int32) (u : va_W) => ((AX 14 34 (HDp gdR) Ps u p0) ∧ (RI r (-2147483648) 2147483647 ∧ (r = 0 → True) ∧ (¬ r = 0 → True) ∧ (BKM u p0 p1 (gh) ∧ True) ∧ (r.toInt < 0 → True) ∧ (0 ≤ r.toInt → True))) ∧ HT cy GG Ps u ∧ FR wr_X10_book__2 wa_X10_book__2 Ps w0 u) (BB D cy (va_A w0 sz) (fun (u : va_W) => u)) (va_A w0 sz)) 0 0 (va_A w0 sz) := by
  refine Met.ofW (cc := cX10_book) (maxL := 4) (ret := (some .int)) (by decide) rfl ?_
  intro p e s m args below meth c s₁ B hml hv
  obtain ⟨rfl, hsz, hP, hK, hD0, hSD⟩ := hv
  have hx := B.exec
  have hb := B.bytes
  have hr := B.returns
  have hlocks := B.notSynchronized
  have hts : ∀ w ∈ gT, w.before _ s = true := fun w h => atoms_spec (ws := Cond.code yX10_book cX10_book 4 (some .int) :: gT) B.pre w (List.mem_cons_of_mem _ h)
  have hown : s.vm.findClass RX10 = some m.cls := findClass_of_methodNamed B.named
  subst hsz
  have hD := hD0.self (sz := s.heap.size)
  generalize hAe : va_A w0 s.heap.size = A at hD hSD ⊢
  have hA : ∀ q : Nat, s.heap.size ≤ q → A q := fun q h => by rw [← hAe]; exact Or.inr h
  have hl := lv_entry ([.ref p0, .int p1]) (n := 4) (Nat.le_of_ble_eq_true rfl)
  rw [lg_entry_eq]
  generalize (lg_sl ([.ref p0, .int p1]) ++ List.replicate (4 - (lg_sl ([.ref p0, .int p1])).length) Slot.unset).toArray = ls at hl ⊢
  have hl : lv_has ls 4 [(0, .ref p0), (1, .int p1)] := hl
  refine nameQ (fun Q hQ => ?_)
  have hw : WD D cy GG A s wr_X10_book__2 wa_X10_book__2 Ps w0 Ps w0 s.heap [] := ⟨hT, hP, hD, va_S.rf, FR.rf, hT.1, [], (List.append_nil _).symm⟩
  have B103 : ∀ (x2 : Int32) (x3 : Int32) (z0_2 : Int32) (z0_7 : Int32) (z0_42 : Int32) (ws : va_W) (H : Heap) (locs : List Loc) (ls : Array Slot), RI p1 0 1 → RI x2 0 40 → RI x3 0 61 → RI z0_2 0 0 → FLD ws p0 10 2 (.int z0_2) → RI z0_7 0 0 → FLD ws p0 10 7 (.int z0_7) → RI z0_42 0 40 → FLD ws p0 10 42 (.int z0_42) → AX 14 34 (HDp gdR) Ps ws p0 → (0 ≤ Int32.toInt p1 ∧ Int32.toInt p1 ≤ 1) → LNS Ps ws p0 → TLM ws p0 (0) → WD D cy GG A s wr_X10_book__2 wa_X10_book__2 Ps w0 Ps ws H locs → lv_has ls 4 [(0, .ref p0), (1, .int p1), (2, .int x2), (3, .int x3)] → W p l e (headSpec (Cond.code yX10_book cX10_book 4 (some .int) :: gT) ({ frames := 8, cells := 0, slots := 0, locals := 1600 } : Room)).room s m ([.ref p0, .int p1] : List Value).toArray below meth c H locs 0 0 Q (F0 m 103 ls []) := by
    intro x2 x3 z0_2 z0_7 z0_42 ws H locs ls r_p1 r_x2 r_x3 r_z0_2 m_z0_2 r_z0_7 m_z0_7 r_z0_42 m_z0_42 x_HD_p0_gdR x_IMG1_p1 x_LNS_p0 x_TLM_p0_0 hw hl
    refine lv_aload_n hx hb dX10_book_103 rfl (lv_at hl 0 rfl) ?_
    refine tg_get (ci := 10) (ts := ty_MODEL) (C := RX10) (T := TX10) (N := 49) hx hb hts inX10 hown hK hw h_p0 rfl rfl 41 (by decide) (hts _ tw_1178) (fun _ h9 => h9) (ft := vR 53) rfl dX10_book_104 (fun u_1 hv_u_1 m_u_1 => ?_)
    obtain ⟨vu_1, rfl, h_vu_1⟩ := hv_u_1
    refine lv_iconst (v := 0) hx hb dX10_book_107 (by decide) ?_
    refine lv_iload_n hx hb dX10_book_108 rfl (lv_at hl 3 rfl) ?_
    refine tg_iast hx hb hK hw h_vu_1 rfl 0 0 rl_0 (by decide) r_x3 (by exact fun _ _ _ => by decide) (fun _ _ _ _ _ => trivial) (by decide) dX10_book_109 (fun ws H locs hw hF9 hU9 => ?_)
    have x_HD_p0_gdR := AX.over hF9 x_HD_p0_gdR (by decide)
    have x_LNS_p0 := LNS.over hF9 x_LNS_p0 (by decide)
    have x_TLM_p0_0 := TLM.over hF9 x_TLM_p0_0 (by decide)
    have m_z0_2 := FLD.over hF9 m_z0_2 (by decide)
    have m_z0_7 := FLD.over hF9 m_z0_7 (by decide)
    have m_z0_42 := FLD.over hF9 m_z0_42 (by decide)
    have m_u_1 := FLD.over hF9 m_u_1 (by decide)
    refine lv_aload_n hx hb dX10_book_110 rfl (lv_at hl 0 rfl) ?_
    refine tg_mem (ci := 10) (C := RX10) (T := TX10) (N := 49) hx hb hts inX10 hown hK hw 41 m_u_1 rfl (by decide) (hts _ tw_1178) (fun _ h9 => h9) dX10_book_111 ?_
    refine lv_iconst (v := 1) hx hb dX10_book_114 (by decide) ?_
    refine lv_iload_n hx hb dX10_book_115 rfl (lv_at hl 2 rfl) ?_
    refine tg_iast hx hb hK hw h_vu_1 rfl 1 1 rl_1 (by decide) r_x2 (by exact fun _ _ _ => by decide) (fun _ _ _ _ _ => trivial) (by decide) dX10_book_116 (fun ws H locs hw hF9 hU9 => ?_)
    have x_HD_p0_gdR := AX.over hF9 x_HD_p0_gdR (by decide)
    have x_LNS_p0 := LNS.over hF9 x_LNS_p0 (by decide)
    have x_TLM_p0_0 := TLM.over hF9 x_TLM_p0_0 (by decide)
    have m_z0_2 := FLD.over hF9 m_z0_2 (by decide)
    have m_z0_7 := FLD.over hF9 m_z0_7 (by decide)
    have m_z0_42 := FLD.over hF9 m_z0_42 (by decide)
    have m_u_1 := FLD.over hF9 m_u_1 (by decide)
    refine lv_aload_n hx hb dX10_book_117 rfl (lv_at hl 0 rfl) ?_
    refine tg_mem (ci := 10) (C := RX10) (T := TX10) (N := 49) hx hb hts inX10 hown hK hw 41 m_u_1 rfl (by decide) (hts _ tw_1178) (fun _ h9 => h9) dX10_book_118 ?_
    refine lv_iconst (v := 2) hx hb dX10_book_121 (by decide) ?_
    refine lv_aload_n hx hb dX10_book_122 rfl (lv_at hl 0 rfl) ?_
    refine tg_get (ci := 10) (ts := ty_MODEL) (C := RX10) (T := TX10) (N := 49) hx hb hts inX10 hown hK hw h_p0 rfl rfl 14 (by decide) (hts _ tw_1151) (fun _ h9 => h9) (ft := vR 34) rfl dX10_book_123 (fun u_2 hv_u_2 m_u_2 => ?_)
    obtain ⟨vu_2, rfl, h_vu_2⟩ := hv_u_2
    refine lv_bipush (v := 84) hx hb dX10_book_126 (by decide) ?_
    refine tg_iald (lo := (-2147483648)) (hi := 2147483647) hx hb hK hw h_vu_2 rfl 84 84 rl_84 (by decide) (by decide +kernel) dX10_book_128 (fun v_3 r_v_3 m_v_3 o_v_3 => ?_)
    have hw8 := hw
    refine tg_iast hx hb hK hw h_vu_1 rfl 2 2 rl_2 (by decide) r_v_3 (by exact fun _ _ _ => by decide) (fun _ _ _ _ _ => trivial) (by decide) dX10_book_129 (fun ws H locs hw hF9 hU9 => ?_)
    have m_v_3 := AEL.over hw8 hF9 h_vu_2 m_v_3 (by decide)
    have x_HD_p0_gdR := AX.over hF9 x_HD_p0_gdR (by decide)
    have x_LNS_p0 := LNS.over hF9 x_LNS_p0 (by decide)
    have x_TLM_p0_0 := TLM.over hF9 x_TLM_p0_0 (by decide)
    have m_z0_2 := FLD.over hF9 m_z0_2 (by decide)
    have m_z0_7 := FLD.over hF9 m_z0_7 (by decide)
    have m_z0_42 := FLD.over hF9 m_z0_42 (by decide)
    have m_u_1 := FLD.over hF9 m_u_1 (by decide)
    have m_u_2 := FLD.over hF9 m_u_2 (by decide)
    refine lv_aload_n hx hb dX10_book_130 rfl (lv_at hl 0 rfl) ?_
    refine tg_mem (ci := 10) (C := RX10) (T := TX10) (N := 49) hx hb hts inX10 hown hK hw 41 m_u_1 rfl (by decide) (hts _ tw_1178) (fun _ h9 => h9) dX10_book_131 ?_
    refine lv_iconst (v := 3) hx hb dX10_book_134 (by decide) ?_
    refine lv_aload_n hx hb dX10_book_135 rfl (lv_at hl 0 rfl) ?_
    refine tk_ir (va_runV (As := []) (rest := [.int 3, .ref vu_1]) ⟨hx, hb, hml, hown, hts⟩ (c_X10_nothings l D cy z H.size Ps ws hw.1 p0 h_p0) (cwV 0 hts (gV tw_1485 tw_1487 ts_74 tw_15 tw_1488) rfl rfl rfl (by decide +kernel) ⟨Nat.le_of_ble_eq_true rfl, Nat.le_of_ble_eq_true rfl⟩) (tg_preV hw hK hSD hA (ci := 10) (q := (RX10, TX10, 49)) rfl h_p0 rfl) rfl rfl hl.1 rfl (lv_room (Nat.le_of_ble_eq_true rfl)) dX10_book_136 ⟨Nat.le_of_ble_eq_true rfl, Nat.le_of_ble_eq_true rfl⟩) hw hA (fun v_4  H locs hp_v_4 hw => ?_)
    have r_v_4 : RI v_4 (-2147483648) 2147483647 := hp_v_4.1
    have hw8 := hw
    refine tg_iast hx hb hK hw h_vu_1 rfl 3 3 rl_3 (by decide) r_v_4 (by exact fun _ _ _ => by decide) (fun _ _ _ _ _ => trivial) (by decide) dX10_book_139 (fun ws H locs hw hF9 hU9 => ?_)
    have m_v_3 := AEL.over hw8 hF9 h_vu_2 m_v_3 (by decide)
    have x_HD_p0_gdR := AX.over hF9 x_HD_p0_gdR (by decide)
    have x_LNS_p0 := LNS.over hF9 x_LNS_p0 (by decide)
    have x_TLM_p0_0 := TLM.over hF9 x_TLM_p0_0 (by decide)
    have m_z0_2 := FLD.over hF9 m_z0_2 (by decide)
    have m_z0_7 := FLD.over hF9 m_z0_7 (by decide)
    have m_z0_42 := FLD.over hF9 m_z0_42 (by decide)
    have m_u_1 := FLD.over hF9 m_u_1 (by decide)
    have m_u_2 := FLD.over hF9 m_u_2 (by decide)
    refine lv_aload_n hx hb dX10_book_140 rfl (lv_at hl 0 rfl) ?_
    refine lv_iconst (v := 1) hx hb dX10_book_141 (by decide) ?_
    have hw8 := hw
    refine tg_put (ci := 10) (ts := ty_MODEL) (v := .int 1) (ty := .boolean) (C := RX10) (T := TX10) (N := 49) hx hb hts inX10 tyX10 tyX10_ok nmX10 hown hK hw h_p0 rfl rfl 43 (by decide) (hts _ tw_1180) (fun _ h9 => h9) rfl (by decide +kernel) rfl rfl (ft := vI 0 1) rfl ⟨_, rfl, (rl_1.to (by decide))⟩ (by decide) dX10_book_142 (fun ws H locs hw n_k_5 hF9 => ?_)
    have m_v_3 := AEL.over hw8 hF9 h_vu_2 m_v_3 (by decide)
    have m_z0_2 := FLD.over hF9 m_z0_2 (by decide)
    have m_z0_7 := FLD.over hF9 m_z0_7 (by decide)
    have m_z0_42 := FLD.over hF9 m_z0_42 (by decide)
    have m_u_1 := FLD.over hF9 m_u_1 (by decide)
    have m_u_2 := FLD.over hF9 m_u_2 (by decide)
    have x_HD_p0_gdR := AX.over hF9 x_HD_p0_gdR (by decide)
    have x_LNS_p0 := LNS.over hF9 x_LNS_p0 (by decide)
    have x_TLM_p0_0 := TLM.over hF9 x_TLM_p0_0 (by decide)
    refine lv_aload_n hx hb dX10_book_145 rfl (lv_at hl 0 rfl) ?_
    refine lv_iload_n hx hb dX10_book_146 rfl (lv_at hl 1 rfl) ?_
    refine lv_iconst (v := 1) hx hb dX10_book_147 (by decide) ?_
    refine lv_icmp_ne (tgt := 159) hx hb dX10_book_148 (by decide) (fun c_148 => ?_) (fun c_148 => ?_)
    · have r_p1 : RI p1 0 0 := rc_neU r_p1 rl_1 (ti_ne c_148) (by decide)
      refine lv_iconst (v := 0) hx hb dX10_book_159 (by decide) ?_
      have hw8 := hw
      refine tk_v (va_runV (As := [.int 0]) (rest := []) ⟨hx, hb, hml, hown, hts⟩ (c_X10_stay__1 l D cy z H.size Ps ws hw.1 p0 0 (gdR) h_p0 (rl_0.to (by decide)) x_HD_p0_gdR) (cwV 1 hts (gV tw_1739 tw_1741 ts_110 tw_15 tw_1742) rfl rfl rfl (by decide +kernel) ⟨Nat.le_of_ble_eq_true rfl, Nat.le_of_ble_eq_true rfl⟩) (tg_preV hw hK hSD hA (ci := 10) (q := (RX10, TX10, 49)) rfl h_p0 rfl) rfl rfl hl.1 rfl (lv_room (Nat.le_of_ble_eq_true rfl)) dX10_book_160 ⟨Nat.le_of_ble_eq_true rfl, Nat.le_of_ble_eq_true rfl⟩) hw hA ⟨by decide, by decide⟩ (fun ws H locs hp_v_6 hw hF9 => ?_)
      have m_z0_2 := FLD.over hF9 m_z0_2 (by decide)
      have m_z0_7 := FLD.over hF9 m_z0_7 (by decide)
      have m_z0_42 := FLD.over hF9 m_z0_42 (by decide)
      have m_u_1 := FLD.over hF9 m_u_1 (by decide)
      have m_u_2 := FLD.over hF9 m_u_2 (by decide)
      have n_k_5 := FLD.over hF9 n_k_5 (by decide)
      have x_LNS_p0 := LNS.over hF9 x_LNS_p0 (by decide)
      have x_TLM_p0_0 := TLM.over hF9 x_TLM_p0_0 (by decide)
      obtain ⟨x_HD_p0_gdR, hp_v_6⟩ := hp_v_6
      refine lv_iload_n hx hb dX10_book_163 rfl (lv_at hl 3 rfl) ?_
      refine lv_if_ne (tgt := 171) hx hb dX10_book_164 (by decide) (fun c_164 => ?_) (fun c_164 => ?_)
      · have r_x3 : RI x3 1 61 := rc_neL r_x3 rl_0 (ti_ne c_164) (by decide)
        refine lv_iload_n hx hb dX10_book_171 rfl (lv_at hl 2 rfl) ?_
        subst hQ
        exact W.iret (v := x2) hx hb hr (fun t ht hW => ⟨⟨x2, ws, rfl, ⟨⟨x_HD_p0_gdR, r_x2.to (by decide), (fun h0 => trivial), (fun h0 => trivial), ⟨⟨fun _ => x_TLM_p0_0, fun h9 => absurd x_IMG1_p1 h9⟩, trivial⟩, (fun _ => trivial), (fun _ => trivial)⟩, hw.1, hw.2.2.2.2.1⟩, by rw [ht]; exact hw.2.1, va_K.moved hW.alike hK, hw.2.2.1⟩, hw.2.2.2.1.F ht⟩) hw.2.2.2.1.2.2 dX10_book_172
      · have r_x3 : RI x3 0 0 := rc_eq1 r_x3 rl_0 (ti_eq c_164) (by decide)
        refine lv_iconst (v := (-1)) hx hb dX10_book_167 (by decide) ?_
        refine lv_goto (tgt := 172) hx hb dX10_book_168 (by decide) ?_
        subst hQ
        exact W.iret (v := (-1)) hx hb hr (fun t ht hW => ⟨⟨(-1), ws, rfl, ⟨⟨x_HD_p0_gdR, rl_m1.to (by decide), (fun _ => trivial), (fun h0 => trivial), ⟨⟨fun _ => x_TLM_p0_0, fun h9 => absurd x_IMG1_p1 h9⟩, trivial⟩, (fun _ => trivial), (fun _ => trivial)⟩, hw.1, hw.2.2.2.2.1⟩, by rw [ht]; exact hw.2.1, va_K.moved hW.alike hK, hw.2.2.1⟩, hw.2.2.2.1.F ht⟩) hw.2.2.2.1.2.2 dX10_book_172
    · have r_p1 : RI p1 1 1 := rc_eq1 r_p1 rl_1 (ti_eq c_148) (by decide)
      refine lv_iload_n hx hb dX10_book_151 rfl (lv_at hl 2 rfl) ?_
      refine lv_if_le (tgt := 159) hx hb dX10_book_152 (by decide) (fun c_152 => ?_) (fun c_152 => ?_)
      · have r_x2 : RI x2 0 0 := rc_le1 r_x2 rl_0 (ti_le c_152) (by decide)
        refine lv_iconst (v := 0) hx hb dX10_book_159 (by decide) ?_
        have hw8 := hw
        refine tk_v (va_runV (As := [.int 0]) (rest := []) ⟨hx, hb, hml, hown, hts⟩ (c_X10_stay__1 l D cy z H.size Ps ws hw.1 p0 0 (gdR) h_p0 (rl_0.to (by decide)) x_HD_p0_gdR) (cwV 1 hts (gV tw_1739 tw_1741 ts_110 tw_15 tw_1742) rfl rfl rfl (by decide +kernel) ⟨Nat.le_of_ble_eq_true rfl, Nat.le_of_ble_eq_true rfl⟩) (tg_preV hw hK hSD hA (ci := 10) (q := (RX10, TX10, 49)) rfl h_p0 rfl) rfl rfl hl.1 rfl (lv_room (Nat.le_of_ble_eq_true rfl)) dX10_book_160 ⟨Nat.le_of_ble_eq_true rfl, Nat.le_of_ble_eq_true rfl⟩) hw hA ⟨by decide, by decide⟩ (fun ws H locs hp_v_7 hw hF9 => ?_)
        have m_z0_2 := FLD.over hF9 m_z0_2 (by decide)
        have m_z0_7 := FLD.over hF9 m_z0_7 (by decide)
        have m_z0_42 := FLD.over hF9 m_z0_42 (by decide)
        have m_u_1 := FLD.over hF9 m_u_1 (by decide)
        have m_u_2 := FLD.over hF9 m_u_2 (by decide)
        have n_k_5 := FLD.over hF9 n_k_5 (by decide)
        have x_LNS_p0 := LNS.over hF9 x_LNS_p0 (by decide)
        have x_TLM_p0_0 := TLM.over hF9 x_TLM_p0_0 (by decide)
        obtain ⟨x_HD_p0_gdR, hp_v_7⟩ := hp_v_7
        refine lv_iload_n hx hb dX10_book_163 rfl (lv_at hl 3 rfl) ?_
        refine lv_if_ne (tgt := 171) hx hb dX10_book_164 (by decide) (fun c_164 => ?_) (fun c_164 => ?_)
        · have r_x3 : RI x3 1 61 := rc_neL r_x3 rl_0 (ti_ne c_164) (by decide)
          refine lv_iload_n hx hb dX10_book_171 rfl (lv_at hl 2 rfl) ?_
          subst hQ
          exact W.iret (v := x2) hx hb hr (fun t ht hW => ⟨⟨x2, ws, rfl, ⟨⟨x_HD_p0_gdR, r_x2.to (by decide), (fun h0 => trivial), (fun _ => trivial), ⟨⟨fun _ => x_TLM_p0_0, fun h9 => absurd x_IMG1_p1 h9⟩, trivial⟩, (fun _ => trivial), (fun _ => trivial)⟩, hw.1, hw.2.2.2.2.1⟩, by rw [ht]; exact hw.2.1, va_K.moved hW.alike hK, hw.2.2.1⟩, hw.2.2.2.1.F ht⟩) hw.2.2.2.1.2.2 dX10_book_172
        · have r_x3 : RI x3 0 0 := rc_eq1 r_x3 rl_0 (ti_eq c_164) (by decide)
          refine lv_iconst (v := (-1)) hx hb dX10_book_167 (by decide) ?_
          refine lv_goto (tgt := 172) hx hb dX10_book_168 (by decide) ?_
          subst hQ
          exact W.iret (v := (-1)) hx hb hr (fun t ht hW => ⟨⟨(-1), ws, rfl, ⟨⟨x_HD_p0_gdR, rl_m1.to (by decide), (fun _ => trivial), (fun h0 => trivial), ⟨⟨fun _ => x_TLM_p0_0, fun h9 => absurd x_IMG1_p1 h9⟩, trivial⟩, (fun _ => trivial), (fun _ => trivial)⟩, hw.1, hw.2.2.2.2.1⟩, by rw [ht]; exact hw.2.1, va_K.moved hW.alike hK, hw.2.2.1⟩, hw.2.2.2.1.F ht⟩) hw.2.2.2.1.2.2 dX10_book_172
      · have r_x2 : RI x2 1 40 := rc_lt2 rl_0 r_x2 (ti_nle c_152) (by decide)
        refine lv_iconst (v := 1) hx hb dX10_book_155 (by decide) ?_
        refine lv_goto (tgt := 160) hx hb dX10_book_156 (by decide) ?_
        have hw8 := hw
        refine tk_v (va_runV (As := [.int 1]) (rest := []) ⟨hx, hb, hml, hown, hts⟩ (c_X10_stay__1 l D cy z H.size Ps ws hw.1 p0 1 (gdR) h_p0 (rl_1.to (by decide)) x_HD_p0_gdR) (cwV 1 hts (gV tw_1739 tw_1741 ts_110 tw_15 tw_1742) rfl rfl rfl (by decide +kernel) ⟨Nat.le_of_ble_eq_true rfl, Nat.le_of_ble_eq_true rfl⟩) (tg_preV hw hK hSD hA (ci := 10) (q := (RX10, TX10, 49)) rfl h_p0 rfl) rfl rfl hl.1 rfl (lv_room (Nat.le_of_ble_eq_true rfl)) dX10_book_160 ⟨Nat.le_of_ble_eq_true rfl, Nat.le_of_ble_eq_true rfl⟩) hw hA ⟨by decide, by decide⟩ (fun ws H locs hp_v_8 hw hF9 => ?_)
        have m_z0_2 := FLD.over hF9 m_z0_2 (by decide)
        have m_z0_7 := FLD.over hF9 m_z0_7 (by decide)
        have m_z0_42 := FLD.over hF9 m_z0_42 (by decide)
        have m_u_1 := FLD.over hF9 m_u_1 (by decide)
        have m_u_2 := FLD.over hF9 m_u_2 (by decide)
        have n_k_5 := FLD.over hF9 n_k_5 (by decide)
        have x_LNS_p0 := LNS.over hF9 x_LNS_p0 (by decide)
        have x_TLM_p0_0 := TLM.over hF9 x_TLM_p0_0 (by decide)
        obtain ⟨x_HD_p0_gdR, hp_v_8⟩ := hp_v_8
        refine lv_iload_n hx hb dX10_book_163 rfl (lv_at hl 3 rfl) ?_
        refine lv_if_ne (tgt := 171) hx hb dX10_book_164 (by decide) (fun c_164 => ?_) (fun c_164 => ?_)
        · have r_x3 : RI x3 1 61 := rc_neL r_x3 rl_0 (ti_ne c_164) (by decide)
          refine lv_iload_n hx hb dX10_book_171 rfl (lv_at hl 2 rfl) ?_
          subst hQ
          exact W.iret (v := x2) hx hb hr (fun t ht hW => ⟨⟨x2, ws, rfl, ⟨⟨x_HD_p0_gdR, r_x2.to (by decide), (fun _ => trivial), (fun h0 => trivial), ⟨⟨fun _ => x_TLM_p0_0, fun h9 => absurd x_IMG1_p1 h9⟩, trivial⟩, (fun _ => trivial), (fun _ => trivial)⟩, hw.1, hw.2.2.2.2.1⟩, by rw [ht]; exact hw.2.1, va_K.moved hW.alike hK, hw.2.2.1⟩, hw.2.2.2.1.F ht⟩) hw.2.2.2.1.2.2 dX10_book_172
        · have r_x3 : RI x3 0 0 := rc_eq1 r_x3 rl_0 (ti_eq c_164) (by decide)
          refine lv_iconst (v := (-1)) hx hb dX10_book_167 (by decide) ?_
          refine lv_goto (tgt := 172) hx hb dX10_book_168 (by decide) ?_
          subst hQ
          exact W.iret (v := (-1)) hx hb hr (fun t ht hW => ⟨⟨(-1), ws, rfl, ⟨⟨x_HD_p0_gdR, rl_m1.to (by decide), (fun _ => trivial), (fun h0 => trivial), ⟨⟨fun _ => x_TLM_p0_0, fun h9 => absurd x_IMG1_p1 h9⟩, trivial⟩, (fun _ => trivial), (fun _ => trivial)⟩, hw.1, hw.2.2.2.2.1⟩, by rw [ht]; exact hw.2.1, va_K.moved hW.alike hK, hw.2.2.1⟩, hw.2.2.2.1.F ht⟩) hw.2.2.2.1.2.2 dX10_book_172
  have B73 : ∀ (nf : Nat) (x2 : Int32) (x3 : Int32) (z0_2 : Int32) (z0_7 : Int32) (z0_42 : Int32) (ws : va_W) (H : Heap) (locs : List Loc) (ls : Array Slot), 2 * (41 - x2.toInt) + 1 - min x3.toInt 1 < (nf : Int) → RI p1 0 1 → RI x2 0 40 → RI x3 0 61 → RI z0_2 0 0 → FLD ws p0 10 2 (.int z0_2) → RI z0_7 0 0 → FLD ws p0 10 7 (.int z0_7) → RI z0_42 0 40 → FLD ws p0 10 42 (.int z0_42) → AX 14 34 (HDp gdR) Ps ws p0 → (0 ≤ Int32.toInt p1 ∧ Int32.toInt p1 ≤ 1) → LNS Ps ws p0 → TLM ws p0 (0) → WD D cy GG A s wr_X10_book__2 wa_X10_book__2 Ps w0 Ps ws H locs → lv_has ls 4 [(0, .ref p0), (1, .int p1), (2, .int x2), (3, .int x3)] → W p l e (headSpec (Cond.code yX10_book cX10_book 4 (some .int) :: gT) ({ frames := 8, cells := 0, slots := 0, locals := 1600 } : Room)).room s m ([.ref p0, .int p1] : List Value).toArray below meth c H locs 0 0 Q (F0 m 73 ls []) := by
    intro nf73
    induction nf73 with
    | zero =>
      intro x2 x3 z0_2 z0_7 z0_42 ws H locs ls hn73 r_p1 r_x2 r_x3 r_z0_2 m_z0_2 r_z0_7 m_z0_7 r_z0_42 m_z0_42 x_HD_p0_gdR x_IMG1_p1 x_LNS_p0 x_TLM_p0_0 hw hl
      exact absurd hn73 (by have q0 := r_x2.1; have u0 := r_x2.2; have q1 := r_x3.1; have u1 := r_x3.2; omega)
    | succ nf73 ih73 =>
      intro x2 x3 z0_2 z0_7 z0_42 ws H locs ls hn73 r_p1 r_x2 r_x3 r_z0_2 m_z0_2 r_z0_7 m_z0_7 r_z0_42 m_z0_42 x_HD_p0_gdR x_IMG1_p1 x_LNS_p0 x_TLM_p0_0 hw hl
      refine lv_iload_n hx hb dX10_book_73 rfl (lv_at hl 2 rfl) ?_
      refine lv_aload_n hx hb dX10_book_74 rfl (lv_at hl 0 rfl) ?_
      refine tg_mem (ci := 10) (C := RX10) (T := TX10) (N := 49) hx hb hts inX10 hown hK hw 42 m_z0_42 rfl (by decide) (hts _ tw_1179) (fun _ h9 => h9) dX10_book_75 ?_
      refine lv_icmp_ge (tgt := 103) hx hb dX10_book_78 (by decide) (fun c_78 => ?_) (fun c_78 => ?_)
      · exact B103 x2 x3 z0_2 z0_7 z0_42 ws _ _ ls r_p1 r_x2 r_x3 r_z0_2 m_z0_2 r_z0_7 m_z0_7 r_z0_42 m_z0_42 x_HD_p0_gdR x_IMG1_p1 x_LNS_p0 x_TLM_p0_0 hw hl
      · have r_x2 : RI x2 0 39 := rc_lt1 r_x2 r_z0_42 (ti_nle c_78) (by decide)
        have r_z0_42 : RI z0_42 1 40 := rc_lt2 r_x2 r_z0_42 (ti_nle c_78) (by decide)
        refine lv_iload_n hx hb dX10_book_81 rfl (lv_at hl 3 rfl) ?_
        refine lv_if_ne (tgt := 103) hx hb dX10_book_82 (by decide) (fun c_82 => ?_) (fun c_82 => ?_)
        · have r_x3 : RI x3 1 61 := rc_neL r_x3 rl_0 (ti_ne c_82) (by decide)
          exact B103 x2 x3 z0_2 z0_7 z0_42 ws _ _ ls r_p1 (r_x2.to (by decide)) (r_x3.to (by decide)) r_z0_2 m_z0_2 r_z0_7 m_z0_7 (r_z0_42.to (by decide)) m_z0_42 x_HD_p0_gdR x_IMG1_p1 x_LNS_p0 x_TLM_p0_0 hw hl
        · have r_x3 : RI x3 0 0 := rc_eq1 r_x3 rl_0 (ti_eq c_82) (by decide)
          refine lv_aload_n hx hb dX10_book_85 rfl (lv_at hl 0 rfl) ?_
          refine lv_iconst (v := 3) hx hb dX10_book_86 (by decide) ?_
          refine lv_iload_n hx hb dX10_book_87 rfl (lv_at hl 2 rfl) ?_
          refine lv_imul hx hb dX10_book_88 (lv_topi (fun v_9 e_v_9 => ?_))
          obtain ⟨t_v_9, r_v_9⟩ := tq_mul (lo := 0) (hi := 117) rl_3 r_x2 (by decide +kernel) e_v_9
          have t_v_9 : v_9.toInt = 3 * x2.toInt := t_v_9
          have x_GL_p0_v_9 : AX 40 52 (fun f => GLk f (Int32.toNatClampNeg v_9)) Ps ws p0 := LNS.gl (k := x2) hw x_LNS_p0 m_z0_42 r_x2.1 (ti_nle c_78) t_v_9
          refine tk_i (va_runV (As := [.int v_9]) (rest := []) ⟨hx, hb, hml, hown, hts⟩ (c_X10_goBy__1 l D cy z H.size Ps ws hw.1 p0 v_9 (gdR) h_p0 r_v_9 x_GL_p0_v_9 x_HD_p0_gdR) (cwV 1 hts (gV tw_1735 tw_1737 ts_109 tw_15 tw_1738) rfl rfl rfl (by decide +kernel) ⟨Nat.le_of_ble_eq_true rfl, Nat.le_of_ble_eq_true rfl⟩) (tg_preV hw hK hSD hA (ci := 10) (q := (RX10, TX10, 49)) rfl h_p0 rfl) rfl rfl hl.1 rfl (lv_room (Nat.le_of_ble_eq_true rfl)) dX10_book_89 ⟨Nat.le_of_ble_eq_true rfl, Nat.le_of_ble_eq_true rfl⟩) hw hA ⟨by decide, by decide⟩ (fun v_10 ws H locs hp_v_10 hw hF9 => ?_)
          have m_z0_2 := FLD.over hF9 m_z0_2 (by decide)
          have m_z0_7 := FLD.over hF9 m_z0_7 (by decide)
          have m_z0_42 := FLD.over hF9 m_z0_42 (by decide)
          have x_LNS_p0 := LNS.over hF9 x_LNS_p0 (by decide)
          have x_TLM_p0_0 := TLM.over hF9 x_TLM_p0_0 (by decide)
          have x_GL_p0_v_9 := AX.over hF9 x_GL_p0_v_9 (by decide)
          obtain ⟨x_HD_p0_gdR, hp_v_10⟩ := hp_v_10
          have r_v_10 : RI v_10 0 61 := hp_v_10.1
          refine lv_istore_n (lv' := [(3, .int v_10), (0, .ref p0), (1, .int p1), (2, .int x2)]) hx hb dX10_book_92 rfl hl (by decide) rfl (fun ls hl => ?_)
          refine lv_iload_n hx hb dX10_book_93 rfl (lv_at hl 0 rfl) ?_
          refine lv_if_ne (tgt := 73) hx hb dX10_book_94 (by decide) (fun c_94 => ?_) (fun c_94 => ?_)
          · have r_v_10 : RI v_10 1 61 := rc_neL r_v_10 rl_0 (ti_ne c_94) (by decide)
            exact ih73 x2 v_10 z0_2 z0_7 z0_42 ws _ _ ls (by have q0 := r_x2.1; have u0 := r_x2.2; have q1 := r_v_10.1; have u1 := r_v_10.2; have o1 := r_x3.1; have p1 := r_x3.2; omega) r_p1 (r_x2.to (by decide)) (r_v_10.to (by decide)) r_z0_2 m_z0_2 r_z0_7 m_z0_7 (r_z0_42.to (by decide)) m_z0_42 x_HD_p0_gdR x_IMG1_p1 x_LNS_p0 x_TLM_p0_0 hw (lv_sub hl [1, 2, 3, 0] rfl)
          · have r_v_10 : RI v_10 0 0 := rc_eq1 r_v_10 rl_0 (ti_eq c_94) (by decide)
            obtain ⟨v_11, e_v_11⟩ : ∃ q9 : Int32, q9 = x2 + Int32.ofInt 1 := ⟨_, rfl⟩
            obtain ⟨t_v_11, r_v_11⟩ := tq_add (lo := 1) (hi := 40) r_x2 (show RI (Int32.ofInt 1) 1 1 by unfold RI; decide +kernel) (by decide +kernel) e_v_11
            have t_v_11 : v_11.toInt = x2.toInt + 1 := t_v_11
            refine lv_iinc (v := v_11) (lv' := [(2, .int v_11), (3, .int v_10), (0, .ref p0), (1, .int p1)]) hx hb dX10_book_97 hl (k := 3) rfl e_v_11.symm (by decide) rfl (fun ls hl => ?_)
            refine lv_goto (tgt := 73) hx hb dX10_book_100 (by decide) ?_
            exact ih73 v_11 v_10 z0_2 z0_7 z0_42 ws _ _ ls (by have q0 := r_v_11.1; have u0 := r_v_11.2; have q1 := r_v_10.1; have u1 := r_v_10.2; have o0 := r_x2.1; have p0 := r_x2.2; have o1 := r_x3.1; have p1 := r_x3.2; omega) r_p1 (r_v_11.to (by decide)) (r_v_10.to (by decide)) r_z0_2 m_z0_2 r_z0_7 m_z0_7 (r_z0_42.to (by decide)) m_z0_42 x_HD_p0_gdR x_IMG1_p1 x_LNS_p0 x_TLM_p0_0 hw (lv_sub hl [2, 3, 0, 1] rfl)
  have B30 : ∀ (nf : Nat) (z0_2 : Int32) (z0_42 : Int32) (ws : va_W) (H : Heap) (locs : List Loc) (ls : Array Slot), 40 - z0_42.toInt < (nf : Int) → RI p1 0 1 → RI z0_2 0 0 → FLD ws p0 10 2 (.int z0_2) → RI z0_42 0 40 → FLD ws p0 10 42 (.int z0_42) → AX 14 34 (HDp gdR) Ps ws p0 → (0 ≤ Int32.toInt p1 ∧ Int32.toInt p1 ≤ 1) → TLM ws p0 (0) → LNS Ps ws p0 → WD D cy GG A s wr_X10_book__2 wa_X10_book__2 Ps w0 Ps ws H locs → lv_has ls 4 [(0, .ref p0), (1, .int p1)] → W p l e (headSpec (Cond.code yX10_book cX10_book 4 (some .int) :: gT) ({ frames := 8, cells := 0, slots := 0, locals := 1600 } : Room)).room s m ([.ref p0, .int p1] : List Value).toArray below meth c H locs 0 0 Q (F0 m 30 ls []) := by
    intro nf30
    induction nf30 with
    | zero =>
      intro z0_2 z0_42 ws H locs ls hn30 r_p1 r_z0_2 m_z0_2 r_z0_42 m_z0_42 x_HD_p0_gdR x_IMG1_p1 x_TLM_p0_0 x_LNS_p0 hw hl
      exact absurd hn30 (by have q0 := r_z0_42.1; have u0 := r_z0_42.2; omega)
    | succ nf30 ih30 =>
      intro z0_2 z0_42 ws H locs ls hn30 r_p1 r_z0_2 m_z0_2 r_z0_42 m_z0_42 x_HD_p0_gdR x_IMG1_p1 x_TLM_p0_0 x_LNS_p0 hw hl
      refine lv_aload_n hx hb dX10_book_30 rfl (lv_at hl 0 rfl) ?_
      refine tg_get (ci := 10) (ts := ty_MODEL) (C := RX10) (T := TX10) (N := 49) hx hb hts inX10 hown hK hw h_p0 rfl rfl 7 (by decide) (hts _ tw_1144) (fun _ h9 => h9) (ft := vI (-2147483648) 2147483647) rfl dX10_book_31 (fun u_12 hv_u_12 m_u_12 => ?_)
      obtain ⟨vu_12, rfl, r_vu_12⟩ := hv_u_12
      refine lv_if_eq (tgt := 65) hx hb dX10_book_34 (by decide) (fun c_34 => ?_) (fun c_34 => ?_)
      · have r_vu_12 : RI vu_12 0 0 := rc_eq1 r_vu_12 rl_0 (ti_eq c_34) (by decide)
        refine lv_aload_n hx hb dX10_book_65 rfl (lv_at hl 0 rfl) ?_
        refine tk_v (va_runV (As := []) (rest := []) ⟨hx, hb, hml, hown, hts⟩ (c_X10_layAside l D cy z H.size Ps ws hw.1 p0 h_p0) (cwV 0 hts (gV tw_1583 tw_1585 ts_88 tw_15 tw_1586) rfl rfl rfl (by decide +kernel) ⟨Nat.le_of_ble_eq_true rfl, Nat.le_of_ble_eq_true rfl⟩) (tg_preV hw hK hSD hA (ci := 10) (q := (RX10, TX10, 49)) rfl h_p0 rfl) rfl rfl hl.1 rfl (lv_room (Nat.le_of_ble_eq_true rfl)) dX10_book_66 ⟨Nat.le_of_ble_eq_true rfl, Nat.le_of_ble_eq_true rfl⟩) hw hA ⟨by decide, by decide⟩ (fun ws H locs hp_v_13 hw hF9 => ?_)
        have m_z0_2 := FLD.over hF9 m_z0_2 (by decide)
        have m_z0_42 := FLD.over hF9 m_z0_42 (by decide)
        have m_u_12 := FLD.over hF9 m_u_12 (by decide)
        have x_HD_p0_gdR := AX.over hF9 x_HD_p0_gdR (by decide)
        have x_TLM_p0_0 := TLM.over hF9 x_TLM_p0_0 (by decide)
        have x_LNS_p0 := LNS.over hF9 x_LNS_p0 (by decide)
        refine lv_iconst (v := 0) hx hb dX10_book_69 (by decide) ?_
        refine lv_istore_n (lv' := [(2, .int 0), (0, .ref p0), (1, .int p1)]) hx hb dX10_book_70 rfl hl (by decide) rfl (fun ls hl => ?_)
        refine lv_iconst (v := 0) hx hb dX10_book_71 (by decide) ?_
        refine lv_istore_n (lv' := [(3, .int 0), (2, .int 0), (0, .ref p0), (1, .int p1)]) hx hb dX10_book_72 rfl hl (by decide) rfl (fun ls hl => ?_)
        exact B73 4294967298 0 0 z0_2 vu_12 z0_42 ws _ _ ls (by have q0 := rl_0.1; have u0 := rl_0.2; have q1 := rl_0.1; have u1 := rl_0.2; omega) r_p1 (rl_0.to (by decide)) (rl_0.to (by decide)) r_z0_2 m_z0_2 r_vu_12 m_u_12 r_z0_42 m_z0_42 x_HD_p0_gdR x_IMG1_p1 x_LNS_p0 x_TLM_p0_0 hw (lv_sub hl [2, 3, 1, 0] rfl)
      · refine lv_aload_n hx hb dX10_book_37 rfl (lv_at hl 0 rfl) ?_
        refine tk_i (va_runV (As := []) (rest := []) ⟨hx, hb, hml, hown, hts⟩ (c_X10_readBookLine l D cy z H.size Ps ws hw.1 p0 h_p0 x_LNS_p0) (cwV 0 hts (gV tw_1711 tw_1713 ts_103 tw_15 tw_1714) rfl rfl rfl (by decide +kernel) ⟨Nat.le_of_ble_eq_true rfl, Nat.le_of_ble_eq_true rfl⟩) (tg_preV hw hK hSD hA (ci := 10) (q := (RX10, TX10, 49)) rfl h_p0 rfl) rfl rfl hl.1 rfl (lv_room (Nat.le_of_ble_eq_true rfl)) dX10_book_38 ⟨Nat.le_of_ble_eq_true rfl, Nat.le_of_ble_eq_true rfl⟩) hw hA ⟨by decide, by decide⟩ (fun v_14 ws H locs hp_v_14 hw hF9 => ?_)
        have m_z0_2 := FLD.over hF9 m_z0_2 (by decide)
        have m_z0_42 := FLD.over hF9 m_z0_42 (by decide)
        have x_HD_p0_gdR := AX.over hF9 x_HD_p0_gdR (by decide)
        have x_TLM_p0_0 := TLM.over hF9 x_TLM_p0_0 (by decide)
        have r_v_14 : RI v_14 0 1 := hp_v_14.1
        by_cases c9_v_14 : v_14 = 0
        · have r_v_14 : RI v_14 0 0 := by rw [c9_v_14]; exact rl_0
          refine lv_if_ne (tgt := 52) hx hb dX10_book_41 (by decide) (fun c_41 => ?_) (fun c_41 => ?_)
          · exact absurd (r_v_14.eq.trans rl_0.eq.symm) ((ti_ne c_41))
          · refine lv_bipush (v := (-2)) hx hb dX10_book_44 (by decide) ?_
            refine lv_aload_n hx hb dX10_book_46 rfl (lv_at hl 0 rfl) ?_
            refine tg_get (ci := 10) (ts := ty_MODEL) (C := RX10) (T := TX10) (N := 49) hx hb hts inX10 hown hK hw h_p0 rfl rfl 11 (by decide) (hts _ tw_1148) (fun _ h9 => h9) (ft := vI (-2147483648) 2147483647) rfl dX10_book_47 (fun u_15 hv_u_15 m_u_15 => ?_)
            obtain ⟨vu_15, rfl, r_vu_15⟩ := hv_u_15
            refine lv_isub hx hb dX10_book_50 (lv_topi (fun v_16 e_v_16 => ?_))
            have r_v_16 := ri_any v_16
            subst hQ
            exact W.iret (v := v_16) hx hb hr (fun t ht hW => ⟨⟨v_16, ws, rfl, ⟨⟨x_HD_p0_gdR, r_v_16.to (by decide), (fun h0 => trivial), (fun h0 => trivial), ⟨⟨fun _ => x_TLM_p0_0, fun h9 => absurd x_IMG1_p1 h9⟩, trivial⟩, (fun _ => trivial), (fun _ => trivial)⟩, hw.1, hw.2.2.2.2.1⟩, by rw [ht]; exact hw.2.1, va_K.moved hW.alike hK, hw.2.2.1⟩, hw.2.2.2.1.F ht⟩) hw.2.2.2.1.2.2 dX10_book_51
        · have r_v_14 : RI v_14 1 1 := rc_neL r_v_14 rl_0 (ti_ne c9_v_14) (by decide)
          obtain ⟨v_17, m_v_17, r_v_17⟩ := ((hp_v_14.2.2 c9_v_14).1)
          have e_v_17 : v_17 = z0_42 := by have q9 := FLD.inj hw.2.2.1 m_v_17 m_z0_42; cases q9; rfl
          rw [e_v_17] at r_v_17
          have x_LNG_p0 := ((hp_v_14.2.2 c9_v_14).2.1)
          refine lv_if_ne (tgt := 52) hx hb dX10_book_41 (by decide) (fun c_41 => ?_) (fun c_41 => ?_)
          · refine lv_aload_n hx hb dX10_book_52 rfl (lv_at hl 0 rfl) ?_
            refine lv_dup hx hb dX10_book_53 rfl ?_
            refine tg_mem (ci := 10) (C := RX10) (T := TX10) (N := 49) hx hb hts inX10 hown hK hw 42 m_z0_42 rfl (by decide) (hts _ tw_1179) (fun _ h9 => h9) dX10_book_54 ?_
            refine lv_iconst (v := 1) hx hb dX10_book_57 (by decide) ?_
            refine lv_iadd hx hb dX10_book_58 (lv_topi (fun v_18 e_v_18 => ?_))
            obtain ⟨t_v_18, r_v_18⟩ := tq_add (lo := 1) (hi := 40) r_v_17 rl_1 (by decide +kernel) e_v_18
            have t_v_18 : v_18.toInt = z0_42.toInt + 1 := t_v_18
            have x_LA := LNG.get hw x_LNG_p0 m_z0_42
            refine tg_put (ci := 10) (ts := ty_MODEL) (v := .int v_18) (ty := .int) (C := RX10) (T := TX10) (N := 49) hx hb hts inX10 tyX10 tyX10_ok nmX10 hown hK hw h_p0 rfl rfl 42 (by decide) (hts _ tw_1179) (fun _ h9 => h9) rfl (by decide +kernel) rfl rfl (ft := vI 0 40) rfl ⟨_, rfl, (r_v_18.to (by decide))⟩ (by decide) dX10_book_59 (fun ws H locs hw n_k_19 hF9 => ?_)
            have m_z0_2 := FLD.over hF9 m_z0_2 (by decide)
            have x_HD_p0_gdR := AX.over hF9 x_HD_p0_gdR (by decide)
            have x_TLM_p0_0 := TLM.over hF9 x_TLM_p0_0 (by decide)
            have x_LA := AX.over hF9 x_LA (by decide)
            have x_LNS_p0 : LNS Ps ws p0 := ⟨_, n_k_19, AX.imp x_LA (fun f9 h9 => fun j9 q9 => h9 j9 (by have k1 := t_v_18; omega))⟩
            refine lv_goto (tgt := 30) hx hb dX10_book_62 (by decide) ?_
            exact ih30 z0_2 v_18 ws _ _ ls (by have q0 := r_v_18.1; have u0 := r_v_18.2; have o0 := r_v_17.1; have p0 := r_v_17.2; omega) r_p1 r_z0_2 m_z0_2 (r_v_18.to (by decide)) n_k_19 x_HD_p0_gdR x_IMG1_p1 x_TLM_p0_0 x_LNS_p0 hw hl
          · have r_v_14 : RI v_14 1 0 := rc_eq1 r_v_14 rl_0 (ti_eq c_41) (by decide)
            exact (r_v_14.no (by decide)).elim
  refine lv_aload_n hx hb dX10_book_0 rfl (lv_at hl 0 rfl) ?_
  refine lv_iconst (v := 0) hx hb dX10_book_1 (by decide) ?_
  refine tg_put (ci := 10) (ts := ty_MODEL) (v := .int 0) (ty := .int) (C := RX10) (T := TX10) (N := 49) hx hb hts inX10 tyX10 tyX10_ok nmX10 hown hK hw h_p0 rfl rfl 0 (by decide) (hts _ tw_1137) (fun _ h9 => h9) rfl (by decide +kernel) rfl rfl (ft := vI (-2147483648) 2147483647) rfl ⟨_, rfl, (rl_0.to (by decide))⟩ (by decide) dX10_book_2 (fun ws H locs hw n_k_20 hF9 => ?_)
  have x_TLM_p0_gh := TLM.over hF9 x_TLM_p0_gh (by decide)
  have x_HD_p0_gdR := AX.over hF9 x_HD_p0_gdR (by decide)
  refine lv_iload_n hx hb dX10_book_5 rfl (lv_at hl 1 rfl) ?_
  refine lv_iconst (v := 0) hx hb dX10_book_6 (by decide) ?_
  refine lv_iconst (v := 1) hx hb dX10_book_7 (by decide) ?_
  refine tk_ir (va_runS (As := [.int p1, .int 0, .int 1]) (rest := []) ⟨hx, hb, hml, hown, hts⟩ (c_X10_isIn__12 l D cy z H.size Ps ws hw.1 p1 0 1 r_p1 rl_0 rl_1) (va_cwS 3 hts (gS tw_1359 tw_1360 tw_15 tw_1361) rfl rfl rfl (by decide +kernel) ⟨Nat.le_of_ble_eq_true rfl, Nat.le_of_ble_eq_true rfl⟩) (tg_preS hw hK hSD hA) rfl rfl hl.1 rfl (lv_room (Nat.le_of_ble_eq_true rfl)) dX10_book_8 ⟨Nat.le_of_ble_eq_true rfl, Nat.le_of_ble_eq_true rfl⟩) hw hA (fun v_21  H locs hp_v_21 hw => ?_)
  have r_v_21 : RI v_21 0 1 := hp_v_21.1
  by_cases c9_v_21 : v_21 = 0
  · have r_v_21 : RI v_21 0 0 := by rw [c9_v_21]; exact rl_0
    have x_IMG0_p1 := ((hp_v_21.2.1 c9_v_21).1)
    refine lv_if_ne (tgt := 18) hx hb dX10_book_11 (by decide) (fun c_11 => ?_) (fun c_11 => ?_)
    · exact absurd (r_v_21.eq.trans rl_0.eq.symm) ((ti_ne c_11))
    · refine lv_sipush (v := (-1000)) hx hb dX10_book_14 (by decide) ?_
      subst hQ
      exact W.iret (v := (-1000)) hx hb hr (fun t ht hW => ⟨⟨(-1000), ws, rfl, ⟨⟨x_HD_p0_gdR, rl_m1000.to (by decide), (fun _ => trivial), (fun h0 => trivial), ⟨⟨fun h9 => absurd h9 x_IMG0_p1, fun _ => x_TLM_p0_gh⟩, trivial⟩, (fun _ => trivial), (fun _ => trivial)⟩, hw.1, hw.2.2.2.2.1⟩, by rw [ht]; exact hw.2.1, va_K.moved hW.alike hK, hw.2.2.1⟩, hw.2.2.2.1.F ht⟩) hw.2.2.2.1.2.2 dX10_book_17
  · have r_v_21 : RI v_21 1 1 := rc_neL r_v_21 rl_0 (ti_ne c9_v_21) (by decide)
    have r_p1 : RI p1 0 1 := ((hp_v_21.2.2 c9_v_21).1)
    have x_IMG1_p1 := ((hp_v_21.2.2 c9_v_21).2.1)
    refine lv_if_ne (tgt := 18) hx hb dX10_book_11 (by decide) (fun c_11 => ?_) (fun c_11 => ?_)
    · refine lv_aload_n hx hb dX10_book_18 rfl (lv_at hl 0 rfl) ?_
      refine lv_sipush (v := 400) hx hb dX10_book_19 (by decide) ?_
      refine tk_v (va_runV (As := [.int 400]) (rest := []) ⟨hx, hb, hml, hown, hts⟩ (c_X10_begin__8 l D cy z H.size Ps ws hw.1 p0 400 h_p0 rl_400) (cwV 1 hts (gV tw_1290 tw_1292 ts_38 tw_15 tw_1293) rfl rfl rfl (by decide +kernel) ⟨Nat.le_of_ble_eq_true rfl, Nat.le_of_ble_eq_true rfl⟩) (tg_preV hw hK hSD hA (ci := 10) (q := (RX10, TX10, 49)) rfl h_p0 rfl) rfl rfl hl.1 rfl (lv_room (Nat.le_of_ble_eq_true rfl)) dX10_book_22 ⟨Nat.le_of_ble_eq_true rfl, Nat.le_of_ble_eq_true rfl⟩) hw hA ⟨by decide, by decide⟩ (fun ws H locs hp_v_22 hw hF9 => ?_)
      have x_HD_p0_gdR := AX.over hF9 x_HD_p0_gdR (by decide)
      obtain ⟨v_23, m_v_23, r_v_23⟩ := (hp_v_22.1)
      have x_TLM_p0_0 := (hp_v_22.2.1)
      have x_TLM_p0_0 : TLM ws p0 (0) := by obtain ⟨v9, a9, b9⟩ := x_TLM_p0_0; exact ⟨v9, a9, (by omega)⟩
      refine lv_aload_n hx hb dX10_book_25 rfl (lv_at hl 0 rfl) ?_
      refine lv_iconst (v := 0) hx hb dX10_book_26 (by decide) ?_
      refine tg_put (ci := 10) (ts := ty_MODEL) (v := .int 0) (ty := .int) (C := RX10) (T := TX10) (N := 49) hx hb hts inX10 tyX10 tyX10_ok nmX10 hown hK hw h_p0 rfl rfl 42 (by decide) (hts _ tw_1179) (fun _ h9 => h9) rfl (by decide +kernel) rfl rfl (ft := vI 0 40) rfl ⟨_, rfl, (rl_0.to (by decide))⟩ (by decide) dX10_book_27 (fun ws H locs hw n_k_24 hF9 => ?_)
      have m_v_23 := FLD.over hF9 m_v_23 (by decide)
      have x_HD_p0_gdR := AX.over hF9 x_HD_p0_gdR (by decide)
      have x_TLM_p0_0 := TLM.over hF9 x_TLM_p0_0 (by decide)
      have x_LNS_p0 : LNS Ps ws p0 := ⟨_, n_k_24, AX.imp (lx_true hw h_p0) (fun f9 _ => fun j9 q9 => absurd q9 (by rw [Int32.toInt_zero]; omega))⟩
      exact B30 4294967298 v_23 0 ws _ _ ls (by have q0 := rl_0.1; have u0 := rl_0.2; omega) r_p1 r_v_23 m_v_23 (rl_0.to (by decide)) n_k_24 x_HD_p0_gdR x_IMG1_p1 x_TLM_p0_0 x_LNS_p0 hw hl
    · have r_v_21 : RI v_21 1 0 := rc_eq1 r_v_21 rl_0 (ti_eq c_11) (by decide)
      exact (r_v_21.no (by decide)).elim
abbrev wr_X10_live__15 : List (Nat × Nat) := []
abbrev wa_X10_live__15 : List Nat := [34]
set_option maxHeartbeats 4000000 in
set_option maxRecDepth 100000 in
theorem c_X10_live__15 (l : Launch) (D : va_G) (cy : Nat → ClassId) (z : Nat → Nat) (sz : Nat) (Ps : PSI) (w0 : va_W) (hT : HT cy GG Ps w0) (p0 : Nat) (p1 : Int32) (p2 : Int32) (p3 : Int32) (gdR : Nat → Int32) (h_p0 : (p0, 55) ∈ Ps) (r_p1 : RI p1 5 5) (r_p2 : RI p2 0 5) (r_p3 : RI p3 0 3) (x_HD_p0_gdR : AX 14 34 (HDp gdR) Ps w0 p0) : Met l yX10_live (Cond.code yX10_live cX10_live 4 none :: gT) ({ frames := 0, cells := 0, slots := 0, locals := 200 } : Room) (va_Pc [.ref p0, .int p1, .int p2, .int p3] (PRE D cy z w0 sz)) (va_Qv (fun (u : va_W) => ((AX 14 34 (HDp gdR) Ps u p0) ∧ (True)) ∧ HT cy GG Ps u ∧ FR wr_X10_live__15 wa_X10_live__15 Ps w0 u) (BB D cy (va_A w0 sz) (fun (u : va_W) => u)) (va_A w0 sz)) 0 0 (va_A w0 sz) := by
  refine Met.ofW (cc := cX10_live) (maxL := 4) (ret := none) (by decide) rfl ?_
  intro p e s m args below meth c s₁ B hml hv
  obtain ⟨rfl, hsz, hP, hK, hD0, hSD⟩ := hv
  have hx := B.exec
  have hb := B.bytes
  have hr := B.returns
  have hlocks := B.notSynchronized
  have hts : ∀ w ∈ gT, w.before _ s = true := fun w h => atoms_spec (ws := Cond.code yX10_live cX10_live 4 none :: gT) B.pre w (List.mem_cons_of_mem _ h)
  have hown : s.vm.findClass RX10 = some m.cls := findClass_of_methodNamed B.named
  subst hsz
  have hD := hD0.self (sz := s.heap.size)
  generalize hAe : va_A w0 s.heap.size = A at hD hSD ⊢
  have hA : ∀ q : Nat, s.heap.size ≤ q → A q := fun q h => by rw [← hAe]; exact Or.inr h
  have hl := lv_entry ([.ref p0, .int p1, .int p2, .int p3]) (n := 4) (Nat.le_of_ble_eq_true rfl)
  rw [lg_entry_eq]
  generalize (lg_sl ([.ref p0, .int p1, .int p2, .int p3]) ++ List.replicate (4 - (lg_sl ([.ref p0, .int p1, .int p2, .int p3])).length) Slot.unset).toArray = ls at hl ⊢
  have hl : lv_has ls 4 [(0, .ref p0), (1, .int p1), (2, .int p2), (3, .int p3)] := hl
  refine nameQ (fun Q hQ => ?_)
  have hw : WD D cy GG A s wr_X10_live__15 wa_X10_live__15 Ps w0 Ps w0 s.heap [] := ⟨hT, hP, hD, va_S.rf, FR.rf, hT.1, [], (List.append_nil _).symm⟩
  refine lv_iload_n hx hb dX10_live_0 rfl (lv_at hl 1 rfl) ?_
  have w_1 := r_p1
  by_cases cl_1 : p1.toInt < 0 ∨ 4 < p1.toInt
  · refine lv_tableOut (tgt := 90) hx hb dX10_live_1 cl_1 (by decide) ?_
    refine lv_aload_n hx hb dX10_live_90 rfl (lv_at hl 0 rfl) ?_
    refine tg_get (ci := 10) (ts := ty_MODEL) (C := RX10) (T := TX10) (N := 49) hx hb hts inX10 hown hK hw h_p0 rfl rfl 14 (by decide) (hts _ tw_1151) (fun _ h9 => h9) (ft := vR 34) rfl dX10_live_91 (fun u_1 hv_u_1 m_u_1 => ?_)
    obtain ⟨vu_1, rfl, h_vu_1⟩ := hv_u_1
    refine lv_bipush (v := 86) hx hb dX10_live_94 (by decide) ?_
    refine lv_iload_n hx hb dX10_live_96 rfl (lv_at hl 2 rfl) ?_
    refine lv_iadd hx hb dX10_live_97 (lv_topi (fun v_2 e_v_2 => ?_))
    obtain ⟨t_v_2, r_v_2⟩ := tq_add (lo := 86) (hi := 91) rl_86 r_p2 (by decide +kernel) e_v_2
    have t_v_2 : v_2.toInt = 86 + p2.toInt := t_v_2
    refine lv_iload_n hx hb dX10_live_98 rfl (lv_at hl 3 rfl) ?_
    refine tg_iast hx hb hK hw h_vu_1 rfl 86 91 r_v_2 (by decide) r_p3 (by decide +kernel) (RN_upd (by decide) (by decide)) (by decide) dX10_live_99 (fun ws H locs hw hF9 hU9 => ?_)
    have x_HD_p0_gdR : AX 14 34 (HDp gdR) Ps ws p0 := AX.ast hF9 hU9 x_HD_p0_gdR m_u_1 (fun f9 h9 => HDp.upd h9 (by have k1 := r_v_2.cl (by decide); have k2 := r_v_2.1; omega))
    have m_u_1 := FLD.over hF9 m_u_1 (by decide)
    subst hQ
    exact W.vret hx hb hr (fun t ht hW => ⟨⟨ws, rfl, ⟨⟨x_HD_p0_gdR, trivial⟩, hw.1, hw.2.2.2.2.1⟩, by rw [ht]; exact hw.2.1, va_K.moved hW.alike hK, hw.2.2.1⟩, hw.2.2.2.1.F ht⟩) hw.2.2.2.1.2.2 dX10_live_100
  · have e_1 : p1.toInt = 0 ∨ p1.toInt = 1 ∨ p1.toInt = 2 ∨ p1.toInt = 3 ∨ p1.toInt = 4 := by omega
    rcases e_1 with h_1 | h_1 | h_1 | h_1 | h_1
    · exact absurd h_1 (by unfold RI at w_1; omega)
    · exact absurd h_1 (by unfold RI at w_1; omega)
    · exact absurd h_1 (by unfold RI at w_1; omega)
    · exact absurd h_1 (by unfold RI at w_1; omega)
    · exact absurd h_1 (by unfold RI at w_1; omega)
abbrev wr_X10_act__6 : List (Nat × Nat) := [(10, 25)]
abbrev wa_X10_act__6 : List Nat := [34, 37]
set_option maxHeartbeats 4000000 in
set_option maxRecDepth 100000 in
theorem c_X10_act__6 (l : Launch) (D : va_G) (cy : Nat → ClassId) (z : Nat → Nat) (sz : Nat) (Ps : PSI) (w0 : va_W) (hT : HT cy GG Ps w0) (p0 : Nat) (p1 : Int32) (p2 : Int32) (p3 : Int32) (gdR : Nat → Int32) (h_p0 : (p0, 55) ∈ Ps) (r_p1 : RI p1 5 5) (r_p2 : RI p2 0 5) (r_p3 : RI p3 0 3) (x_HD_p0_gdR : AX 14 34 (HDp gdR) Ps w0 p0) : Met l yX10_act (Cond.code yX10_act cX10_act 5 (some .int) :: gT) ({ frames := 4, cells := 0, slots := 0, locals := 800 } : Room) (va_Pc [.ref p0, .int p1, .int p2, .int p3] (PRE D cy z w0 sz)) (va_Qi (fun (r : Int32) (u : va_W) => ((AX 14 34 (HDp gdR) Ps u p0) ∧ (RI r 0 2 ∧ (r = 0 → (∃ v9 : Int32, FLD u p0 10 25 (.int v9) ∧ RI v9 1 8) ∧ True) ∧ (¬ r = 0 → True))) ∧ HT cy GG Ps u ∧ FR wr_X10_act__6 wa_X10_act__6 Ps w0 u) (BB D cy (va_A w0 sz) (fun (u : va_W) => u)) (va_A w0 sz)) 0 0 (va_A w0 sz) := by
  refine Met.ofW (cc := cX10_act) (maxL := 5) (ret := (some .int)) (by decide) rfl ?_
  intro p e s m args below meth c s₁ B hml hv
  obtain ⟨rfl, hsz, hP, hK, hD0, hSD⟩ := hv
  have hx := B.exec
  have hb := B.bytes
  have hr := B.returns
  have hlocks := B.notSynchronized
  have hts : ∀ w ∈ gT, w.before _ s = true := fun w h => atoms_spec (ws := Cond.code yX10_act cX10_act 5 (some .int) :: gT) B.pre w (List.mem_cons_of_mem _ h)
  have hown : s.vm.findClass RX10 = some m.cls := findClass_of_methodNamed B.named
  subst hsz
  have hD := hD0.self (sz := s.heap.size)
  generalize hAe : va_A w0 s.heap.size = A at hD hSD ⊢
  have hA : ∀ q : Nat, s.heap.size ≤ q → A q := fun q h => by rw [← hAe]; exact Or.inr h
  have hl := lv_entry ([.ref p0, .int p1, .int p2, .int p3]) (n := 5) (Nat.le_of_ble_eq_true rfl)
  rw [lg_entry_eq]
  generalize (lg_sl ([.ref p0, .int p1, .int p2, .int p3]) ++ List.replicate (5 - (lg_sl ([.ref p0, .int p1, .int p2, .int p3])).length) Slot.unset).toArray = ls at hl ⊢
  have hl : lv_has ls 5 [(0, .ref p0), (1, .int p1), (2, .int p2), (3, .int p3)] := hl
  refine nameQ (fun Q hQ => ?_)
  have hw : WD D cy GG A s wr_X10_act__6 wa_X10_act__6 Ps w0 Ps w0 s.heap [] := ⟨hT, hP, hD, va_S.rf, FR.rf, hT.1, [], (List.append_nil _).symm⟩
  refine lv_aload_n hx hb dX10_act_0 rfl (lv_at hl 0 rfl) ?_
  refine lv_iload_n hx hb dX10_act_1 rfl (lv_at hl 1 rfl) ?_
  refine lv_iload_n hx hb dX10_act_2 rfl (lv_at hl 2 rfl) ?_
  refine lv_iload_n hx hb dX10_act_3 rfl (lv_at hl 3 rfl) ?_
  refine tk_ir (va_runV (As := [.int p1, .int p2, .int p3]) (rest := []) ⟨hx, hb, hml, hown, hts⟩ (c_X10_why l D cy z s.heap.size Ps w0 hw.1 p0 p1 p2 p3 h_p0 r_p1 r_p2 r_p3) (cwV 3 hts (gV tw_1501 tw_1503 ts_77 tw_15 tw_1504) rfl rfl rfl (by decide +kernel) ⟨Nat.le_of_ble_eq_true rfl, Nat.le_of_ble_eq_true rfl⟩) (tg_preV hw hK hSD hA (ci := 10) (q := (RX10, TX10, 49)) rfl h_p0 rfl) rfl rfl hl.1 rfl (lv_room (Nat.le_of_ble_eq_true rfl)) dX10_act_4 ⟨Nat.le_of_ble_eq_true rfl, Nat.le_of_ble_eq_true rfl⟩) hw hA (fun v_1  H locs hp_v_1 hw => ?_)
  have r_v_1 : RI v_1 0 2 := hp_v_1.1
  refine lv_istore (lv' := [(4, .int v_1), (0, .ref p0), (1, .int p1), (2, .int p2), (3, .int p3)]) hx hb dX10_act_7 hl (by decide) rfl (fun ls hl => ?_)
  refine lv_iload hx hb dX10_act_9 (lv_at hl 0 rfl) ?_
  refine lv_if_eq (tgt := 17) hx hb dX10_act_11 (by decide) (fun c_11 => ?_) (fun c_11 => ?_)
  · have r_v_1 : RI v_1 0 0 := rc_eq1 r_v_1 rl_0 (ti_eq c_11) (by decide)
    refine lv_aload_n hx hb dX10_act_17 rfl (lv_at hl 1 rfl) ?_
    refine tk_v (va_runV (As := []) (rest := []) ⟨hx, hb, hml, hown, hts⟩ (c_X10_snap l D cy z H.size Ps w0 hw.1 p0 h_p0) (cwV 0 hts (gV tw_1505 tw_1507 ts_78 tw_15 tw_1508) rfl rfl rfl (by decide +kernel) ⟨Nat.le_of_ble_eq_true rfl, Nat.le_of_ble_eq_true rfl⟩) (tg_preV hw hK hSD hA (ci := 10) (q := (RX10, TX10, 49)) rfl h_p0 rfl) rfl rfl hl.1 rfl (lv_room (Nat.le_of_ble_eq_true rfl)) dX10_act_18 ⟨Nat.le_of_ble_eq_true rfl, Nat.le_of_ble_eq_true rfl⟩) hw hA ⟨by decide, by decide⟩ (fun ws H locs hp_v_2 hw hF9 => ?_)
    have x_HD_p0_gdR := AX.over hF9 x_HD_p0_gdR (by decide)
    obtain ⟨v_3, m_v_3, r_v_3⟩ := (hp_v_2.1)
    refine lv_aload_n hx hb dX10_act_21 rfl (lv_at hl 1 rfl) ?_
    refine lv_iload_n hx hb dX10_act_22 rfl (lv_at hl 2 rfl) ?_
    refine lv_iload_n hx hb dX10_act_23 rfl (lv_at hl 3 rfl) ?_
    refine lv_iload_n hx hb dX10_act_24 rfl (lv_at hl 4 rfl) ?_
    refine tk_v (va_runV (As := [.int p1, .int p2, .int p3]) (rest := []) ⟨hx, hb, hml, hown, hts⟩ (c_X10_live__15 l D cy z H.size Ps ws hw.1 p0 p1 p2 p3 (gdR) h_p0 r_p1 r_p2 r_p3 x_HD_p0_gdR) (cwV 3 hts (gV tw_1509 tw_1511 ts_79 tw_15 tw_1512) rfl rfl rfl (by decide +kernel) ⟨Nat.le_of_ble_eq_true rfl, Nat.le_of_ble_eq_true rfl⟩) (tg_preV hw hK hSD hA (ci := 10) (q := (RX10, TX10, 49)) rfl h_p0 rfl) rfl rfl hl.1 rfl (lv_room (Nat.le_of_ble_eq_true rfl)) dX10_act_25 ⟨Nat.le_of_ble_eq_true rfl, Nat.le_of_ble_eq_true rfl⟩) hw hA ⟨by decide, by decide⟩ (fun ws H locs hp_v_4 hw hF9 => ?_)
    have m_v_3 := FLD.over hF9 m_v_3 (by decide)
    obtain ⟨x_HD_p0_gdR, hp_v_4⟩ := hp_v_4
    refine lv_iconst (v := 0) hx hb dX10_act_28 (by decide) ?_
    subst hQ
    exact W.iret (v := 0) hx hb hr (fun t ht hW => ⟨⟨0, ws, rfl, ⟨⟨x_HD_p0_gdR, rl_0.to (by decide), (fun h0 => ⟨⟨_, m_v_3, r_v_3⟩, trivial⟩), (fun _ => trivial)⟩, hw.1, hw.2.2.2.2.1⟩, by rw [ht]; exact hw.2.1, va_K.moved hW.alike hK, hw.2.2.1⟩, hw.2.2.2.1.F ht⟩) hw.2.2.2.1.2.2 dX10_act_29
  · have r_v_1 : RI v_1 1 2 := rc_neL r_v_1 rl_0 (ti_ne c_11) (by decide)
    refine lv_iload hx hb dX10_act_14 (lv_at hl 0 rfl) ?_
    subst hQ
    exact W.iret (v := v_1) hx hb hr (fun t ht hW => ⟨⟨v_1, w0, rfl, ⟨⟨x_HD_p0_gdR, r_v_1.to (by decide), (fun h0 => absurd (ti_eq h0) (by have h8 := r_v_1; unfold RI at h8; rw [Int32.toInt_zero]; omega)), (fun h0 => trivial)⟩, hw.1, hw.2.2.2.2.1⟩, by rw [ht]; exact hw.2.1, va_K.moved hW.alike hK, hw.2.2.1⟩, hw.2.2.2.1.F ht⟩) hw.2.2.2.1.2.2 dX10_act_16
abbrev wr_X10_carry__1 : List (Nat × Nat) := [(10, 0), (10, 25)]
abbrev wa_X10_carry__1 : List Nat := [34, 37]
set_option maxHeartbeats 4000000 in
set_option maxRecDepth 100000 in
theorem c_X10_carry__1 (l : Launch) (D : va_G) (cy : Nat → ClassId) (z : Nat → Nat) (sz : Nat) (Ps : PSI) (w0 : va_W) (hT : HT cy GG Ps w0) (p0 : Nat) (p1 : Int32) (p2 : Int32) (gdR : Nat → Int32) (h_p0 : (p0, 55) ∈ Ps) (r_p1 : RI p1 (-2147483648) 2147483647) (r_p2 : RI p2 (-2147483648) 2147483647) (x_HD_p0_gdR : AX 14 34 (HDp gdR) Ps w0 p0) : Met l yX10_carry (Cond.code yX10_carry cX10_carry 3 (some .int) :: gT) ({ frames := 5, cells := 0, slots := 0, locals := 1000 } : Room) (va_Pc [.ref p0, .int p1, .int p2] (PRE D cy z w0 sz)) (va_Qi (fun (r : Int32) (u : va_W) => ((AX 14 34 (HDp gdR) Ps u p0) ∧ (RI r (-1) 2 ∧ (r = 0 → True) ∧ (¬ r = 0 → True))) ∧ HT cy GG Ps u ∧ FR wr_X10_carry__1 wa_X10_carry__1 Ps w0 u) (BB D cy (va_A w0 sz) (fun (u : va_W) => u)) (va_A w0 sz)) 0 0 (va_A w0 sz) := by
  refine Met.ofW (cc := cX10_carry) (maxL := 3) (ret := (some .int)) (by decide) rfl ?_
  intro p e s m args below meth c s₁ B hml hv
  obtain ⟨rfl, hsz, hP, hK, hD0, hSD⟩ := hv
  have hx := B.exec
  have hb := B.bytes
  have hr := B.returns
  have hlocks := B.notSynchronized
  have hts : ∀ w ∈ gT, w.before _ s = true := fun w h => atoms_spec (ws := Cond.code yX10_carry cX10_carry 3 (some .int) :: gT) B.pre w (List.mem_cons_of_mem _ h)
  have hown : s.vm.findClass RX10 = some m.cls := findClass_of_methodNamed B.named
  subst hsz
  have hD := hD0.self (sz := s.heap.size)
  generalize hAe : va_A w0 s.heap.size = A at hD hSD ⊢
  have hA : ∀ q : Nat, s.heap.size ≤ q → A q := fun q h => by rw [← hAe]; exact Or.inr h
  have hl := lv_entry ([.ref p0, .int p1, .int p2]) (n := 3) (Nat.le_of_ble_eq_true rfl)
  rw [lg_entry_eq]
  generalize (lg_sl ([.ref p0, .int p1, .int p2]) ++ List.replicate (3 - (lg_sl ([.ref p0, .int p1, .int p2])).length) Slot.unset).toArray = ls at hl ⊢
  have hl : lv_has ls 3 [(0, .ref p0), (1, .int p1), (2, .int p2)] := hl
  refine nameQ (fun Q hQ => ?_)
  have hw : WD D cy GG A s wr_X10_carry__1 wa_X10_carry__1 Ps w0 Ps w0 s.heap [] := ⟨hT, hP, hD, va_S.rf, FR.rf, hT.1, [], (List.append_nil _).symm⟩
  refine lv_aload_n hx hb dX10_carry_0 rfl (lv_at hl 0 rfl) ?_
  refine lv_iconst (v := 0) hx hb dX10_carry_1 (by decide) ?_
  refine tg_put (ci := 10) (ts := ty_MODEL) (v := .int 0) (ty := .int) (C := RX10) (T := TX10) (N := 49) hx hb hts inX10 tyX10 tyX10_ok nmX10 hown hK hw h_p0 rfl rfl 0 (by decide) (hts _ tw_1137) (fun _ h9 => h9) rfl (by decide +kernel) rfl rfl (ft := vI (-2147483648) 2147483647) rfl ⟨_, rfl, (rl_0.to (by decide))⟩ (by decide) dX10_carry_2 (fun ws H locs hw n_k_1 hF9 => ?_)
  have x_HD_p0_gdR := AX.over hF9 x_HD_p0_gdR (by decide)
  refine lv_aload_n hx hb dX10_carry_5 rfl (lv_at hl 0 rfl) ?_
  refine lv_iload_n hx hb dX10_carry_6 rfl (lv_at hl 1 rfl) ?_
  refine tk_ir (va_runV (As := [.int p1]) (rest := []) ⟨hx, hb, hml, hown, hts⟩ (c_X10_isParcel l D cy z H.size Ps ws hw.1 p0 p1 h_p0 r_p1) (cwV 1 hts (gV tw_1429 tw_1431 ts_65 tw_15 tw_1432) rfl rfl rfl (by decide +kernel) ⟨Nat.le_of_ble_eq_true rfl, Nat.le_of_ble_eq_true rfl⟩) (tg_preV hw hK hSD hA (ci := 10) (q := (RX10, TX10, 49)) rfl h_p0 rfl) rfl rfl hl.1 rfl (lv_room (Nat.le_of_ble_eq_true rfl)) dX10_carry_7 ⟨Nat.le_of_ble_eq_true rfl, Nat.le_of_ble_eq_true rfl⟩) hw hA (fun v_2  H locs hp_v_2 hw => ?_)
  have r_v_2 : RI v_2 0 1 := hp_v_2.1
  refine lv_if_eq (tgt := 31) hx hb dX10_carry_10 (by decide) (fun c_10 => ?_) (fun c_10 => ?_)
  · have r_v_2 : RI v_2 0 0 := rc_eq1 r_v_2 rl_0 (ti_eq c_10) (by decide)
    refine lv_iconst (v := (-1)) hx hb dX10_carry_31 (by decide) ?_
    subst hQ
    exact W.iret (v := (-1)) hx hb hr (fun t ht hW => ⟨⟨(-1), ws, rfl, ⟨⟨x_HD_p0_gdR, rl_m1.to (by decide), (fun _ => trivial), (fun h0 => trivial)⟩, hw.1, hw.2.2.2.2.1⟩, by rw [ht]; exact hw.2.1, va_K.moved hW.alike hK, hw.2.2.1⟩, hw.2.2.2.1.F ht⟩) hw.2.2.2.1.2.2 dX10_carry_32
  · have r_v_2 : RI v_2 1 1 := rc_neL r_v_2 rl_0 (ti_ne c_10) (by decide)
    have r_p1 : RI p1 0 5 := ((hp_v_2.2.2 c_10).1)
    refine lv_aload_n hx hb dX10_carry_13 rfl (lv_at hl 0 rfl) ?_
    refine lv_iload_n hx hb dX10_carry_14 rfl (lv_at hl 2 rfl) ?_
    refine tk_ir (va_runV (As := [.int p2]) (rest := []) ⟨hx, hb, hml, hown, hts⟩ (c_X10_isRoom l D cy z H.size Ps ws hw.1 p0 p2 h_p0 r_p2) (cwV 1 hts (gV tw_1548 tw_1550 ts_83 tw_15 tw_1551) rfl rfl rfl (by decide +kernel) ⟨Nat.le_of_ble_eq_true rfl, Nat.le_of_ble_eq_true rfl⟩) (tg_preV hw hK hSD hA (ci := 10) (q := (RX10, TX10, 49)) rfl h_p0 rfl) rfl rfl hl.1 rfl (lv_room (Nat.le_of_ble_eq_true rfl)) dX10_carry_15 ⟨Nat.le_of_ble_eq_true rfl, Nat.le_of_ble_eq_true rfl⟩) hw hA (fun v_3  H locs hp_v_3 hw => ?_)
    have r_v_3 : RI v_3 0 1 := hp_v_3.1
    refine lv_if_eq (tgt := 31) hx hb dX10_carry_18 (by decide) (fun c_18 => ?_) (fun c_18 => ?_)
    · have r_v_3 : RI v_3 0 0 := rc_eq1 r_v_3 rl_0 (ti_eq c_18) (by decide)
      refine lv_iconst (v := (-1)) hx hb dX10_carry_31 (by decide) ?_
      subst hQ
      exact W.iret (v := (-1)) hx hb hr (fun t ht hW => ⟨⟨(-1), ws, rfl, ⟨⟨x_HD_p0_gdR, rl_m1.to (by decide), (fun _ => trivial), (fun h0 => trivial)⟩, hw.1, hw.2.2.2.2.1⟩, by rw [ht]; exact hw.2.1, va_K.moved hW.alike hK, hw.2.2.1⟩, hw.2.2.2.1.F ht⟩) hw.2.2.2.1.2.2 dX10_carry_32
    · have r_v_3 : RI v_3 1 1 := rc_neL r_v_3 rl_0 (ti_ne c_18) (by decide)
      have r_p2 : RI p2 0 3 := ((hp_v_3.2.2 c_18).1)
      refine lv_aload_n hx hb dX10_carry_21 rfl (lv_at hl 0 rfl) ?_
      refine lv_iconst (v := 5) hx hb dX10_carry_22 (by decide) ?_
      refine lv_iload_n hx hb dX10_carry_23 rfl (lv_at hl 1 rfl) ?_
      refine lv_iload_n hx hb dX10_carry_24 rfl (lv_at hl 2 rfl) ?_
      refine tk_i (va_runV (As := [.int 5, .int p1, .int p2]) (rest := []) ⟨hx, hb, hml, hown, hts⟩ (c_X10_act__6 l D cy z H.size Ps ws hw.1 p0 5 p1 p2 (gdR) h_p0 rl_5 r_p1 r_p2 x_HD_p0_gdR) (cwV 3 hts (gV tw_1497 tw_1499 ts_76 tw_15 tw_1500) rfl rfl rfl (by decide +kernel) ⟨Nat.le_of_ble_eq_true rfl, Nat.le_of_ble_eq_true rfl⟩) (tg_preV hw hK hSD hA (ci := 10) (q := (RX10, TX10, 49)) rfl h_p0 rfl) rfl rfl hl.1 rfl (lv_room (Nat.le_of_ble_eq_true rfl)) dX10_carry_25 ⟨Nat.le_of_ble_eq_true rfl, Nat.le_of_ble_eq_true rfl⟩) hw hA ⟨by decide, by decide⟩ (fun v_4 ws H locs hp_v_4 hw hF9 => ?_)
      have n_k_1 := FLD.over hF9 n_k_1 (by decide)
      obtain ⟨x_HD_p0_gdR, hp_v_4⟩ := hp_v_4
      have r_v_4 : RI v_4 0 2 := hp_v_4.1
      by_cases c9_v_4 : v_4 = 0
      · have r_v_4 : RI v_4 0 0 := by rw [c9_v_4]; exact rl_0
        obtain ⟨v_5, m_v_5, r_v_5⟩ := ((hp_v_4.2.1 c9_v_4).1)
        refine lv_goto (tgt := 32) hx hb dX10_carry_28 (by decide) ?_
        subst hQ
        exact W.iret (v := v_4) hx hb hr (fun t ht hW => ⟨⟨v_4, ws, rfl, ⟨⟨x_HD_p0_gdR, r_v_4.to (by decide), (fun h0 => trivial), (fun _ => trivial)⟩, hw.1, hw.2.2.2.2.1⟩, by rw [ht]; exact hw.2.1, va_K.moved hW.alike hK, hw.2.2.1⟩, hw.2.2.2.1.F ht⟩) hw.2.2.2.1.2.2 dX10_carry_32
      · have r_v_4 : RI v_4 1 2 := rc_neL r_v_4 rl_0 (ti_ne c9_v_4) (by decide)
        refine lv_goto (tgt := 32) hx hb dX10_carry_28 (by decide) ?_
        subst hQ
        exact W.iret (v := v_4) hx hb hr (fun t ht hW => ⟨⟨v_4, ws, rfl, ⟨⟨x_HD_p0_gdR, r_v_4.to (by decide), (fun _ => trivial), (fun h0 => trivial)⟩, hw.1, hw.2.2.2.2.1⟩, by rw [ht]; exact hw.2.1, va_K.moved hW.alike hK, hw.2.2.1⟩, hw.2.2.2.1.F ht⟩) hw.2.2.2.1.2.2 dX10_carry_32
abbrev wr_X10_days__1 : List (Nat × Nat) := [(10, 0), (10, 25)]
abbrev wa_X10_days__1 : List Nat := [34, 37, 46]
set_option maxHeartbeats 4000000 in
set_option maxRecDepth 100000 in
theorem c_X10_days__1 (l : Launch) (D : va_G) (cy : Nat → ClassId) (z : Nat → Nat) (sz : Nat) (Ps : PSI) (w0 : va_W) (hT : HT cy GG Ps w0) (p0 : Nat) (p1 : Int32) (gdR : Nat → Int32) (h_p0 : (p0, 55) ∈ Ps) (r_p1 : RI p1 (-2147483648) 2147483647) (x_HD_p0_gdR : AX 14 34 (HDp gdR) Ps w0 p0) : Met l yX10_days (Cond.code yX10_days cX10_days 2 (some .int) :: gT) ({ frames := 6, cells := 0, slots := 0, locals := 1200 } : Room) (va_Pc [.ref p0, .int p1] (PRE D cy z w0 sz)) (va_Qi (fun (r : Int32) (u : va_W) => ((AX 14 34 (HDp gdR) Ps u p0) ∧ (RI r (-2147483648) 2147483647 ∧ (r = 0 → True) ∧ (¬ r = 0 → True))) ∧ HT cy GG Ps u ∧ FR wr_X10_days__1 wa_X10_days__1 Ps w0 u) (BB D cy (va_A w0 sz) (fun (u : va_W) => u)) (va_A w0 sz)) 0 0 (va_A w0 sz) := by
  refine Met.ofW (cc := cX10_days) (maxL := 2) (ret := (some .int)) (by decide) rfl ?_
  intro p e s m args below meth c s₁ B hml hv
  obtain ⟨rfl, hsz, hP, hK, hD0, hSD⟩ := hv
  have hx := B.exec
  have hb := B.bytes
  have hr := B.returns
  have hlocks := B.notSynchronized
  have hts : ∀ w ∈ gT, w.before _ s = true := fun w h => atoms_spec (ws := Cond.code yX10_days cX10_days 2 (some .int) :: gT) B.pre w (List.mem_cons_of_mem _ h)
  have hown : s.vm.findClass RX10 = some m.cls := findClass_of_methodNamed B.named
  subst hsz
  have hD := hD0.self (sz := s.heap.size)
  generalize hAe : va_A w0 s.heap.size = A at hD hSD ⊢
  have hA : ∀ q : Nat, s.heap.size ≤ q → A q := fun q h => by rw [← hAe]; exact Or.inr h
  have hl := lv_entry ([.ref p0, .int p1]) (n := 2) (Nat.le_of_ble_eq_true rfl)
  rw [lg_entry_eq]
  generalize (lg_sl ([.ref p0, .int p1]) ++ List.replicate (2 - (lg_sl ([.ref p0, .int p1])).length) Slot.unset).toArray = ls at hl ⊢
  have hl : lv_has ls 2 [(0, .ref p0), (1, .int p1)] := hl
  refine nameQ (fun Q hQ => ?_)
  have hw : WD D cy GG A s wr_X10_days__1 wa_X10_days__1 Ps w0 Ps w0 s.heap [] := ⟨hT, hP, hD, va_S.rf, FR.rf, hT.1, [], (List.append_nil _).symm⟩
  refine lv_aload_n hx hb dX10_days_0 rfl (lv_at hl 0 rfl) ?_
  refine lv_iconst (v := 0) hx hb dX10_days_1 (by decide) ?_
  refine tg_put (ci := 10) (ts := ty_MODEL) (v := .int 0) (ty := .int) (C := RX10) (T := TX10) (N := 49) hx hb hts inX10 tyX10 tyX10_ok nmX10 hown hK hw h_p0 rfl rfl 0 (by decide) (hts _ tw_1137) (fun _ h9 => h9) rfl (by decide +kernel) rfl rfl (ft := vI (-2147483648) 2147483647) rfl ⟨_, rfl, (rl_0.to (by decide))⟩ (by decide) dX10_days_2 (fun ws H locs hw n_k_1 hF9 => ?_)
  have x_HD_p0_gdR := AX.over hF9 x_HD_p0_gdR (by decide)
  refine lv_iload_n hx hb dX10_days_5 rfl (lv_at hl 1 rfl) ?_
  refine lv_iconst (v := 1) hx hb dX10_days_6 (by decide) ?_
  refine lv_bipush (v := 60) hx hb dX10_days_7 (by decide) ?_
  refine tk_ir (va_runS (As := [.int p1, .int 1, .int 60]) (rest := []) ⟨hx, hb, hml, hown, hts⟩ (c_X10_isIn__3 l D cy z H.size Ps ws hw.1 p1 1 60 r_p1 rl_1 rl_60) (va_cwS 3 hts (gS tw_1359 tw_1360 tw_15 tw_1361) rfl rfl rfl (by decide +kernel) ⟨Nat.le_of_ble_eq_true rfl, Nat.le_of_ble_eq_true rfl⟩) (tg_preS hw hK hSD hA) rfl rfl hl.1 rfl (lv_room (Nat.le_of_ble_eq_true rfl)) dX10_days_9 ⟨Nat.le_of_ble_eq_true rfl, Nat.le_of_ble_eq_true rfl⟩) hw hA (fun v_2  H locs hp_v_2 hw => ?_)
  have r_v_2 : RI v_2 0 1 := hp_v_2.1
  refine lv_if_ne (tgt := 17) hx hb dX10_days_12 (by decide) (fun c_12 => ?_) (fun c_12 => ?_)
  · have r_v_2 : RI v_2 1 1 := rc_neL r_v_2 rl_0 (ti_ne c_12) (by decide)
    have r_p1 : RI p1 1 60 := ((hp_v_2.2.2 c_12).1)
    refine lv_aload_n hx hb dX10_days_17 rfl (lv_at hl 0 rfl) ?_
    refine tg_get (ci := 10) (ts := ty_MODEL) (C := RX10) (T := TX10) (N := 49) hx hb hts inX10 hown hK hw h_p0 rfl rfl 14 (by decide) (hts _ tw_1151) (fun _ h9 => h9) (ft := vR 34) rfl dX10_days_18 (fun u_3 hv_u_3 m_u_3 => ?_)
    obtain ⟨vu_3, rfl, h_vu_3⟩ := hv_u_3
    refine lv_bipush (v := 84) hx hb dX10_days_21 (by decide) ?_
    refine tg_iald (lo := (-2147483648)) (hi := 2147483647) hx hb hK hw h_vu_3 rfl 84 84 rl_84 (by decide) (by decide +kernel) dX10_days_23 (fun v_4 r_v_4 m_v_4 o_v_4 => ?_)
    refine lv_sipush (v := 400) hx hb dX10_days_24 (by decide) ?_
    refine lv_icmp_ne (tgt := 32) hx hb dX10_days_27 (by decide) (fun c_27 => ?_) (fun c_27 => ?_)
    · refine lv_aload_n hx hb dX10_days_32 rfl (lv_at hl 0 rfl) ?_
      have hw8 := hw
      refine tk_v (va_runV (As := []) (rest := []) ⟨hx, hb, hml, hown, hts⟩ (c_X10_snap l D cy z H.size Ps ws hw.1 p0 h_p0) (cwV 0 hts (gV tw_1505 tw_1507 ts_78 tw_15 tw_1508) rfl rfl rfl (by decide +kernel) ⟨Nat.le_of_ble_eq_true rfl, Nat.le_of_ble_eq_true rfl⟩) (tg_preV hw hK hSD hA (ci := 10) (q := (RX10, TX10, 49)) rfl h_p0 rfl) rfl rfl hl.1 rfl (lv_room (Nat.le_of_ble_eq_true rfl)) dX10_days_33 ⟨Nat.le_of_ble_eq_true rfl, Nat.le_of_ble_eq_true rfl⟩) hw hA ⟨by decide, by decide⟩ (fun ws H locs hp_v_5 hw hF9 => ?_)
      have m_v_4 := AEL.over hw8 hF9 h_vu_3 m_v_4 (by decide)
      have n_k_1 := FLD.over hF9 n_k_1 (by decide)
      have m_u_3 := FLD.over hF9 m_u_3 (by decide)
      have x_HD_p0_gdR := AX.over hF9 x_HD_p0_gdR (by decide)
      obtain ⟨v_6, m_v_6, r_v_6⟩ := (hp_v_5.1)
      refine lv_aload_n hx hb dX10_days_36 rfl (lv_at hl 0 rfl) ?_
      refine lv_iload_n hx hb dX10_days_37 rfl (lv_at hl 1 rfl) ?_
      have hw8 := hw
      refine tk_i (va_runV (As := [.int p1]) (rest := []) ⟨hx, hb, hml, hown, hts⟩ (c_X10_passDays__1 l D cy z H.size Ps ws hw.1 p0 p1 (gdR) h_p0 (r_p1.to (by decide)) x_HD_p0_gdR) (cwV 1 hts (gV tw_1560 tw_1562 ts_84 tw_15 tw_1563) rfl rfl rfl (by decide +kernel) ⟨Nat.le_of_ble_eq_true rfl, Nat.le_of_ble_eq_true rfl⟩) (tg_preV hw hK hSD hA (ci := 10) (q := (RX10, TX10, 49)) rfl h_p0 rfl) rfl rfl hl.1 rfl (lv_room (Nat.le_of_ble_eq_true rfl)) dX10_days_38 ⟨Nat.le_of_ble_eq_true rfl, Nat.le_of_ble_eq_true rfl⟩) hw hA ⟨by decide, by decide⟩ (fun v_7 ws H locs hp_v_7 hw hF9 => ?_)
      have n_k_1 := FLD.over hF9 n_k_1 (by decide)
      have m_u_3 := FLD.over hF9 m_u_3 (by decide)
      have m_v_6 := FLD.over hF9 m_v_6 (by decide)
      obtain ⟨x_HD_p0_gdR, hp_v_7⟩ := hp_v_7
      have r_v_7 : RI v_7 (-2147483648) 2147483647 := hp_v_7.1
      subst hQ
      exact W.iret (v := v_7) hx hb hr (fun t ht hW => ⟨⟨v_7, ws, rfl, ⟨⟨x_HD_p0_gdR, r_v_7.to (by decide), (fun h0 => trivial), (fun h0 => trivial)⟩, hw.1, hw.2.2.2.2.1⟩, by rw [ht]; exact hw.2.1, va_K.moved hW.alike hK, hw.2.2.1⟩, hw.2.2.2.1.F ht⟩) hw.2.2.2.1.2.2 dX10_days_41
    · have r_v_4 : RI v_4 400 400 := rc_eq1 r_v_4 rl_400 (ti_eq c_27) (by decide)
      refine lv_iconst (v := 0) hx hb dX10_days_30 (by decide) ?_
      subst hQ
      exact W.iret (v := 0) hx hb hr (fun t ht hW => ⟨⟨0, ws, rfl, ⟨⟨x_HD_p0_gdR, rl_0.to (by decide), (fun h0 => trivial), (fun _ => trivial)⟩, hw.1, hw.2.2.2.2.1⟩, by rw [ht]; exact hw.2.1, va_K.moved hW.alike hK, hw.2.2.1⟩, hw.2.2.2.1.F ht⟩) hw.2.2.2.1.2.2 dX10_days_31
  · have r_v_2 : RI v_2 0 0 := rc_eq1 r_v_2 rl_0 (ti_eq c_12) (by decide)
    refine lv_iconst (v := (-1)) hx hb dX10_days_15 (by decide) ?_
    subst hQ
    exact W.iret (v := (-1)) hx hb hr (fun t ht hW => ⟨⟨(-1), ws, rfl, ⟨⟨x_HD_p0_gdR, rl_m1.to (by decide), (fun _ => trivial), (fun h0 => trivial)⟩, hw.1, hw.2.2.2.2.1⟩, by rw [ht]; exact hw.2.1, va_K.moved hW.alike hK, hw.2.2.1⟩, hw.2.2.2.1.F ht⟩) hw.2.2.2.1.2.2 dX10_days_16
abbrev wr_X10_drawsFor__1 : List (Nat × Nat) := [(10, 39)]
abbrev wa_X10_drawsFor__1 : List Nat := [34]
set_option maxHeartbeats 4000000 in
set_option maxRecDepth 100000 in
theorem c_X10_drawsFor__1 (l : Launch) (D : va_G) (cy : Nat → ClassId) (z : Nat → Nat) (sz : Nat) (Ps : PSI) (w0 : va_W) (hT : HT cy GG Ps w0) (p0 : Nat) (p1 : Int32) (gdR : Nat → Int32) (h_p0 : (p0, 55) ∈ Ps) (r_p1 : RI p1 0 7) (x_PPOS_p0 : AX 14 34 (fun f => 0 < (f 3).toInt) Ps w0 p0) (x_HD_p0_gdR : AX 14 34 (HDp gdR) Ps w0 p0) : Met l yX10_drawsFor (Cond.code yX10_drawsFor cX10_drawsFor 3 none :: gT) ({ frames := 2, cells := 0, slots := 0, locals := 400 } : Room) (va_Pc [.ref p0, .int p1] (PRE D cy z w0 sz)) (va_Qv (fun (u : va_W) => ((AX 14 34 (HDp gdR) Ps u p0) ∧ (True)) ∧ HT cy GG Ps u ∧ FR wr_X10_drawsFor__1 wa_X10_drawsFor__1 Ps w0 u) (BB D cy (va_A w0 sz) (fun (u : va_W) => u)) (va_A w0 sz)) 0 0 (va_A w0 sz) := by
  refine Met.ofW (cc := cX10_drawsFor) (maxL := 3) (ret := none) (by decide) rfl ?_
  intro p e s m args below meth c s₁ B hml hv
  obtain ⟨rfl, hsz, hP, hK, hD0, hSD⟩ := hv
  have hx := B.exec
  have hb := B.bytes
  have hr := B.returns
  have hlocks := B.notSynchronized
  have hts : ∀ w ∈ gT, w.before _ s = true := fun w h => atoms_spec (ws := Cond.code yX10_drawsFor cX10_drawsFor 3 none :: gT) B.pre w (List.mem_cons_of_mem _ h)
  have hown : s.vm.findClass RX10 = some m.cls := findClass_of_methodNamed B.named
  subst hsz
  have hD := hD0.self (sz := s.heap.size)
  generalize hAe : va_A w0 s.heap.size = A at hD hSD ⊢
  have hA : ∀ q : Nat, s.heap.size ≤ q → A q := fun q h => by rw [← hAe]; exact Or.inr h
  have hl := lv_entry ([.ref p0, .int p1]) (n := 3) (Nat.le_of_ble_eq_true rfl)
  rw [lg_entry_eq]
  generalize (lg_sl ([.ref p0, .int p1]) ++ List.replicate (3 - (lg_sl ([.ref p0, .int p1])).length) Slot.unset).toArray = ls at hl ⊢
  have hl : lv_has ls 3 [(0, .ref p0), (1, .int p1)] := hl
  refine nameQ (fun Q hQ => ?_)
  have hw : WD D cy GG A s wr_X10_drawsFor__1 wa_X10_drawsFor__1 Ps w0 Ps w0 s.heap [] := ⟨hT, hP, hD, va_S.rf, FR.rf, hT.1, [], (List.append_nil _).symm⟩
  refine lv_aload_n hx hb dX10_drawsFor_0 rfl (lv_at hl 0 rfl) ?_
  refine lv_bipush (v := 8) hx hb dX10_drawsFor_1 (by decide) ?_
  refine tk_i (va_runV (As := [.int 8]) (rest := []) ⟨hx, hb, hml, hown, hts⟩ (c_X10_draw l D cy z s.heap.size Ps w0 hw.1 p0 8 h_p0 rl_8) (cwV 1 hts (gV tw_1698 tw_1700 ts_102 tw_15 tw_1701) rfl rfl rfl (by decide +kernel) ⟨Nat.le_of_ble_eq_true rfl, Nat.le_of_ble_eq_true rfl⟩) (tg_preV hw hK hSD hA (ci := 10) (q := (RX10, TX10, 49)) rfl h_p0 rfl) rfl rfl hl.1 rfl (lv_room (Nat.le_of_ble_eq_true rfl)) dX10_drawsFor_3 ⟨Nat.le_of_ble_eq_true rfl, Nat.le_of_ble_eq_true rfl⟩) hw hA ⟨by decide, by decide⟩ (fun v_1 ws H locs hp_v_1 hw hF9 => ?_)
  have x_PPOS_p0 := AX.over hF9 x_PPOS_p0 (by decide)
  have x_HD_p0_gdR := AX.over hF9 x_HD_p0_gdR (by decide)
  have r_v_1 : RI v_1 0 7 := hp_v_1.1
  refine lv_istore_n (lv' := [(2, .int v_1), (0, .ref p0), (1, .int p1)]) hx hb dX10_drawsFor_6 rfl hl (by decide) rfl (fun ls hl => ?_)
  refine lv_iload_n hx hb dX10_drawsFor_7 rfl (lv_at hl 0 rfl) ?_
  refine lv_if_ne (tgt := 21) hx hb dX10_drawsFor_8 (by decide) (fun c_8 => ?_) (fun c_8 => ?_)
  · have r_v_1 : RI v_1 1 7 := rc_neL r_v_1 rl_0 (ti_ne c_8) (by decide)
    refine lv_iload_n hx hb dX10_drawsFor_21 rfl (lv_at hl 0 rfl) ?_
    refine lv_iconst (v := 1) hx hb dX10_drawsFor_22 (by decide) ?_
    refine lv_icmp_ne (tgt := 54) hx hb dX10_drawsFor_23 (by decide) (fun c_23 => ?_) (fun c_23 => ?_)
    · have r_v_1 : RI v_1 2 7 := rc_neL r_v_1 rl_1 (ti_ne c_23) (by decide)
      refine lv_iload_n hx hb dX10_drawsFor_54 rfl (lv_at hl 0 rfl) ?_
      refine lv_iconst (v := 2) hx hb dX10_drawsFor_55 (by decide) ?_
      refine lv_icmp_ne (tgt := 78) hx hb dX10_drawsFor_56 (by decide) (fun c_56 => ?_) (fun c_56 => ?_)
      · have r_v_1 : RI v_1 3 7 := rc_neL r_v_1 rl_2 (ti_ne c_56) (by decide)
        subst hQ
        exact W.vret hx hb hr (fun t ht hW => ⟨⟨ws, rfl, ⟨⟨x_HD_p0_gdR, trivial⟩, hw.1, hw.2.2.2.2.1⟩, by rw [ht]; exact hw.2.1, va_K.moved hW.alike hK, hw.2.2.1⟩, hw.2.2.2.1.F ht⟩) hw.2.2.2.1.2.2 dX10_drawsFor_78
      · have r_v_1 : RI v_1 2 2 := rc_eq1 r_v_1 rl_2 (ti_eq c_56) (by decide)
        refine lv_aload_n hx hb dX10_drawsFor_59 rfl (lv_at hl 1 rfl) ?_
        refine tg_get (ci := 10) (ts := ty_MODEL) (C := RX10) (T := TX10) (N := 49) hx hb hts inX10 hown hK hw h_p0 rfl rfl 14 (by decide) (hts _ tw_1151) (fun _ h9 => h9) (ft := vR 34) rfl dX10_drawsFor_60 (fun u_2 hv_u_2 m_u_2 => ?_)
        obtain ⟨vu_2, rfl, h_vu_2⟩ := hv_u_2
        refine lv_bipush (v := 104) hx hb dX10_drawsFor_63 (by decide) ?_
        refine lv_iload_n hx hb dX10_drawsFor_65 rfl (lv_at hl 2 rfl) ?_
        refine lv_iadd hx hb dX10_drawsFor_66 (lv_topi (fun v_3 e_v_3 => ?_))
        obtain ⟨t_v_3, r_v_3⟩ := tq_add (lo := 104) (hi := 111) rl_104 r_p1 (by decide +kernel) e_v_3
        have t_v_3 : v_3.toInt = 104 + p1.toInt := t_v_3
        refine lv_aload_n hx hb dX10_drawsFor_67 rfl (lv_at hl 1 rfl) ?_
        refine lv_aload_n hx hb dX10_drawsFor_68 rfl (lv_at hl 1 rfl) ?_
        refine tg_mem (ci := 10) (C := RX10) (T := TX10) (N := 49) hx hb hts inX10 hown hK hw 14 m_u_2 rfl (by decide) (hts _ tw_1151) (fun _ h9 => h9) dX10_drawsFor_69 ?_
        refine lv_iconst (v := 0) hx hb dX10_drawsFor_72 (by decide) ?_
        refine tg_iald (lo := 0) (hi := 6) hx hb hK hw h_vu_2 rfl 0 0 rl_0 (by decide) (by decide +kernel) dX10_drawsFor_73 (fun v_4 r_v_4 m_v_4 o_v_4 => ?_)
        have r_v_4 : RI v_4 1 6 := by obtain ⟨f9, h9, q9, g9⟩ := AX.use hw x_PPOS_p0 h_vu_2 rfl m_u_2; have e9 := g9 _ _ m_v_4; have j9 : Int32.toNatClampNeg 0 = 0 := (by decide); rw [j9] at e9; have h8 := q9.1.2.1 h9; rw [e9] at h8; exact ⟨h8, r_v_4.2⟩
        have hw8 := hw
        refine tk_i (va_runV (As := [.int v_4]) (rest := [.int v_3, .ref vu_2]) ⟨hx, hb, hml, hown, hts⟩ (c_X10_draw__1 l D cy z H.size Ps ws hw.1 p0 v_4 h_p0 r_v_4) (cwV 1 hts (gV tw_1698 tw_1700 ts_102 tw_15 tw_1701) rfl rfl rfl (by decide +kernel) ⟨Nat.le_of_ble_eq_true rfl, Nat.le_of_ble_eq_true rfl⟩) (tg_preV hw hK hSD hA (ci := 10) (q := (RX10, TX10, 49)) rfl h_p0 rfl) rfl rfl hl.1 rfl (lv_room (Nat.le_of_ble_eq_true rfl)) dX10_drawsFor_74 ⟨Nat.le_of_ble_eq_true rfl, Nat.le_of_ble_eq_true rfl⟩) hw hA ⟨by decide, by decide⟩ (fun v_5 ws H locs hp_v_5 hw hF9 => ?_)
        have m_v_4 := AEL.over hw8 hF9 h_vu_2 m_v_4 (by decide)
        have m_u_2 := FLD.over hF9 m_u_2 (by decide)
        have x_PPOS_p0 := AX.over hF9 x_PPOS_p0 (by decide)
        have x_HD_p0_gdR := AX.over hF9 x_HD_p0_gdR (by decide)
        have r_v_5 : RI v_5 0 5 := hp_v_5.1
        have hw8 := hw
        refine tg_iast hx hb hK hw h_vu_2 rfl 104 111 r_v_3 (by decide) r_v_5 (by decide +kernel) (RN_upd (by decide) (by decide)) (by decide) dX10_drawsFor_77 (fun ws H locs hw hF9 hU9 => ?_)
        have x_HD_p0_gdR : AX 14 34 (HDp gdR) Ps ws p0 := AX.ast hF9 hU9 x_HD_p0_gdR m_u_2 (fun f9 h9 => HDp.upd h9 (by have k1 := r_v_3.cl (by decide); have k2 := r_v_3.1; omega))
        have m_u_2 := FLD.over hF9 m_u_2 (by decide)
        subst hQ
        exact W.vret hx hb hr (fun t ht hW => ⟨⟨ws, rfl, ⟨⟨x_HD_p0_gdR, trivial⟩, hw.1, hw.2.2.2.2.1⟩, by rw [ht]; exact hw.2.1, va_K.moved hW.alike hK, hw.2.2.1⟩, hw.2.2.2.1.F ht⟩) hw.2.2.2.1.2.2 dX10_drawsFor_78
    · have r_v_1 : RI v_1 1 1 := rc_eq1 r_v_1 rl_1 (ti_eq c_23) (by decide)
      refine lv_aload_n hx hb dX10_drawsFor_26 rfl (lv_at hl 1 rfl) ?_
      refine tg_get (ci := 10) (ts := ty_MODEL) (C := RX10) (T := TX10) (N := 49) hx hb hts inX10 hown hK hw h_p0 rfl rfl 14 (by decide) (hts _ tw_1151) (fun _ h9 => h9) (ft := vR 34) rfl dX10_drawsFor_27 (fun u_6 hv_u_6 m_u_6 => ?_)
      obtain ⟨vu_6, rfl, h_vu_6⟩ := hv_u_6
      refine lv_iconst (v := 2) hx hb dX10_drawsFor_30 (by decide) ?_
      refine tg_iald (lo := 0) (hi := 6) hx hb hK hw h_vu_6 rfl 2 2 rl_2 (by decide) (by decide +kernel) dX10_drawsFor_31 (fun v_7 r_v_7 m_v_7 o_v_7 => ?_)
      refine lv_if_le (tgt := 54) hx hb dX10_drawsFor_32 (by decide) (fun c_32 => ?_) (fun c_32 => ?_)
      · have r_v_7 : RI v_7 0 0 := rc_le1 r_v_7 rl_0 (ti_le c_32) (by decide)
        refine lv_iload_n hx hb dX10_drawsFor_54 rfl (lv_at hl 0 rfl) ?_
        refine lv_iconst (v := 2) hx hb dX10_drawsFor_55 (by decide) ?_
        refine lv_icmp_ne (tgt := 78) hx hb dX10_drawsFor_56 (by decide) (fun c_56 => ?_) (fun c_56 => ?_)
        · subst hQ
          exact W.vret hx hb hr (fun t ht hW => ⟨⟨ws, rfl, ⟨⟨x_HD_p0_gdR, trivial⟩, hw.1, hw.2.2.2.2.1⟩, by rw [ht]; exact hw.2.1, va_K.moved hW.alike hK, hw.2.2.1⟩, hw.2.2.2.1.F ht⟩) hw.2.2.2.1.2.2 dX10_drawsFor_78
        · have r_v_1 : RI v_1 2 1 := rc_eq1 r_v_1 rl_2 (ti_eq c_56) (by decide)
          exact (r_v_1.no (by decide)).elim
      · have r_v_7 : RI v_7 1 6 := rc_lt2 rl_0 r_v_7 (ti_nle c_32) (by decide)
        refine lv_aload_n hx hb dX10_drawsFor_35 rfl (lv_at hl 1 rfl) ?_
        refine tg_mem (ci := 10) (C := RX10) (T := TX10) (N := 49) hx hb hts inX10 hown hK hw 14 m_u_6 rfl (by decide) (hts _ tw_1151) (fun _ h9 => h9) dX10_drawsFor_36 ?_
        refine lv_bipush (v := 112) hx hb dX10_drawsFor_39 (by decide) ?_
        refine lv_iload_n hx hb dX10_drawsFor_41 rfl (lv_at hl 2 rfl) ?_
        refine lv_iadd hx hb dX10_drawsFor_42 (lv_topi (fun v_8 e_v_8 => ?_))
        obtain ⟨t_v_8, r_v_8⟩ := tq_add (lo := 112) (hi := 119) rl_112 r_p1 (by decide +kernel) e_v_8
        have t_v_8 : v_8.toInt = 112 + p1.toInt := t_v_8
        refine lv_aload_n hx hb dX10_drawsFor_43 rfl (lv_at hl 1 rfl) ?_
        refine lv_aload_n hx hb dX10_drawsFor_44 rfl (lv_at hl 1 rfl) ?_
        refine tg_mem (ci := 10) (C := RX10) (T := TX10) (N := 49) hx hb hts inX10 hown hK hw 14 m_u_6 rfl (by decide) (hts _ tw_1151) (fun _ h9 => h9) dX10_drawsFor_45 ?_
        refine lv_iconst (v := 2) hx hb dX10_drawsFor_48 (by decide) ?_
        refine tg_imem hx hb hK hw h_vu_6 rfl rl_2 (by decide) m_v_7 dX10_drawsFor_49 ?_
        have hw8 := hw
        refine tk_i (va_runV (As := [.int v_7]) (rest := [.int v_8, .ref vu_6]) ⟨hx, hb, hml, hown, hts⟩ (c_X10_draw__1 l D cy z H.size Ps ws hw.1 p0 v_7 h_p0 r_v_7) (cwV 1 hts (gV tw_1698 tw_1700 ts_102 tw_15 tw_1701) rfl rfl rfl (by decide +kernel) ⟨Nat.le_of_ble_eq_true rfl, Nat.le_of_ble_eq_true rfl⟩) (tg_preV hw hK hSD hA (ci := 10) (q := (RX10, TX10, 49)) rfl h_p0 rfl) rfl rfl hl.1 rfl (lv_room (Nat.le_of_ble_eq_true rfl)) dX10_drawsFor_50 ⟨Nat.le_of_ble_eq_true rfl, Nat.le_of_ble_eq_true rfl⟩) hw hA ⟨by decide, by decide⟩ (fun v_10 ws H locs hp_v_10 hw hF9 => ?_)
        have m_v_7 := AEL.over hw8 hF9 h_vu_6 m_v_7 (by decide)
        have m_u_6 := FLD.over hF9 m_u_6 (by decide)
        have x_PPOS_p0 := AX.over hF9 x_PPOS_p0 (by decide)
        have x_HD_p0_gdR := AX.over hF9 x_HD_p0_gdR (by decide)
        have r_v_10 : RI v_10 0 5 := hp_v_10.1
        have hw8 := hw
        refine tg_iast hx hb hK hw h_vu_6 rfl 112 119 r_v_8 (by decide) r_v_10 (by decide +kernel) (RN_upd (by decide) (by decide)) (by decide) dX10_drawsFor_53 (fun ws H locs hw hF9 hU9 => ?_)
        have x_HD_p0_gdR : AX 14 34 (HDp gdR) Ps ws p0 := AX.ast hF9 hU9 x_HD_p0_gdR m_u_6 (fun f9 h9 => HDp.upd h9 (by have k1 := r_v_8.cl (by decide); have k2 := r_v_8.1; omega))
        have m_u_6 := FLD.over hF9 m_u_6 (by decide)
        refine lv_iload_n hx hb dX10_drawsFor_54 rfl (lv_at hl 0 rfl) ?_
        refine lv_iconst (v := 2) hx hb dX10_drawsFor_55 (by decide) ?_
        refine lv_icmp_ne (tgt := 78) hx hb dX10_drawsFor_56 (by decide) (fun c_56 => ?_) (fun c_56 => ?_)
        · subst hQ
          exact W.vret hx hb hr (fun t ht hW => ⟨⟨ws, rfl, ⟨⟨x_HD_p0_gdR, trivial⟩, hw.1, hw.2.2.2.2.1⟩, by rw [ht]; exact hw.2.1, va_K.moved hW.alike hK, hw.2.2.1⟩, hw.2.2.2.1.F ht⟩) hw.2.2.2.1.2.2 dX10_drawsFor_78
        · have r_v_1 : RI v_1 2 1 := rc_eq1 r_v_1 rl_2 (ti_eq c_56) (by decide)
          exact (r_v_1.no (by decide)).elim
  · have r_v_1 : RI v_1 0 0 := rc_eq1 r_v_1 rl_0 (ti_eq c_8) (by decide)
    refine lv_aload_n hx hb dX10_drawsFor_11 rfl (lv_at hl 1 rfl) ?_
    refine tg_get (ci := 10) (ts := ty_MODEL) (C := RX10) (T := TX10) (N := 49) hx hb hts inX10 hown hK hw h_p0 rfl rfl 14 (by decide) (hts _ tw_1151) (fun _ h9 => h9) (ft := vR 34) rfl dX10_drawsFor_12 (fun u_11 hv_u_11 m_u_11 => ?_)
    obtain ⟨vu_11, rfl, h_vu_11⟩ := hv_u_11
    refine lv_bipush (v := 112) hx hb dX10_drawsFor_15 (by decide) ?_
    refine lv_iload_n hx hb dX10_drawsFor_17 rfl (lv_at hl 2 rfl) ?_
    refine lv_iadd hx hb dX10_drawsFor_18 (lv_topi (fun v_12 e_v_12 => ?_))
    obtain ⟨t_v_12, r_v_12⟩ := tq_add (lo := 112) (hi := 119) rl_112 r_p1 (by decide +kernel) e_v_12
    have t_v_12 : v_12.toInt = 112 + p1.toInt := t_v_12
    refine lv_iconst (v := (-1)) hx hb dX10_drawsFor_19 (by decide) ?_
    refine tg_iast hx hb hK hw h_vu_11 rfl 112 119 r_v_12 (by decide) rl_m1 (by decide +kernel) (RN_upd (by decide) (by decide)) (by decide) dX10_drawsFor_20 (fun ws H locs hw hF9 hU9 => ?_)
    have x_HD_p0_gdR : AX 14 34 (HDp gdR) Ps ws p0 := AX.ast hF9 hU9 x_HD_p0_gdR m_u_11 (fun f9 h9 => HDp.upd h9 (by have k1 := r_v_12.cl (by decide); have k2 := r_v_12.1; omega))
    have m_u_11 := FLD.over hF9 m_u_11 (by decide)
    refine lv_iload_n hx hb dX10_drawsFor_21 rfl (lv_at hl 0 rfl) ?_
    refine lv_iconst (v := 1) hx hb dX10_drawsFor_22 (by decide) ?_
    refine lv_icmp_ne (tgt := 54) hx hb dX10_drawsFor_23 (by decide) (fun c_23 => ?_) (fun c_23 => ?_)
    · refine lv_iload_n hx hb dX10_drawsFor_54 rfl (lv_at hl 0 rfl) ?_
      refine lv_iconst (v := 2) hx hb dX10_drawsFor_55 (by decide) ?_
      refine lv_icmp_ne (tgt := 78) hx hb dX10_drawsFor_56 (by decide) (fun c_56 => ?_) (fun c_56 => ?_)
      · subst hQ
        exact W.vret hx hb hr (fun t ht hW => ⟨⟨ws, rfl, ⟨⟨x_HD_p0_gdR, trivial⟩, hw.1, hw.2.2.2.2.1⟩, by rw [ht]; exact hw.2.1, va_K.moved hW.alike hK, hw.2.2.1⟩, hw.2.2.2.1.F ht⟩) hw.2.2.2.1.2.2 dX10_drawsFor_78
      · have r_v_1 : RI v_1 2 0 := rc_eq1 r_v_1 rl_2 (ti_eq c_56) (by decide)
        exact (r_v_1.no (by decide)).elim
    · have r_v_1 : RI v_1 1 0 := rc_eq1 r_v_1 rl_1 (ti_eq c_23) (by decide)
      exact (r_v_1.no (by decide)).elim
abbrev wr_X10_drawDays__1 : List (Nat × Nat) := [(10, 39)]
abbrev wa_X10_drawDays__1 : List Nat := [34, 46]
set_option maxHeartbeats 4000000 in
set_option maxRecDepth 100000 in
theorem c_X10_drawDays__1 (l : Launch) (D : va_G) (cy : Nat → ClassId) (z : Nat → Nat) (sz : Nat) (Ps : PSI) (w0 : va_W) (hT : HT cy GG Ps w0) (p0 : Nat) (p1 : Int32) (p2 : Int32) (gdR : Nat → Int32) (h_p0 : (p0, 55) ∈ Ps) (r_p1 : RI p1 (-2147483648) 2147483647) (r_p2 : RI p2 (-2147483648) 2147483647) (x_HD_p0_gdR : AX 14 34 (HDp gdR) Ps w0 p0) : Met l yX10_drawDays (Cond.code yX10_drawDays cX10_drawDays 6 (some .int) :: gT) ({ frames := 5, cells := 0, slots := 0, locals := 1000 } : Room) (va_Pc [.ref p0, .int p1, .int p2] (PRE D cy z w0 sz)) (va_Qi (fun (r : Int32) (u : va_W) => ((AX 14 34 (HDp gdR) Ps u p0) ∧ (RI r (-2147483648) 2147483647 ∧ (r = 0 → True) ∧ (¬ r = 0 → True))) ∧ HT cy GG Ps u ∧ FR wr_X10_drawDays__1 wa_X10_drawDays__1 Ps w0 u) (BB D cy (va_A w0 sz) (fun (u : va_W) => u)) (va_A w0 sz)) 0 0 (va_A w0 sz) := by
  refine Met.ofW (cc := cX10_drawDays) (maxL := 6) (ret := (some .int)) (by decide) rfl ?_
  intro p e s m args below meth c s₁ B hml hv
  obtain ⟨rfl, hsz, hP, hK, hD0, hSD⟩ := hv
  have hx := B.exec
  have hb := B.bytes
  have hr := B.returns
  have hlocks := B.notSynchronized
  have hts : ∀ w ∈ gT, w.before _ s = true := fun w h => atoms_spec (ws := Cond.code yX10_drawDays cX10_drawDays 6 (some .int) :: gT) B.pre w (List.mem_cons_of_mem _ h)
  have hown : s.vm.findClass RX10 = some m.cls := findClass_of_methodNamed B.named
  subst hsz
  have hD := hD0.self (sz := s.heap.size)
  generalize hAe : va_A w0 s.heap.size = A at hD hSD ⊢
  have hA : ∀ q : Nat, s.heap.size ≤ q → A q := fun q h => by rw [← hAe]; exact Or.inr h
  have hl := lv_entry ([.ref p0, .int p1, .int p2]) (n := 6) (Nat.le_of_ble_eq_true rfl)
  rw [lg_entry_eq]
  generalize (lg_sl ([.ref p0, .int p1, .int p2]) ++ List.replicate (6 - (lg_sl ([.ref p0, .int p1, .int p2])).length) Slot.unset).toArray = ls at hl ⊢
  have hl : lv_has ls 6 [(0, .ref p0), (1, .int p1), (2, .int p2)] := hl
  refine nameQ (fun Q hQ => ?_)
  have hw : WD D cy GG A s wr_X10_drawDays__1 wa_X10_drawDays__1 Ps w0 Ps w0 s.heap [] := ⟨hT, hP, hD, va_S.rf, FR.rf, hT.1, [], (List.append_nil _).symm⟩
  have B24 : ∀ (nf : Nat) (x3 : Int32) (x4 : Int32) (ws : va_W) (H : Heap) (locs : List Loc) (ls : Array Slot), 2147483647 - x4.toInt < (nf : Int) → RI p1 (-2147483648) 2147483647 → RI p2 (-2147483648) 2147483647 → RI x3 (-2147483648) 2147483647 → RI x4 0 2147483647 → AX 14 34 (HDp gdR) Ps ws p0 → WD D cy GG A s wr_X10_drawDays__1 wa_X10_drawDays__1 Ps w0 Ps ws H locs → lv_has ls 6 [(0, .ref p0), (1, .int p1), (2, .int p2), (3, .int x3), (4, .int x4)] → W p l e (headSpec (Cond.code yX10_drawDays cX10_drawDays 6 (some .int) :: gT) ({ frames := 5, cells := 0, slots := 0, locals := 1000 } : Room)).room s m ([.ref p0, .int p1, .int p2] : List Value).toArray below meth c H locs 0 0 Q (F0 m 24 ls []) := by
    intro nf24
    induction nf24 with
    | zero =>
      intro x3 x4 ws H locs ls hn24 r_p1 r_p2 r_x3 r_x4 x_HD_p0_gdR hw hl
      exact absurd hn24 (by have q0 := r_x4.1; have u0 := r_x4.2; omega)
    | succ nf24 ih24 =>
      have B33 : ∀ (nf : Nat) (x3 : Int32) (x4 : Int32) (x5 : Int32) (ws : va_W) (H : Heap) (locs : List Loc) (ls : Array Slot), 8 - x5.toInt < (nf : Int) → RI p1 (-2147483648) 2147483647 → RI p2 (-2147483648) 2147483647 → RI x3 1 2147483647 → RI x4 0 2147483646 → RI x5 0 8 → AX 14 34 (HDp gdR) Ps ws p0 → 2147483647 - x4.toInt < ((nf24 + 1 : Nat) : Int) → WD D cy GG A s wr_X10_drawDays__1 wa_X10_drawDays__1 Ps w0 Ps ws H locs → lv_has ls 6 [(0, .ref p0), (1, .int p1), (2, .int p2), (3, .int x3), (4, .int x4), (5, .int x5)] → W p l e (headSpec (Cond.code yX10_drawDays cX10_drawDays 6 (some .int) :: gT) ({ frames := 5, cells := 0, slots := 0, locals := 1000 } : Room)).room s m ([.ref p0, .int p1, .int p2] : List Value).toArray below meth c H locs 0 0 Q (F0 m 33 ls []) := by
        intro nf33
        induction nf33 with
        | zero =>
          intro x3 x4 x5 ws H locs ls hn33 r_p1 r_p2 r_x3 r_x4 r_x5 x_HD_p0_gdR hn24 hw hl
          exact absurd hn33 (by have q0 := r_x5.1; have u0 := r_x5.2; omega)
        | succ nf33 ih33 =>
          intro x3 x4 x5 ws H locs ls hn33 r_p1 r_p2 r_x3 r_x4 r_x5 x_HD_p0_gdR hn24 hw hl
          refine lv_iload hx hb dX10_drawDays_33 (lv_at hl 5 rfl) ?_
          refine lv_aload_n hx hb dX10_drawDays_35 rfl (lv_at hl 0 rfl) ?_
          refine tg_get (ci := 10) (ts := ty_MODEL) (C := RX10) (T := TX10) (N := 49) hx hb hts inX10 hown hK hw h_p0 rfl rfl 14 (by decide) (hts _ tw_1151) (fun _ h9 => h9) (ft := vR 34) rfl dX10_drawDays_36 (fun u_1 hv_u_1 m_u_1 => ?_)
          obtain ⟨vu_1, rfl, h_vu_1⟩ := hv_u_1
          refine lv_iconst (v := 3) hx hb dX10_drawDays_39 (by decide) ?_
          refine tg_iald (lo := 0) (hi := 8) hx hb hK hw h_vu_1 rfl 3 3 rl_3 (by decide) (by decide +kernel) dX10_drawDays_40 (fun v_2 r_v_2 m_v_2 o_v_2 => ?_)
          refine lv_icmp_ge (tgt := 56) hx hb dX10_drawDays_41 (by decide) (fun c_41 => ?_) (fun c_41 => ?_)
          · refine lv_aload_n hx hb dX10_drawDays_56 rfl (lv_at hl 0 rfl) ?_
            have hw8 := hw
            refine tk_v (va_runV (As := []) (rest := []) ⟨hx, hb, hml, hown, hts⟩ (c_X10_oneDay__1 l D cy z H.size Ps ws hw.1 p0 (gdR) h_p0 x_HD_p0_gdR) (cwV 0 hts (gV tw_1564 tw_1566 ts_85 tw_15 tw_1567) rfl rfl rfl (by decide +kernel) ⟨Nat.le_of_ble_eq_true rfl, Nat.le_of_ble_eq_true rfl⟩) (tg_preV hw hK hSD hA (ci := 10) (q := (RX10, TX10, 49)) rfl h_p0 rfl) rfl rfl hl.1 rfl (lv_room (Nat.le_of_ble_eq_true rfl)) dX10_drawDays_57 ⟨Nat.le_of_ble_eq_true rfl, Nat.le_of_ble_eq_true rfl⟩) hw hA ⟨by decide, by decide⟩ (fun ws H locs hp_v_3 hw hF9 => ?_)
            have m_u_1 := FLD.over hF9 m_u_1 (by decide)
            obtain ⟨x_HD_p0_gdR, hp_v_3⟩ := hp_v_3
            obtain ⟨v_4, e_v_4⟩ : ∃ q9 : Int32, q9 = x4 + Int32.ofInt 1 := ⟨_, rfl⟩
            obtain ⟨t_v_4, r_v_4⟩ := tq_add (lo := 1) (hi := 2147483647) r_x4 (show RI (Int32.ofInt 1) 1 1 by unfold RI; decide +kernel) (by decide +kernel) e_v_4
            have t_v_4 : v_4.toInt = x4.toInt + 1 := t_v_4
            refine lv_iinc (v := v_4) (lv' := [(4, .int v_4), (0, .ref p0), (1, .int p1), (2, .int p2), (3, .int x3), (5, .int x5)]) hx hb dX10_drawDays_60 hl (k := 4) rfl e_v_4.symm (by decide) rfl (fun ls hl => ?_)
            refine lv_goto (tgt := 24) hx hb dX10_drawDays_63 (by decide) ?_
            exact ih24 x3 v_4 ws _ _ ls (by have q0 := r_v_4.1; have u0 := r_v_4.2; have o0 := r_x4.1; have p0 := r_x4.2; omega) r_p1 r_p2 (r_x3.to (by decide)) (r_v_4.to (by decide)) x_HD_p0_gdR hw (lv_sub hl [1, 2, 3, 4, 0] rfl)
          · have r_x5 : RI x5 0 7 := rc_lt1 r_x5 r_v_2 (ti_nle c_41) (by decide)
            have r_v_2 : RI v_2 1 8 := rc_lt2 r_x5 r_v_2 (ti_nle c_41) (by decide)
            have x_PPOS_p0 : AX 14 34 (fun f => 0 < (f 3).toInt) Ps ws p0 := AX.mk hw h_vu_1 rfl m_u_1 (fun f9 g9 _ => by have e9 := g9 _ _ m_v_2; have j9 : Int32.toNatClampNeg 3 = 3 := (by decide); rw [j9] at e9; show _; rw [e9]; have := r_v_2.1; omega)
            refine lv_aload_n hx hb dX10_drawDays_44 rfl (lv_at hl 0 rfl) ?_
            refine lv_iload hx hb dX10_drawDays_45 (lv_at hl 5 rfl) ?_
            have hw8 := hw
            refine tk_v (va_runV (As := [.int x5]) (rest := []) ⟨hx, hb, hml, hown, hts⟩ (c_X10_drawsFor__1 l D cy z H.size Ps ws hw.1 p0 x5 (gdR) h_p0 r_x5 x_PPOS_p0 x_HD_p0_gdR) (cwV 1 hts (gV tw_1694 tw_1696 ts_101 tw_15 tw_1697) rfl rfl rfl (by decide +kernel) ⟨Nat.le_of_ble_eq_true rfl, Nat.le_of_ble_eq_true rfl⟩) (tg_preV hw hK hSD hA (ci := 10) (q := (RX10, TX10, 49)) rfl h_p0 rfl) rfl rfl hl.1 rfl (lv_room (Nat.le_of_ble_eq_true rfl)) dX10_drawDays_47 ⟨Nat.le_of_ble_eq_true rfl, Nat.le_of_ble_eq_true rfl⟩) hw hA ⟨by decide, by decide⟩ (fun ws H locs hp_v_5 hw hF9 => ?_)
            have m_u_1 := FLD.over hF9 m_u_1 (by decide)
            obtain ⟨x_HD_p0_gdR, hp_v_5⟩ := hp_v_5
            obtain ⟨v_6, e_v_6⟩ : ∃ q9 : Int32, q9 = x5 + Int32.ofInt 1 := ⟨_, rfl⟩
            obtain ⟨t_v_6, r_v_6⟩ := tq_add (lo := 1) (hi := 8) r_x5 (show RI (Int32.ofInt 1) 1 1 by unfold RI; decide +kernel) (by decide +kernel) e_v_6
            have t_v_6 : v_6.toInt = x5.toInt + 1 := t_v_6
            refine lv_iinc (v := v_6) (lv' := [(5, .int v_6), (0, .ref p0), (1, .int p1), (2, .int p2), (3, .int x3), (4, .int x4)]) hx hb dX10_drawDays_50 hl (k := 5) rfl e_v_6.symm (by decide) rfl (fun ls hl => ?_)
            refine lv_goto (tgt := 33) hx hb dX10_drawDays_53 (by decide) ?_
            exact ih33 x3 x4 v_6 ws _ _ ls (by have q0 := r_v_6.1; have u0 := r_v_6.2; have o0 := r_x5.1; have p0 := r_x5.2; omega) r_p1 r_p2 r_x3 r_x4 (r_v_6.to (by decide)) x_HD_p0_gdR (by have q0 := r_x4.1; have u0 := r_x4.2; omega) hw (lv_sub hl [1, 2, 3, 4, 5, 0] rfl)
      intro x3 x4 ws H locs ls hn24 r_p1 r_p2 r_x3 r_x4 x_HD_p0_gdR hw hl
      refine lv_iload hx hb dX10_drawDays_24 (lv_at hl 4 rfl) ?_
      refine lv_iload_n hx hb dX10_drawDays_26 rfl (lv_at hl 3 rfl) ?_
      refine lv_icmp_ge (tgt := 66) hx hb dX10_drawDays_27 (by decide) (fun c_27 => ?_) (fun c_27 => ?_)
      · refine lv_iload_n hx hb dX10_drawDays_66 rfl (lv_at hl 3 rfl) ?_
        subst hQ
        exact W.iret (v := x3) hx hb hr (fun t ht hW => ⟨⟨x3, ws, rfl, ⟨⟨x_HD_p0_gdR, r_x3.to (by decide), (fun h0 => trivial), (fun h0 => trivial)⟩, hw.1, hw.2.2.2.2.1⟩, by rw [ht]; exact hw.2.1, va_K.moved hW.alike hK, hw.2.2.1⟩, hw.2.2.2.1.F ht⟩) hw.2.2.2.1.2.2 dX10_drawDays_67
      · have r_x4 : RI x4 0 2147483646 := rc_lt1 r_x4 r_x3 (ti_nle c_27) (by decide)
        have r_x3 : RI x3 1 2147483647 := rc_lt2 r_x4 r_x3 (ti_nle c_27) (by decide)
        refine lv_iconst (v := 0) hx hb dX10_drawDays_30 (by decide) ?_
        refine lv_istore (lv' := [(5, .int 0), (0, .ref p0), (1, .int p1), (2, .int p2), (3, .int x3), (4, .int x4)]) hx hb dX10_drawDays_31 hl (by decide) rfl (fun ls hl => ?_)
        exact B33 4294967298 x3 x4 0 ws _ _ ls (by have q0 := rl_0.1; have u0 := rl_0.2; omega) r_p1 r_p2 r_x3 r_x4 (rl_0.to (by decide)) x_HD_p0_gdR (by have q0 := r_x4.1; have u0 := r_x4.2; omega) hw (lv_sub hl [1, 2, 3, 4, 5, 0] rfl)
  refine lv_aload_n hx hb dX10_drawDays_0 rfl (lv_at hl 0 rfl) ?_
  refine lv_iload_n hx hb dX10_drawDays_1 rfl (lv_at hl 2 rfl) ?_
  refine tg_put (ci := 10) (ts := ty_MODEL) (v := .int p2) (ty := .int) (C := RX10) (T := TX10) (N := 49) hx hb hts inX10 tyX10 tyX10_ok nmX10 hown hK hw h_p0 rfl rfl 39 (by decide) (hts _ tw_1176) (fun _ h9 => h9) rfl (by decide +kernel) rfl rfl (ft := vI (-2147483648) 2147483647) rfl ⟨_, rfl, r_p2⟩ (by decide) dX10_drawDays_2 (fun ws H locs hw n_k_7 hF9 => ?_)
  have x_HD_p0_gdR := AX.over hF9 x_HD_p0_gdR (by decide)
  refine lv_iload_n hx hb dX10_drawDays_5 rfl (lv_at hl 1 rfl) ?_
  refine lv_sipush (v := 400) hx hb dX10_drawDays_6 (by decide) ?_
  refine lv_aload_n hx hb dX10_drawDays_9 rfl (lv_at hl 0 rfl) ?_
  refine tg_get (ci := 10) (ts := ty_MODEL) (C := RX10) (T := TX10) (N := 49) hx hb hts inX10 hown hK hw h_p0 rfl rfl 14 (by decide) (hts _ tw_1151) (fun _ h9 => h9) (ft := vR 34) rfl dX10_drawDays_10 (fun u_8 hv_u_8 m_u_8 => ?_)
  obtain ⟨vu_8, rfl, h_vu_8⟩ := hv_u_8
  refine lv_bipush (v := 84) hx hb dX10_drawDays_13 (by decide) ?_
  refine tg_iald (lo := (-2147483648)) (hi := 2147483647) hx hb hK hw h_vu_8 rfl 84 84 rl_84 (by decide) (by decide +kernel) dX10_drawDays_15 (fun v_9 r_v_9 m_v_9 o_v_9 => ?_)
  refine lv_isub hx hb dX10_drawDays_16 (lv_topi (fun v_10 e_v_10 => ?_))
  have r_v_10 := ri_any v_10
  refine tk_ir (va_runS (As := [.int p1, .int v_10]) (rest := []) ⟨hx, hb, hml, hown, hts⟩ (c_X10_least__1 l D cy z H.size Ps ws hw.1 p1 v_10 r_p1 r_v_10) (va_cwS 2 hts (gS tw_1525 tw_1526 tw_15 tw_1527) rfl rfl rfl (by decide +kernel) ⟨Nat.le_of_ble_eq_true rfl, Nat.le_of_ble_eq_true rfl⟩) (tg_preS hw hK hSD hA) rfl rfl hl.1 rfl (lv_room (Nat.le_of_ble_eq_true rfl)) dX10_drawDays_17 ⟨Nat.le_of_ble_eq_true rfl, Nat.le_of_ble_eq_true rfl⟩) hw hA (fun v_11  H locs hp_v_11 hw => ?_)
  have r_v_11 : RI v_11 (-2147483648) 2147483647 := hp_v_11.1
  refine lv_istore_n (lv' := [(3, .int v_11), (0, .ref p0), (1, .int p1), (2, .int p2)]) hx hb dX10_drawDays_20 rfl hl (by decide) rfl (fun ls hl => ?_)
  refine lv_iconst (v := 0) hx hb dX10_drawDays_21 (by decide) ?_
  refine lv_istore (lv' := [(4, .int 0), (3, .int v_11), (0, .ref p0), (1, .int p1), (2, .int p2)]) hx hb dX10_drawDays_22 hl (by decide) rfl (fun ls hl => ?_)
  exact B24 4294967298 v_11 0 ws _ _ ls (by have q0 := rl_0.1; have u0 := rl_0.2; omega) r_p1 r_p2 r_v_11 (rl_0.to (by decide)) x_HD_p0_gdR hw (lv_sub hl [2, 3, 4, 1, 0] rfl)
abbrev wr_X10_drawn__1 : List (Nat × Nat) := [(10, 0), (10, 25), (10, 39)]
abbrev wa_X10_drawn__1 : List Nat := [34, 37, 46]
set_option maxHeartbeats 4000000 in
set_option maxRecDepth 100000 in
theorem c_X10_drawn__1 (l : Launch) (D : va_G) (cy : Nat → ClassId) (z : Nat → Nat) (sz : Nat) (Ps : PSI) (w0 : va_W) (hT : HT cy GG Ps w0) (p0 : Nat) (p1 : Int32) (p2 : Int32) (gdR : Nat → Int32) (h_p0 : (p0, 55) ∈ Ps) (r_p1 : RI p1 (-2147483648) 2147483647) (r_p2 : RI p2 (-2147483648) 2147483647) (x_HD_p0_gdR : AX 14 34 (HDp gdR) Ps w0 p0) : Met l yX10_drawn (Cond.code yX10_drawn cX10_drawn 3 (some .int) :: gT) ({ frames := 6, cells := 0, slots := 0, locals := 1200 } : Room) (va_Pc [.ref p0, .int p1, .int p2] (PRE D cy z w0 sz)) (va_Qi (fun (r : Int32) (u : va_W) => ((AX 14 34 (HDp gdR) Ps u p0) ∧ (RI r (-2147483648) 2147483647 ∧ (r = 0 → True) ∧ (¬ r = 0 → True))) ∧ HT cy GG Ps u ∧ FR wr_X10_drawn__1 wa_X10_drawn__1 Ps w0 u) (BB D cy (va_A w0 sz) (fun (u : va_W) => u)) (va_A w0 sz)) 0 0 (va_A w0 sz) := by
  refine Met.ofW (cc := cX10_drawn) (maxL := 3) (ret := (some .int)) (by decide) rfl ?_
  intro p e s m args below meth c s₁ B hml hv
  obtain ⟨rfl, hsz, hP, hK, hD0, hSD⟩ := hv
  have hx := B.exec
  have hb := B.bytes
  have hr := B.returns
  have hlocks := B.notSynchronized
  have hts : ∀ w ∈ gT, w.before _ s = true := fun w h => atoms_spec (ws := Cond.code yX10_drawn cX10_drawn 3 (some .int) :: gT) B.pre w (List.mem_cons_of_mem _ h)
  have hown : s.vm.findClass RX10 = some m.cls := findClass_of_methodNamed B.named
  subst hsz
  have hD := hD0.self (sz := s.heap.size)
  generalize hAe : va_A w0 s.heap.size = A at hD hSD ⊢
  have hA : ∀ q : Nat, s.heap.size ≤ q → A q := fun q h => by rw [← hAe]; exact Or.inr h
  have hl := lv_entry ([.ref p0, .int p1, .int p2]) (n := 3) (Nat.le_of_ble_eq_true rfl)
  rw [lg_entry_eq]
  generalize (lg_sl ([.ref p0, .int p1, .int p2]) ++ List.replicate (3 - (lg_sl ([.ref p0, .int p1, .int p2])).length) Slot.unset).toArray = ls at hl ⊢
  have hl : lv_has ls 3 [(0, .ref p0), (1, .int p1), (2, .int p2)] := hl
  refine nameQ (fun Q hQ => ?_)
  have hw : WD D cy GG A s wr_X10_drawn__1 wa_X10_drawn__1 Ps w0 Ps w0 s.heap [] := ⟨hT, hP, hD, va_S.rf, FR.rf, hT.1, [], (List.append_nil _).symm⟩
  refine lv_aload_n hx hb dX10_drawn_0 rfl (lv_at hl 0 rfl) ?_
  refine lv_iconst (v := 0) hx hb dX10_drawn_1 (by decide) ?_
  refine tg_put (ci := 10) (ts := ty_MODEL) (v := .int 0) (ty := .int) (C := RX10) (T := TX10) (N := 49) hx hb hts inX10 tyX10 tyX10_ok nmX10 hown hK hw h_p0 rfl rfl 0 (by decide) (hts _ tw_1137) (fun _ h9 => h9) rfl (by decide +kernel) rfl rfl (ft := vI (-2147483648) 2147483647) rfl ⟨_, rfl, (rl_0.to (by decide))⟩ (by decide) dX10_drawn_2 (fun ws H locs hw n_k_1 hF9 => ?_)
  have x_HD_p0_gdR := AX.over hF9 x_HD_p0_gdR (by decide)
  refine lv_iload_n hx hb dX10_drawn_5 rfl (lv_at hl 1 rfl) ?_
  refine lv_iconst (v := 1) hx hb dX10_drawn_6 (by decide) ?_
  refine lv_bipush (v := 60) hx hb dX10_drawn_7 (by decide) ?_
  refine tk_ir (va_runS (As := [.int p1, .int 1, .int 60]) (rest := []) ⟨hx, hb, hml, hown, hts⟩ (c_X10_isIn__3 l D cy z H.size Ps ws hw.1 p1 1 60 r_p1 rl_1 rl_60) (va_cwS 3 hts (gS tw_1359 tw_1360 tw_15 tw_1361) rfl rfl rfl (by decide +kernel) ⟨Nat.le_of_ble_eq_true rfl, Nat.le_of_ble_eq_true rfl⟩) (tg_preS hw hK hSD hA) rfl rfl hl.1 rfl (lv_room (Nat.le_of_ble_eq_true rfl)) dX10_drawn_9 ⟨Nat.le_of_ble_eq_true rfl, Nat.le_of_ble_eq_true rfl⟩) hw hA (fun v_2  H locs hp_v_2 hw => ?_)
  have r_v_2 : RI v_2 0 1 := hp_v_2.1
  refine lv_if_eq (tgt := 24) hx hb dX10_drawn_12 (by decide) (fun c_12 => ?_) (fun c_12 => ?_)
  · have r_v_2 : RI v_2 0 0 := rc_eq1 r_v_2 rl_0 (ti_eq c_12) (by decide)
    refine lv_iconst (v := (-1)) hx hb dX10_drawn_24 (by decide) ?_
    subst hQ
    exact W.iret (v := (-1)) hx hb hr (fun t ht hW => ⟨⟨(-1), ws, rfl, ⟨⟨x_HD_p0_gdR, rl_m1.to (by decide), (fun _ => trivial), (fun h0 => trivial)⟩, hw.1, hw.2.2.2.2.1⟩, by rw [ht]; exact hw.2.1, va_K.moved hW.alike hK, hw.2.2.1⟩, hw.2.2.2.1.F ht⟩) hw.2.2.2.1.2.2 dX10_drawn_25
  · have r_v_2 : RI v_2 1 1 := rc_neL r_v_2 rl_0 (ti_ne c_12) (by decide)
    have r_p1 : RI p1 1 60 := ((hp_v_2.2.2 c_12).1)
    refine lv_aload_n hx hb dX10_drawn_15 rfl (lv_at hl 0 rfl) ?_
    refine tg_get (ci := 10) (ts := ty_MODEL) (C := RX10) (T := TX10) (N := 49) hx hb hts inX10 hown hK hw h_p0 rfl rfl 14 (by decide) (hts _ tw_1151) (fun _ h9 => h9) (ft := vR 34) rfl dX10_drawn_16 (fun u_3 hv_u_3 m_u_3 => ?_)
    obtain ⟨vu_3, rfl, h_vu_3⟩ := hv_u_3
    refine lv_iconst (v := 3) hx hb dX10_drawn_19 (by decide) ?_
    refine tg_iald (lo := 0) (hi := 8) hx hb hK hw h_vu_3 rfl 3 3 rl_3 (by decide) (by decide +kernel) dX10_drawn_20 (fun v_4 r_v_4 m_v_4 o_v_4 => ?_)
    refine lv_if_ne (tgt := 26) hx hb dX10_drawn_21 (by decide) (fun c_21 => ?_) (fun c_21 => ?_)
    · have r_v_4 : RI v_4 1 8 := rc_neL r_v_4 rl_0 (ti_ne c_21) (by decide)
      refine lv_aload_n hx hb dX10_drawn_26 rfl (lv_at hl 0 rfl) ?_
      refine tg_mem (ci := 10) (C := RX10) (T := TX10) (N := 49) hx hb hts inX10 hown hK hw 14 m_u_3 rfl (by decide) (hts _ tw_1151) (fun _ h9 => h9) dX10_drawn_27 ?_
      refine lv_bipush (v := 84) hx hb dX10_drawn_30 (by decide) ?_
      refine tg_iald (lo := (-2147483648)) (hi := 2147483647) hx hb hK hw h_vu_3 rfl 84 84 rl_84 (by decide) (by decide +kernel) dX10_drawn_32 (fun v_5 r_v_5 m_v_5 o_v_5 => ?_)
      refine lv_sipush (v := 400) hx hb dX10_drawn_33 (by decide) ?_
      refine lv_icmp_ne (tgt := 41) hx hb dX10_drawn_36 (by decide) (fun c_36 => ?_) (fun c_36 => ?_)
      · refine lv_aload_n hx hb dX10_drawn_41 rfl (lv_at hl 0 rfl) ?_
        have hw8 := hw
        refine tk_v (va_runV (As := []) (rest := []) ⟨hx, hb, hml, hown, hts⟩ (c_X10_snap l D cy z H.size Ps ws hw.1 p0 h_p0) (cwV 0 hts (gV tw_1505 tw_1507 ts_78 tw_15 tw_1508) rfl rfl rfl (by decide +kernel) ⟨Nat.le_of_ble_eq_true rfl, Nat.le_of_ble_eq_true rfl⟩) (tg_preV hw hK hSD hA (ci := 10) (q := (RX10, TX10, 49)) rfl h_p0 rfl) rfl rfl hl.1 rfl (lv_room (Nat.le_of_ble_eq_true rfl)) dX10_drawn_42 ⟨Nat.le_of_ble_eq_true rfl, Nat.le_of_ble_eq_true rfl⟩) hw hA ⟨by decide, by decide⟩ (fun ws H locs hp_v_6 hw hF9 => ?_)
        have m_v_4 := AEL.over hw8 hF9 h_vu_3 m_v_4 (by decide)
        have m_v_5 := AEL.over hw8 hF9 h_vu_3 m_v_5 (by decide)
        have n_k_1 := FLD.over hF9 n_k_1 (by decide)
        have m_u_3 := FLD.over hF9 m_u_3 (by decide)
        have x_HD_p0_gdR := AX.over hF9 x_HD_p0_gdR (by decide)
        obtain ⟨v_7, m_v_7, r_v_7⟩ := (hp_v_6.1)
        refine lv_aload_n hx hb dX10_drawn_45 rfl (lv_at hl 0 rfl) ?_
        refine lv_iload_n hx hb dX10_drawn_46 rfl (lv_at hl 1 rfl) ?_
        refine lv_iload_n hx hb dX10_drawn_47 rfl (lv_at hl 2 rfl) ?_
        have hw8 := hw
        refine tk_i (va_runV (As := [.int p1, .int p2]) (rest := []) ⟨hx, hb, hml, hown, hts⟩ (c_X10_drawDays__1 l D cy z H.size Ps ws hw.1 p0 p1 p2 (gdR) h_p0 (r_p1.to (by decide)) r_p2 x_HD_p0_gdR) (cwV 2 hts (gV tw_1690 tw_1692 ts_100 tw_15 tw_1693) rfl rfl rfl (by decide +kernel) ⟨Nat.le_of_ble_eq_true rfl, Nat.le_of_ble_eq_true rfl⟩) (tg_preV hw hK hSD hA (ci := 10) (q := (RX10, TX10, 49)) rfl h_p0 rfl) rfl rfl hl.1 rfl (lv_room (Nat.le_of_ble_eq_true rfl)) dX10_drawn_48 ⟨Nat.le_of_ble_eq_true rfl, Nat.le_of_ble_eq_true rfl⟩) hw hA ⟨by decide, by decide⟩ (fun v_8 ws H locs hp_v_8 hw hF9 => ?_)
        have n_k_1 := FLD.over hF9 n_k_1 (by decide)
        have m_u_3 := FLD.over hF9 m_u_3 (by decide)
        have m_v_7 := FLD.over hF9 m_v_7 (by decide)
        obtain ⟨x_HD_p0_gdR, hp_v_8⟩ := hp_v_8
        have r_v_8 : RI v_8 (-2147483648) 2147483647 := hp_v_8.1
        subst hQ
        exact W.iret (v := v_8) hx hb hr (fun t ht hW => ⟨⟨v_8, ws, rfl, ⟨⟨x_HD_p0_gdR, r_v_8.to (by decide), (fun h0 => trivial), (fun h0 => trivial)⟩, hw.1, hw.2.2.2.2.1⟩, by rw [ht]; exact hw.2.1, va_K.moved hW.alike hK, hw.2.2.1⟩, hw.2.2.2.1.F ht⟩) hw.2.2.2.1.2.2 dX10_drawn_51
      · have r_v_5 : RI v_5 400 400 := rc_eq1 r_v_5 rl_400 (ti_eq c_36) (by decide)
        refine lv_iconst (v := 0) hx hb dX10_drawn_39 (by decide) ?_
        subst hQ
        exact W.iret (v := 0) hx hb hr (fun t ht hW => ⟨⟨0, ws, rfl, ⟨⟨x_HD_p0_gdR, rl_0.to (by decide), (fun h0 => trivial), (fun _ => trivial)⟩, hw.1, hw.2.2.2.2.1⟩, by rw [ht]; exact hw.2.1, va_K.moved hW.alike hK, hw.2.2.1⟩, hw.2.2.2.1.F ht⟩) hw.2.2.2.1.2.2 dX10_drawn_40
    · have r_v_4 : RI v_4 0 0 := rc_eq1 r_v_4 rl_0 (ti_eq c_21) (by decide)
      refine lv_iconst (v := (-1)) hx hb dX10_drawn_24 (by decide) ?_
      subst hQ
      exact W.iret (v := (-1)) hx hb hr (fun t ht hW => ⟨⟨(-1), ws, rfl, ⟨⟨x_HD_p0_gdR, rl_m1.to (by decide), (fun _ => trivial), (fun h0 => trivial)⟩, hw.1, hw.2.2.2.2.1⟩, by rw [ht]; exact hw.2.1, va_K.moved hW.alike hK, hw.2.2.1⟩, hw.2.2.2.1.F ht⟩) hw.2.2.2.1.2.2 dX10_drawn_25
abbrev wr_X10_act__7 : List (Nat × Nat) := [(10, 25)]
abbrev wa_X10_act__7 : List Nat := [34, 37]
set_option maxHeartbeats 4000000 in
set_option maxRecDepth 100000 in
theorem c_X10_act__7 (l : Launch) (D : va_G) (cy : Nat → ClassId) (z : Nat → Nat) (sz : Nat) (Ps : PSI) (w0 : va_W) (hT : HT cy GG Ps w0) (p0 : Nat) (p1 : Int32) (p2 : Int32) (p3 : Int32) (gdR : Nat → Int32) (h_p0 : (p0, 55) ∈ Ps) (r_p1 : RI p1 3 3) (r_p2 : RI p2 0 7) (r_p3 : RI p3 0 5) (x_HD_p0_gdR : AX 14 34 (HDp gdR) Ps w0 p0) : Met l yX10_act (Cond.code yX10_act cX10_act 5 (some .int) :: gT) ({ frames := 5, cells := 0, slots := 0, locals := 1000 } : Room) (va_Pc [.ref p0, .int p1, .int p2, .int p3] (PRE D cy z w0 sz)) (va_Qi (fun (r : Int32) (u : va_W) => ((AX 14 34 (HDp gdR) Ps u p0) ∧ (RI r 0 2 ∧ (r = 0 → (∃ v9 : Int32, FLD u p0 10 25 (.int v9) ∧ RI v9 1 8) ∧ True) ∧ (¬ r = 0 → True))) ∧ HT cy GG Ps u ∧ FR wr_X10_act__7 wa_X10_act__7 Ps w0 u) (BB D cy (va_A w0 sz) (fun (u : va_W) => u)) (va_A w0 sz)) 0 0 (va_A w0 sz) := by
  refine Met.ofW (cc := cX10_act) (maxL := 5) (ret := (some .int)) (by decide) rfl ?_
  intro p e s m args below meth c s₁ B hml hv
  obtain ⟨rfl, hsz, hP, hK, hD0, hSD⟩ := hv
  have hx := B.exec
  have hb := B.bytes
  have hr := B.returns
  have hlocks := B.notSynchronized
  have hts : ∀ w ∈ gT, w.before _ s = true := fun w h => atoms_spec (ws := Cond.code yX10_act cX10_act 5 (some .int) :: gT) B.pre w (List.mem_cons_of_mem _ h)
  have hown : s.vm.findClass RX10 = some m.cls := findClass_of_methodNamed B.named
  subst hsz
  have hD := hD0.self (sz := s.heap.size)
  generalize hAe : va_A w0 s.heap.size = A at hD hSD ⊢
  have hA : ∀ q : Nat, s.heap.size ≤ q → A q := fun q h => by rw [← hAe]; exact Or.inr h
  have hl := lv_entry ([.ref p0, .int p1, .int p2, .int p3]) (n := 5) (Nat.le_of_ble_eq_true rfl)
  rw [lg_entry_eq]
  generalize (lg_sl ([.ref p0, .int p1, .int p2, .int p3]) ++ List.replicate (5 - (lg_sl ([.ref p0, .int p1, .int p2, .int p3])).length) Slot.unset).toArray = ls at hl ⊢
  have hl : lv_has ls 5 [(0, .ref p0), (1, .int p1), (2, .int p2), (3, .int p3)] := hl
  refine nameQ (fun Q hQ => ?_)
  have hw : WD D cy GG A s wr_X10_act__7 wa_X10_act__7 Ps w0 Ps w0 s.heap [] := ⟨hT, hP, hD, va_S.rf, FR.rf, hT.1, [], (List.append_nil _).symm⟩
  refine lv_aload_n hx hb dX10_act_0 rfl (lv_at hl 0 rfl) ?_
  refine lv_iload_n hx hb dX10_act_1 rfl (lv_at hl 1 rfl) ?_
  refine lv_iload_n hx hb dX10_act_2 rfl (lv_at hl 2 rfl) ?_
  refine lv_iload_n hx hb dX10_act_3 rfl (lv_at hl 3 rfl) ?_
  refine tk_ir (va_runV (As := [.int p1, .int p2, .int p3]) (rest := []) ⟨hx, hb, hml, hown, hts⟩ (c_X10_why__1 l D cy z s.heap.size Ps w0 hw.1 p0 p1 p2 p3 h_p0 r_p1 r_p2 r_p3) (cwV 3 hts (gV tw_1501 tw_1503 ts_77 tw_15 tw_1504) rfl rfl rfl (by decide +kernel) ⟨Nat.le_of_ble_eq_true rfl, Nat.le_of_ble_eq_true rfl⟩) (tg_preV hw hK hSD hA (ci := 10) (q := (RX10, TX10, 49)) rfl h_p0 rfl) rfl rfl hl.1 rfl (lv_room (Nat.le_of_ble_eq_true rfl)) dX10_act_4 ⟨Nat.le_of_ble_eq_true rfl, Nat.le_of_ble_eq_true rfl⟩) hw hA (fun v_1  H locs hp_v_1 hw => ?_)
  have r_v_1 : RI v_1 0 2 := hp_v_1.1
  by_cases c9_v_1 : v_1 = 0
  · have r_v_1 : RI v_1 0 0 := by rw [c9_v_1]; exact rl_0
    have x_SITOK_p0_p2 := ((hp_v_1.2.1 c9_v_1).1)
    refine lv_istore (lv' := [(4, .int v_1), (0, .ref p0), (1, .int p1), (2, .int p2), (3, .int p3)]) hx hb dX10_act_7 hl (by decide) rfl (fun ls hl => ?_)
    refine lv_iload hx hb dX10_act_9 (lv_at hl 0 rfl) ?_
    refine lv_if_eq (tgt := 17) hx hb dX10_act_11 (by decide) (fun c_11 => ?_) (fun c_11 => ?_)
    · refine lv_aload_n hx hb dX10_act_17 rfl (lv_at hl 1 rfl) ?_
      refine tk_v (va_runV (As := []) (rest := []) ⟨hx, hb, hml, hown, hts⟩ (c_X10_snap l D cy z H.size Ps w0 hw.1 p0 h_p0) (cwV 0 hts (gV tw_1505 tw_1507 ts_78 tw_15 tw_1508) rfl rfl rfl (by decide +kernel) ⟨Nat.le_of_ble_eq_true rfl, Nat.le_of_ble_eq_true rfl⟩) (tg_preV hw hK hSD hA (ci := 10) (q := (RX10, TX10, 49)) rfl h_p0 rfl) rfl rfl hl.1 rfl (lv_room (Nat.le_of_ble_eq_true rfl)) dX10_act_18 ⟨Nat.le_of_ble_eq_true rfl, Nat.le_of_ble_eq_true rfl⟩) hw hA ⟨by decide, by decide⟩ (fun ws H locs hp_v_2 hw hF9 => ?_)
      have x_HD_p0_gdR := AX.over hF9 x_HD_p0_gdR (by decide)
      have x_SITOK_p0_p2 := AX.over hF9 x_SITOK_p0_p2 (by decide)
      obtain ⟨v_3, m_v_3, r_v_3⟩ := (hp_v_2.1)
      refine lv_aload_n hx hb dX10_act_21 rfl (lv_at hl 1 rfl) ?_
      refine lv_iload_n hx hb dX10_act_22 rfl (lv_at hl 2 rfl) ?_
      refine lv_iload_n hx hb dX10_act_23 rfl (lv_at hl 3 rfl) ?_
      refine lv_iload_n hx hb dX10_act_24 rfl (lv_at hl 4 rfl) ?_
      refine tk_v (va_runV (As := [.int p1, .int p2, .int p3]) (rest := []) ⟨hx, hb, hml, hown, hts⟩ (c_X10_live__12 l D cy z H.size Ps ws hw.1 p0 p1 p2 p3 (gdR) h_p0 r_p1 r_p2 r_p3 x_SITOK_p0_p2 x_HD_p0_gdR) (cwV 3 hts (gV tw_1509 tw_1511 ts_79 tw_15 tw_1512) rfl rfl rfl (by decide +kernel) ⟨Nat.le_of_ble_eq_true rfl, Nat.le_of_ble_eq_true rfl⟩) (tg_preV hw hK hSD hA (ci := 10) (q := (RX10, TX10, 49)) rfl h_p0 rfl) rfl rfl hl.1 rfl (lv_room (Nat.le_of_ble_eq_true rfl)) dX10_act_25 ⟨Nat.le_of_ble_eq_true rfl, Nat.le_of_ble_eq_true rfl⟩) hw hA ⟨by decide, by decide⟩ (fun ws H locs hp_v_4 hw hF9 => ?_)
      have m_v_3 := FLD.over hF9 m_v_3 (by decide)
      obtain ⟨x_HD_p0_gdR, hp_v_4⟩ := hp_v_4
      refine lv_iconst (v := 0) hx hb dX10_act_28 (by decide) ?_
      subst hQ
      exact W.iret (v := 0) hx hb hr (fun t ht hW => ⟨⟨0, ws, rfl, ⟨⟨x_HD_p0_gdR, rl_0.to (by decide), (fun h0 => ⟨⟨_, m_v_3, r_v_3⟩, trivial⟩), (fun _ => trivial)⟩, hw.1, hw.2.2.2.2.1⟩, by rw [ht]; exact hw.2.1, va_K.moved hW.alike hK, hw.2.2.1⟩, hw.2.2.2.1.F ht⟩) hw.2.2.2.1.2.2 dX10_act_29
    · exact absurd (r_v_1.eq.trans rl_0.eq.symm) ((ti_ne c_11))
  · have r_v_1 : RI v_1 1 2 := rc_neL r_v_1 rl_0 (ti_ne c9_v_1) (by decide)
    refine lv_istore (lv' := [(4, .int v_1), (0, .ref p0), (1, .int p1), (2, .int p2), (3, .int p3)]) hx hb dX10_act_7 hl (by decide) rfl (fun ls hl => ?_)
    refine lv_iload hx hb dX10_act_9 (lv_at hl 0 rfl) ?_
    refine lv_if_eq (tgt := 17) hx hb dX10_act_11 (by decide) (fun c_11 => ?_) (fun c_11 => ?_)
    · have r_v_1 : RI v_1 1 0 := rc_eq1 r_v_1 rl_0 (ti_eq c_11) (by decide)
      exact (r_v_1.no (by decide)).elim
    · refine lv_iload hx hb dX10_act_14 (lv_at hl 0 rfl) ?_
      subst hQ
      exact W.iret (v := v_1) hx hb hr (fun t ht hW => ⟨⟨v_1, w0, rfl, ⟨⟨x_HD_p0_gdR, r_v_1.to (by decide), (fun h0 => absurd (ti_eq h0) (by have h8 := r_v_1; unfold RI at h8; rw [Int32.toInt_zero]; omega)), (fun h0 => trivial)⟩, hw.1, hw.2.2.2.2.1⟩, by rw [ht]; exact hw.2.1, va_K.moved hW.alike hK, hw.2.2.1⟩, hw.2.2.2.1.F ht⟩) hw.2.2.2.1.2.2 dX10_act_16
abbrev wr_X10_guess__1 : List (Nat × Nat) := [(10, 0), (10, 25)]
abbrev wa_X10_guess__1 : List Nat := [34, 37]
set_option maxHeartbeats 4000000 in
set_option maxRecDepth 100000 in
theorem c_X10_guess__1 (l : Launch) (D : va_G) (cy : Nat → ClassId) (z : Nat → Nat) (sz : Nat) (Ps : PSI) (w0 : va_W) (hT : HT cy GG Ps w0) (p0 : Nat) (p1 : Int32) (p2 : Int32) (gdR : Nat → Int32) (h_p0 : (p0, 55) ∈ Ps) (r_p1 : RI p1 (-2147483648) 2147483647) (r_p2 : RI p2 (-2147483648) 2147483647) (x_HD_p0_gdR : AX 14 34 (HDp gdR) Ps w0 p0) : Met l yX10_guess (Cond.code yX10_guess cX10_guess 5 (some .int) :: gT) ({ frames := 6, cells := 0, slots := 0, locals := 1200 } : Room) (va_Pc [.ref p0, .int p1, .int p2] (PRE D cy z w0 sz)) (va_Qi (fun (r : Int32) (u : va_W) => ((AX 14 34 (HDp gdR) Ps u p0) ∧ (RI r (-3) 1 ∧ (r = 0 → True) ∧ (¬ r = 0 → True))) ∧ HT cy GG Ps u ∧ FR wr_X10_guess__1 wa_X10_guess__1 Ps w0 u) (BB D cy (va_A w0 sz) (fun (u : va_W) => u)) (va_A w0 sz)) 0 0 (va_A w0 sz) := by
  refine Met.ofW (cc := cX10_guess) (maxL := 5) (ret := (some .int)) (by decide) rfl ?_
  intro p e s m args below meth c s₁ B hml hv
  obtain ⟨rfl, hsz, hP, hK, hD0, hSD⟩ := hv
  have hx := B.exec
  have hb := B.bytes
  have hr := B.returns
  have hlocks := B.notSynchronized
  have hts : ∀ w ∈ gT, w.before _ s = true := fun w h => atoms_spec (ws := Cond.code yX10_guess cX10_guess 5 (some .int) :: gT) B.pre w (List.mem_cons_of_mem _ h)
  have hown : s.vm.findClass RX10 = some m.cls := findClass_of_methodNamed B.named
  subst hsz
  have hD := hD0.self (sz := s.heap.size)
  generalize hAe : va_A w0 s.heap.size = A at hD hSD ⊢
  have hA : ∀ q : Nat, s.heap.size ≤ q → A q := fun q h => by rw [← hAe]; exact Or.inr h
  have hl := lv_entry ([.ref p0, .int p1, .int p2]) (n := 5) (Nat.le_of_ble_eq_true rfl)
  rw [lg_entry_eq]
  generalize (lg_sl ([.ref p0, .int p1, .int p2]) ++ List.replicate (5 - (lg_sl ([.ref p0, .int p1, .int p2])).length) Slot.unset).toArray = ls at hl ⊢
  have hl : lv_has ls 5 [(0, .ref p0), (1, .int p1), (2, .int p2)] := hl
  refine nameQ (fun Q hQ => ?_)
  have hw : WD D cy GG A s wr_X10_guess__1 wa_X10_guess__1 Ps w0 Ps w0 s.heap [] := ⟨hT, hP, hD, va_S.rf, FR.rf, hT.1, [], (List.append_nil _).symm⟩
  refine lv_aload_n hx hb dX10_guess_0 rfl (lv_at hl 0 rfl) ?_
  refine lv_iconst (v := 0) hx hb dX10_guess_1 (by decide) ?_
  refine tg_put (ci := 10) (ts := ty_MODEL) (v := .int 0) (ty := .int) (C := RX10) (T := TX10) (N := 49) hx hb hts inX10 tyX10 tyX10_ok nmX10 hown hK hw h_p0 rfl rfl 0 (by decide) (hts _ tw_1137) (fun _ h9 => h9) rfl (by decide +kernel) rfl rfl (ft := vI (-2147483648) 2147483647) rfl ⟨_, rfl, (rl_0.to (by decide))⟩ (by decide) dX10_guess_2 (fun ws H locs hw n_k_1 hF9 => ?_)
  have x_HD_p0_gdR := AX.over hF9 x_HD_p0_gdR (by decide)
  refine lv_aload_n hx hb dX10_guess_5 rfl (lv_at hl 0 rfl) ?_
  refine lv_iload_n hx hb dX10_guess_6 rfl (lv_at hl 1 rfl) ?_
  refine tk_ir (va_runV (As := [.int p1]) (rest := []) ⟨hx, hb, hml, hown, hts⟩ (c_X10_isPerson l D cy z H.size Ps ws hw.1 p0 p1 h_p0 r_p1) (cwV 1 hts (gV tw_1469 tw_1471 ts_73 tw_15 tw_1472) rfl rfl rfl (by decide +kernel) ⟨Nat.le_of_ble_eq_true rfl, Nat.le_of_ble_eq_true rfl⟩) (tg_preV hw hK hSD hA (ci := 10) (q := (RX10, TX10, 49)) rfl h_p0 rfl) rfl rfl hl.1 rfl (lv_room (Nat.le_of_ble_eq_true rfl)) dX10_guess_7 ⟨Nat.le_of_ble_eq_true rfl, Nat.le_of_ble_eq_true rfl⟩) hw hA (fun v_2  H locs hp_v_2 hw => ?_)
  have r_v_2 : RI v_2 0 1 := hp_v_2.1
  refine lv_if_eq (tgt := 21) hx hb dX10_guess_10 (by decide) (fun c_10 => ?_) (fun c_10 => ?_)
  · have r_v_2 : RI v_2 0 0 := rc_eq1 r_v_2 rl_0 (ti_eq c_10) (by decide)
    refine lv_iconst (v := (-1)) hx hb dX10_guess_21 (by decide) ?_
    subst hQ
    exact W.iret (v := (-1)) hx hb hr (fun t ht hW => ⟨⟨(-1), ws, rfl, ⟨⟨x_HD_p0_gdR, rl_m1.to (by decide), (fun _ => trivial), (fun h0 => trivial)⟩, hw.1, hw.2.2.2.2.1⟩, by rw [ht]; exact hw.2.1, va_K.moved hW.alike hK, hw.2.2.1⟩, hw.2.2.2.1.F ht⟩) hw.2.2.2.1.2.2 dX10_guess_22
  · have r_v_2 : RI v_2 1 1 := rc_neL r_v_2 rl_0 (ti_ne c_10) (by decide)
    have r_p1 : RI p1 0 7 := ((hp_v_2.2.2 c_10).1)
    refine lv_aload_n hx hb dX10_guess_13 rfl (lv_at hl 0 rfl) ?_
    refine lv_iload_n hx hb dX10_guess_14 rfl (lv_at hl 2 rfl) ?_
    refine tk_ir (va_runV (As := [.int p2]) (rest := []) ⟨hx, hb, hml, hown, hts⟩ (c_X10_isIdea l D cy z H.size Ps ws hw.1 p0 p2 h_p0 r_p2) (cwV 1 hts (gV tw_1433 tw_1435 ts_66 tw_15 tw_1436) rfl rfl rfl (by decide +kernel) ⟨Nat.le_of_ble_eq_true rfl, Nat.le_of_ble_eq_true rfl⟩) (tg_preV hw hK hSD hA (ci := 10) (q := (RX10, TX10, 49)) rfl h_p0 rfl) rfl rfl hl.1 rfl (lv_room (Nat.le_of_ble_eq_true rfl)) dX10_guess_15 ⟨Nat.le_of_ble_eq_true rfl, Nat.le_of_ble_eq_true rfl⟩) hw hA (fun v_3  H locs hp_v_3 hw => ?_)
    have r_v_3 : RI v_3 0 1 := hp_v_3.1
    refine lv_if_ne (tgt := 23) hx hb dX10_guess_18 (by decide) (fun c_18 => ?_) (fun c_18 => ?_)
    · have r_v_3 : RI v_3 1 1 := rc_neL r_v_3 rl_0 (ti_ne c_18) (by decide)
      have r_p2 : RI p2 0 5 := ((hp_v_3.2.2 c_18).1)
      refine lv_aload_n hx hb dX10_guess_23 rfl (lv_at hl 0 rfl) ?_
      refine tg_get (ci := 10) (ts := ty_MODEL) (C := RX10) (T := TX10) (N := 49) hx hb hts inX10 hown hK hw h_p0 rfl rfl 14 (by decide) (hts _ tw_1151) (fun _ h9 => h9) (ft := vR 34) rfl dX10_guess_24 (fun u_4 hv_u_4 m_u_4 => ?_)
      obtain ⟨vu_4, rfl, h_vu_4⟩ := hv_u_4
      refine lv_bipush (v := 120) hx hb dX10_guess_27 (by decide) ?_
      refine lv_iload_n hx hb dX10_guess_29 rfl (lv_at hl 1 rfl) ?_
      refine lv_iadd hx hb dX10_guess_30 (lv_topi (fun v_5 e_v_5 => ?_))
      obtain ⟨t_v_5, r_v_5⟩ := tq_add (lo := 120) (hi := 127) rl_120 r_p1 (by decide +kernel) e_v_5
      have t_v_5 : v_5.toInt = 120 + p1.toInt := t_v_5
      refine tg_iald (lo := (-2147483648)) (hi := 2147483647) hx hb hK hw h_vu_4 rfl 120 127 r_v_5 (by decide) (by decide +kernel) dX10_guess_31 (fun v_6 r_v_6 m_v_6 o_v_6 => ?_)
      refine lv_istore_n (lv' := [(3, .int v_6), (0, .ref p0), (1, .int p1), (2, .int p2)]) hx hb dX10_guess_32 rfl hl (by decide) rfl (fun ls hl => ?_)
      refine lv_aload_n hx hb dX10_guess_33 rfl (lv_at hl 1 rfl) ?_
      refine lv_iconst (v := 3) hx hb dX10_guess_34 (by decide) ?_
      refine lv_iload_n hx hb dX10_guess_35 rfl (lv_at hl 2 rfl) ?_
      refine lv_iload_n hx hb dX10_guess_36 rfl (lv_at hl 3 rfl) ?_
      have hw8 := hw
      refine tk_i (va_runV (As := [.int 3, .int p1, .int p2]) (rest := []) ⟨hx, hb, hml, hown, hts⟩ (c_X10_act__7 l D cy z H.size Ps ws hw.1 p0 3 p1 p2 (gdR) h_p0 rl_3 r_p1 r_p2 x_HD_p0_gdR) (cwV 3 hts (gV tw_1497 tw_1499 ts_76 tw_15 tw_1500) rfl rfl rfl (by decide +kernel) ⟨Nat.le_of_ble_eq_true rfl, Nat.le_of_ble_eq_true rfl⟩) (tg_preV hw hK hSD hA (ci := 10) (q := (RX10, TX10, 49)) rfl h_p0 rfl) rfl rfl hl.1 rfl (lv_room (Nat.le_of_ble_eq_true rfl)) dX10_guess_37 ⟨Nat.le_of_ble_eq_true rfl, Nat.le_of_ble_eq_true rfl⟩) hw hA ⟨by decide, by decide⟩ (fun v_7 ws H locs hp_v_7 hw hF9 => ?_)
      have n_k_1 := FLD.over hF9 n_k_1 (by decide)
      have m_u_4 := FLD.over hF9 m_u_4 (by decide)
      obtain ⟨x_HD_p0_gdR, hp_v_7⟩ := hp_v_7
      have r_v_7 : RI v_7 0 2 := hp_v_7.1
      by_cases c9_v_7 : v_7 = 0
      · have r_v_7 : RI v_7 0 0 := by rw [c9_v_7]; exact rl_0
        obtain ⟨v_8, m_v_8, r_v_8⟩ := ((hp_v_7.2.1 c9_v_7).1)
        refine lv_istore (lv' := [(4, .int v_7), (3, .int v_6), (0, .ref p0), (1, .int p1), (2, .int p2)]) hx hb dX10_guess_40 hl (by decide) rfl (fun ls hl => ?_)
        refine lv_iload hx hb dX10_guess_42 (lv_at hl 0 rfl) ?_
        refine lv_if_eq (tgt := 54) hx hb dX10_guess_44 (by decide) (fun c_44 => ?_) (fun c_44 => ?_)
        · refine lv_aload_n hx hb dX10_guess_54 rfl (lv_at hl 2 rfl) ?_
          refine tg_mem (ci := 10) (C := RX10) (T := TX10) (N := 49) hx hb hts inX10 hown hK hw 14 m_u_4 rfl (by decide) (hts _ tw_1151) (fun _ h9 => h9) dX10_guess_55 ?_
          refine lv_bipush (v := 120) hx hb dX10_guess_58 (by decide) ?_
          refine lv_iload_n hx hb dX10_guess_60 rfl (lv_at hl 3 rfl) ?_
          refine lv_iadd hx hb dX10_guess_61 (lv_topi (fun v_9 e_v_9 => ?_))
          obtain ⟨t_v_9, r_v_9⟩ := tq_add (lo := 120) (hi := 127) rl_120 r_p1 (by decide +kernel) e_v_9
          have t_v_9 : v_9.toInt = 120 + p1.toInt := t_v_9
          refine tg_iald (lo := (-2147483648)) (hi := 2147483647) hx hb hK hw h_vu_4 rfl 120 127 r_v_9 (by decide) (by decide +kernel) dX10_guess_62 (fun v_10 r_v_10 m_v_10 o_v_10 => ?_)
          refine lv_iload_n hx hb dX10_guess_63 rfl (lv_at hl 1 rfl) ?_
          refine lv_icmp_le (tgt := 71) hx hb dX10_guess_64 (by decide) (fun c_64 => ?_) (fun c_64 => ?_)
          · refine lv_iconst (v := 0) hx hb dX10_guess_71 (by decide) ?_
            subst hQ
            exact W.iret (v := 0) hx hb hr (fun t ht hW => ⟨⟨0, ws, rfl, ⟨⟨x_HD_p0_gdR, rl_0.to (by decide), (fun h0 => trivial), (fun _ => trivial)⟩, hw.1, hw.2.2.2.2.1⟩, by rw [ht]; exact hw.2.1, va_K.moved hW.alike hK, hw.2.2.1⟩, hw.2.2.2.1.F ht⟩) hw.2.2.2.1.2.2 dX10_guess_72
          · have r_v_6 : RI v_6 (-2147483648) 2147483646 := rc_lt1 r_v_6 r_v_10 (ti_nle c_64) (by decide)
            have r_v_10 : RI v_10 (-2147483647) 2147483647 := rc_lt2 r_v_6 r_v_10 (ti_nle c_64) (by decide)
            refine lv_iconst (v := 1) hx hb dX10_guess_67 (by decide) ?_
            refine lv_goto (tgt := 72) hx hb dX10_guess_68 (by decide) ?_
            subst hQ
            exact W.iret (v := 1) hx hb hr (fun t ht hW => ⟨⟨1, ws, rfl, ⟨⟨x_HD_p0_gdR, rl_1.to (by decide), (fun _ => trivial), (fun h0 => trivial)⟩, hw.1, hw.2.2.2.2.1⟩, by rw [ht]; exact hw.2.1, va_K.moved hW.alike hK, hw.2.2.1⟩, hw.2.2.2.1.F ht⟩) hw.2.2.2.1.2.2 dX10_guess_72
        · exact absurd (r_v_7.eq.trans rl_0.eq.symm) ((ti_ne c_44))
      · have r_v_7 : RI v_7 1 2 := rc_neL r_v_7 rl_0 (ti_ne c9_v_7) (by decide)
        refine lv_istore (lv' := [(4, .int v_7), (3, .int v_6), (0, .ref p0), (1, .int p1), (2, .int p2)]) hx hb dX10_guess_40 hl (by decide) rfl (fun ls hl => ?_)
        refine lv_iload hx hb dX10_guess_42 (lv_at hl 0 rfl) ?_
        refine lv_if_eq (tgt := 54) hx hb dX10_guess_44 (by decide) (fun c_44 => ?_) (fun c_44 => ?_)
        · have r_v_7 : RI v_7 1 0 := rc_eq1 r_v_7 rl_0 (ti_eq c_44) (by decide)
          exact (r_v_7.no (by decide)).elim
        · refine lv_iconst (v := (-1)) hx hb dX10_guess_47 (by decide) ?_
          refine lv_iload hx hb dX10_guess_48 (lv_at hl 0 rfl) ?_
          refine lv_isub hx hb dX10_guess_50 (lv_topi (fun v_11 e_v_11 => ?_))
          obtain ⟨t_v_11, r_v_11⟩ := tq_sub (lo := (-3)) (hi := (-2)) rl_m1 r_v_7 (by decide +kernel) e_v_11
          have t_v_11 : v_11.toInt = (-1) - v_7.toInt := t_v_11
          refine lv_goto (tgt := 72) hx hb dX10_guess_51 (by decide) ?_
          subst hQ
          exact W.iret (v := v_11) hx hb hr (fun t ht hW => ⟨⟨v_11, ws, rfl, ⟨⟨x_HD_p0_gdR, r_v_11.to (by decide), (fun _ => trivial), (fun h0 => trivial)⟩, hw.1, hw.2.2.2.2.1⟩, by rw [ht]; exact hw.2.1, va_K.moved hW.alike hK, hw.2.2.1⟩, hw.2.2.2.1.F ht⟩) hw.2.2.2.1.2.2 dX10_guess_72
    · have r_v_3 : RI v_3 0 0 := rc_eq1 r_v_3 rl_0 (ti_eq c_18) (by decide)
      refine lv_iconst (v := (-1)) hx hb dX10_guess_21 (by decide) ?_
      subst hQ
      exact W.iret (v := (-1)) hx hb hr (fun t ht hW => ⟨⟨(-1), ws, rfl, ⟨⟨x_HD_p0_gdR, rl_m1.to (by decide), (fun _ => trivial), (fun h0 => trivial)⟩, hw.1, hw.2.2.2.2.1⟩, by rw [ht]; exact hw.2.1, va_K.moved hW.alike hK, hw.2.2.1⟩, hw.2.2.2.1.F ht⟩) hw.2.2.2.1.2.2 dX10_guess_22
abbrev wr_X10_back__1 : List (Nat × Nat) := []
abbrev wa_X10_back__1 : List Nat := [34]
set_option maxHeartbeats 4000000 in
set_option maxRecDepth 100000 in
theorem c_X10_back__1 (l : Launch) (D : va_G) (cy : Nat → ClassId) (z : Nat → Nat) (sz : Nat) (Ps : PSI) (w0 : va_W) (hT : HT cy GG Ps w0) (p0 : Nat) (gdR : Nat → Int32) (h_p0 : (p0, 55) ∈ Ps) (x_HD_p0_gdR : AX 14 34 (HDp gdR) Ps w0 p0) : Met l yX10_back (Cond.code yX10_back cX10_back 2 none :: gT) ({ frames := 0, cells := 0, slots := 0, locals := 200 } : Room) (va_Pc [.ref p0] (PRE D cy z w0 sz)) (va_Qv (fun (u : va_W) => ((AX 14 34 (HDp gdR) Ps u p0) ∧ (True)) ∧ HT cy GG Ps u ∧ FR wr_X10_back__1 wa_X10_back__1 Ps w0 u) (BB D cy (va_A w0 sz) (fun (u : va_W) => u)) (va_A w0 sz)) 0 0 (va_A w0 sz) := by
  refine Met.ofW (cc := cX10_back) (maxL := 2) (ret := none) (by decide) rfl ?_
  intro p e s m args below meth c s₁ B hml hv
  obtain ⟨rfl, hsz, hP, hK, hD0, hSD⟩ := hv
  have hx := B.exec
  have hb := B.bytes
  have hr := B.returns
  have hlocks := B.notSynchronized
  have hts : ∀ w ∈ gT, w.before _ s = true := fun w h => atoms_spec (ws := Cond.code yX10_back cX10_back 2 none :: gT) B.pre w (List.mem_cons_of_mem _ h)
  have hown : s.vm.findClass RX10 = some m.cls := findClass_of_methodNamed B.named
  subst hsz
  have hD := hD0.self (sz := s.heap.size)
  generalize hAe : va_A w0 s.heap.size = A at hD hSD ⊢
  have hA : ∀ q : Nat, s.heap.size ≤ q → A q := fun q h => by rw [← hAe]; exact Or.inr h
  have hl := lv_entry ([.ref p0]) (n := 2) (Nat.le_of_ble_eq_true rfl)
  rw [lg_entry_eq]
  generalize (lg_sl ([.ref p0]) ++ List.replicate (2 - (lg_sl ([.ref p0])).length) Slot.unset).toArray = ls at hl ⊢
  have hl : lv_has ls 2 [(0, .ref p0)] := hl
  refine nameQ (fun Q hQ => ?_)
  have hw : WD D cy GG A s wr_X10_back__1 wa_X10_back__1 Ps w0 Ps w0 s.heap [] := ⟨hT, hP, hD, va_S.rf, FR.rf, hT.1, [], (List.append_nil _).symm⟩
  have B2 : ∀ (nf : Nat) (x1 : Int32) (ws : va_W) (H : Heap) (locs : List Loc) (ls : Array Slot), 88 - x1.toInt < (nf : Int) → RI x1 0 88 → AX 14 34 (HDp gdR) Ps ws p0 → WD D cy GG A s wr_X10_back__1 wa_X10_back__1 Ps w0 Ps ws H locs → lv_has ls 2 [(0, .ref p0), (1, .int x1)] → W p l e (headSpec (Cond.code yX10_back cX10_back 2 none :: gT) ({ frames := 0, cells := 0, slots := 0, locals := 200 } : Room)).room s m ([.ref p0] : List Value).toArray below meth c H locs 0 0 Q (F0 m 2 ls []) := by
    intro nf2
    induction nf2 with
    | zero =>
      intro x1 ws H locs ls hn2 r_x1 x_HD_p0_gdR hw hl
      exact absurd hn2 (by have q0 := r_x1.1; have u0 := r_x1.2; omega)
    | succ nf2 ih2 =>
      intro x1 ws H locs ls hn2 r_x1 x_HD_p0_gdR hw hl
      refine lv_iload_n hx hb dX10_back_2 rfl (lv_at hl 1 rfl) ?_
      refine lv_bipush (v := 88) hx hb dX10_back_3 (by decide) ?_
      refine lv_icmp_ge (tgt := 29) hx hb dX10_back_5 (by decide) (fun c_5 => ?_) (fun c_5 => ?_)
      · have r_x1 : RI x1 88 88 := rc_le2 rl_88 r_x1 (ti_le c_5) (by decide)
        subst hQ
        exact W.vret hx hb hr (fun t ht hW => ⟨⟨ws, rfl, ⟨⟨x_HD_p0_gdR, trivial⟩, hw.1, hw.2.2.2.2.1⟩, by rw [ht]; exact hw.2.1, va_K.moved hW.alike hK, hw.2.2.1⟩, hw.2.2.2.1.F ht⟩) hw.2.2.2.1.2.2 dX10_back_29
      · have r_x1 : RI x1 0 87 := rc_lt1 r_x1 rl_88 (ti_nle c_5) (by decide)
        refine lv_aload_n hx hb dX10_back_8 rfl (lv_at hl 0 rfl) ?_
        refine tg_get (ci := 10) (ts := ty_MODEL) (C := RX10) (T := TX10) (N := 49) hx hb hts inX10 hown hK hw h_p0 rfl rfl 14 (by decide) (hts _ tw_1151) (fun _ h9 => h9) (ft := vR 34) rfl dX10_back_9 (fun u_1 hv_u_1 m_u_1 => ?_)
        obtain ⟨vu_1, rfl, h_vu_1⟩ := hv_u_1
        refine lv_bipush (v := 84) hx hb dX10_back_12 (by decide) ?_
        refine lv_iload_n hx hb dX10_back_14 rfl (lv_at hl 1 rfl) ?_
        refine lv_iadd hx hb dX10_back_15 (lv_topi (fun v_2 e_v_2 => ?_))
        obtain ⟨t_v_2, r_v_2⟩ := tq_add (lo := 84) (hi := 171) rl_84 r_x1 (by decide +kernel) e_v_2
        have t_v_2 : v_2.toInt = 84 + x1.toInt := t_v_2
        refine lv_aload_n hx hb dX10_back_16 rfl (lv_at hl 0 rfl) ?_
        refine tg_get (ci := 10) (ts := ty_MODEL) (C := RX10) (T := TX10) (N := 49) hx hb hts inX10 hown hK hw h_p0 rfl rfl 19 (by decide) (hts _ tw_1156) (fun _ h9 => h9) (ft := vR 39) rfl dX10_back_17 (fun u_3 hv_u_3 m_u_3 => ?_)
        obtain ⟨vu_3, rfl, h_vu_3⟩ := hv_u_3
        refine lv_iload_n hx hb dX10_back_20 rfl (lv_at hl 1 rfl) ?_
        refine tg_iald (lo := (-2147483648)) (hi := 2147483647) hx hb hK hw h_vu_3 rfl 0 87 r_x1 (by decide) (by decide +kernel) dX10_back_21 (fun v_4 r_v_4 m_v_4 o_v_4 => ?_)
        have hw8 := hw
        have e_5 : 84 + x1.toNatClampNeg = v_2.toNatClampNeg := by have k1 := r_x1.cl (by decide); have k2 := r_v_2.cl (by decide); have b10 := r_x1.1; have b20 := r_x1.2; have b11 := r_v_2.1; have b21 := r_v_2.2; have b12 := r_v_4.1; have b22 := r_v_4.2; omega
        refine tg_iasto hx hb hK hw h_vu_1 rfl 84 171 r_v_2 (by decide) (show RI _ (canon (v_2.toNatClampNeg)).1 (canon (v_2.toNatClampNeg)).2 by rw [← e_5]; exact o_v_4) (RN_upd (by decide) (by decide)) (by decide) dX10_back_22 (fun ws H locs hw hF9 hU9 => ?_)
        have x_HD_p0_gdR : AX 14 34 (HDp gdR) Ps ws p0 := AX.ast hF9 hU9 x_HD_p0_gdR m_u_1 (fun f9 h9 => HDp.upd h9 (by have k1 := r_v_2.cl (by decide); have k2 := r_v_2.1; omega))
        have m_v_4 := AEL.over hw8 hF9 h_vu_3 m_v_4 (by decide)
        have m_u_1 := FLD.over hF9 m_u_1 (by decide)
        have m_u_3 := FLD.over hF9 m_u_3 (by decide)
        obtain ⟨v_6, e_v_6⟩ : ∃ q9 : Int32, q9 = x1 + Int32.ofInt 1 := ⟨_, rfl⟩
        obtain ⟨t_v_6, r_v_6⟩ := tq_add (lo := 1) (hi := 88) r_x1 (show RI (Int32.ofInt 1) 1 1 by unfold RI; decide +kernel) (by decide +kernel) e_v_6
        have t_v_6 : v_6.toInt = x1.toInt + 1 := t_v_6
        refine lv_iinc (v := v_6) (lv' := [(1, .int v_6), (0, .ref p0)]) hx hb dX10_back_23 hl (k := 1) rfl e_v_6.symm (by decide) rfl (fun ls hl => ?_)
        refine lv_goto (tgt := 2) hx hb dX10_back_26 (by decide) ?_
        exact ih2 v_6 ws _ _ ls (by have q0 := r_v_6.1; have u0 := r_v_6.2; have o0 := r_x1.1; have p0 := r_x1.2; omega) (r_v_6.to (by decide)) x_HD_p0_gdR hw (lv_sub hl [1, 0] rfl)
  refine lv_iconst (v := 0) hx hb dX10_back_0 (by decide) ?_
  refine lv_istore_n (lv' := [(1, .int 0), (0, .ref p0)]) hx hb dX10_back_1 rfl hl (by decide) rfl (fun ls hl => ?_)
  exact B2 4294967298 0 w0 _ _ ls (by have q0 := rl_0.1; have u0 := rl_0.2; omega) (rl_0.to (by decide)) x_HD_p0_gdR hw (lv_sub hl [1, 0] rfl)
abbrev wr_X10_less__3 : List (Nat × Nat) := []
abbrev wa_X10_less__3 : List Nat := [34]
set_option maxHeartbeats 4000000 in
set_option maxRecDepth 100000 in
theorem c_X10_less__3 (l : Launch) (D : va_G) (cy : Nat → ClassId) (z : Nat → Nat) (sz : Nat) (Ps : PSI) (w0 : va_W) (hT : HT cy GG Ps w0) (p0 : Nat) (p1 : Int32) (p2 : Int32) (gh : Int) (gdR : Nat → Int32) (h_p0 : (p0, 55) ∈ Ps) (r_p1 : RI p1 0 5) (r_p2 : RI p2 0 5) (x_SL_p0_p1_gh : AX 14 34 (fun f => SLp f p1 (gh)) Ps w0 p0) (x_WB_p0_p1_p2 : AX 14 34 (fun f => WBp f p1 p2) Ps w0 p0) (x_HD_p0_gdR : AX 14 34 (HDp gdR) Ps w0 p0) : Met l yX10_less (Cond.code yX10_less cX10_less 3 none :: gT) ({ frames := 2, cells := 0, slots := 0, locals := 400 } : Room) (va_Pc [.ref p0, .int p1, .int p2] (PRE D cy z w0 sz)) (va_Qv (fun (u : va_W) => ((AX 14 34 (HDp gdR) Ps u p0) ∧ (AX 14 34 (fun f => SLp f p1 (gh-1)) Ps u p0 ∧ True)) ∧ HT cy GG Ps u ∧ FR wr_X10_less__3 wa_X10_less__3 Ps w0 u) (BB D cy (va_A w0 sz) (fun (u : va_W) => u)) (va_A w0 sz)) 0 0 (va_A w0 sz) := by
  refine Met.ofW (cc := cX10_less) (maxL := 3) (ret := none) (by decide) rfl ?_
  intro p e s m args below meth c s₁ B hml hv
  obtain ⟨rfl, hsz, hP, hK, hD0, hSD⟩ := hv
  have hx := B.exec
  have hb := B.bytes
  have hr := B.returns
  have hlocks := B.notSynchronized
  have hts : ∀ w ∈ gT, w.before _ s = true := fun w h => atoms_spec (ws := Cond.code yX10_less cX10_less 3 none :: gT) B.pre w (List.mem_cons_of_mem _ h)
  have hown : s.vm.findClass RX10 = some m.cls := findClass_of_methodNamed B.named
  subst hsz
  have hD := hD0.self (sz := s.heap.size)
  generalize hAe : va_A w0 s.heap.size = A at hD hSD ⊢
  have hA : ∀ q : Nat, s.heap.size ≤ q → A q := fun q h => by rw [← hAe]; exact Or.inr h
  have hl := lv_entry ([.ref p0, .int p1, .int p2]) (n := 3) (Nat.le_of_ble_eq_true rfl)
  rw [lg_entry_eq]
  generalize (lg_sl ([.ref p0, .int p1, .int p2]) ++ List.replicate (3 - (lg_sl ([.ref p0, .int p1, .int p2])).length) Slot.unset).toArray = ls at hl ⊢
  have hl : lv_has ls 3 [(0, .ref p0), (1, .int p1), (2, .int p2)] := hl
  refine nameQ (fun Q hQ => ?_)
  have hw : WD D cy GG A s wr_X10_less__3 wa_X10_less__3 Ps w0 Ps w0 s.heap [] := ⟨hT, hP, hD, va_S.rf, FR.rf, hT.1, [], (List.append_nil _).symm⟩
  refine lv_aload_n hx hb dX10_less_0 rfl (lv_at hl 0 rfl) ?_
  refine tg_get (ci := 10) (ts := ty_MODEL) (C := RX10) (T := TX10) (N := 49) hx hb hts inX10 hown hK hw h_p0 rfl rfl 14 (by decide) (hts _ tw_1151) (fun _ h9 => h9) (ft := vR 34) rfl dX10_less_1 (fun u_1 hv_u_1 m_u_1 => ?_)
  obtain ⟨vu_1, rfl, h_vu_1⟩ := hv_u_1
  refine lv_sipush (v := 136) hx hb dX10_less_4 (by decide) ?_
  refine lv_bipush (v := 6) hx hb dX10_less_7 (by decide) ?_
  refine lv_iload_n hx hb dX10_less_9 rfl (lv_at hl 1 rfl) ?_
  refine lv_imul hx hb dX10_less_10 (lv_topi (fun v_2 e_v_2 => ?_))
  obtain ⟨t_v_2, r_v_2⟩ := tq_mul (lo := 0) (hi := 30) rl_6 r_p1 (by decide +kernel) e_v_2
  have t_v_2 : v_2.toInt = 6 * p1.toInt := t_v_2
  refine lv_iadd hx hb dX10_less_11 (lv_topi (fun v_3 e_v_3 => ?_))
  obtain ⟨t_v_3, r_v_3⟩ := tq_add (lo := 136) (hi := 166) rl_136 r_v_2 (by decide +kernel) e_v_3
  have t_v_3 : v_3.toInt = 136 + v_2.toInt := t_v_3
  refine lv_iload_n hx hb dX10_less_12 rfl (lv_at hl 2 rfl) ?_
  refine lv_iadd hx hb dX10_less_13 (lv_topi (fun v_4 e_v_4 => ?_))
  obtain ⟨t_v_4, r_v_4⟩ := tq_add (lo := 136) (hi := 171) r_v_3 r_p2 (by decide +kernel) e_v_4
  refine lv_aload_n hx hb dX10_less_14 rfl (lv_at hl 0 rfl) ?_
  refine lv_iload_n hx hb dX10_less_15 rfl (lv_at hl 1 rfl) ?_
  refine lv_iload_n hx hb dX10_less_16 rfl (lv_at hl 2 rfl) ?_
  refine tk_ir (va_runV (As := [.int p1, .int p2]) (rest := [.int v_4, .ref vu_1]) ⟨hx, hb, hml, hown, hts⟩ (c_X10_muchOf l D cy z s.heap.size Ps w0 hw.1 p0 p1 p2 h_p0 r_p1 r_p2) (cwV 2 hts (gV tw_1437 tw_1439 ts_67 tw_15 tw_1440) rfl rfl rfl (by decide +kernel) ⟨Nat.le_of_ble_eq_true rfl, Nat.le_of_ble_eq_true rfl⟩) (tg_preV hw hK hSD hA (ci := 10) (q := (RX10, TX10, 49)) rfl h_p0 rfl) rfl rfl hl.1 rfl (lv_room (Nat.le_of_ble_eq_true rfl)) dX10_less_17 ⟨Nat.le_of_ble_eq_true rfl, Nat.le_of_ble_eq_true rfl⟩) hw hA (fun v_5  H locs hp_v_5 hw => ?_)
  have r_v_5 : RI v_5 (-2147483648) 2147483647 := hp_v_5.1
  have x_MUCH_p0_p1_p2_v_5 := hp_v_5.2.2.2.1.1
  refine lv_aload_n hx hb dX10_less_20 rfl (lv_at hl 0 rfl) ?_
  refine tg_mem (ci := 10) (C := RX10) (T := TX10) (N := 49) hx hb hts inX10 hown hK hw 14 m_u_1 rfl (by decide) (hts _ tw_1151) (fun _ h9 => h9) dX10_less_21 ?_
  refine lv_iconst (v := 5) hx hb dX10_less_24 (by decide) ?_
  refine tg_iald (lo := (-2147483648)) (hi := 2147483647) hx hb hK hw h_vu_1 rfl 5 5 rl_5 (by decide) (by decide +kernel) dX10_less_25 (fun v_6 r_v_6 m_v_6 o_v_6 => ?_)
  refine lv_icmp_ge (tgt := 33) hx hb dX10_less_26 (by decide) (fun c_26 => ?_) (fun c_26 => ?_)
  · refine lv_aload_n hx hb dX10_less_33 rfl (lv_at hl 0 rfl) ?_
    refine lv_iload_n hx hb dX10_less_34 rfl (lv_at hl 1 rfl) ?_
    refine lv_iload_n hx hb dX10_less_35 rfl (lv_at hl 2 rfl) ?_
    refine tk_ir (va_runV (As := [.int p1, .int p2]) (rest := [.int v_4, .ref vu_1]) ⟨hx, hb, hml, hown, hts⟩ (c_X10_muchOf l D cy z H.size Ps w0 hw.1 p0 p1 p2 h_p0 r_p1 r_p2) (cwV 2 hts (gV tw_1437 tw_1439 ts_67 tw_15 tw_1440) rfl rfl rfl (by decide +kernel) ⟨Nat.le_of_ble_eq_true rfl, Nat.le_of_ble_eq_true rfl⟩) (tg_preV hw hK hSD hA (ci := 10) (q := (RX10, TX10, 49)) rfl h_p0 rfl) rfl rfl hl.1 rfl (lv_room (Nat.le_of_ble_eq_true rfl)) dX10_less_36 ⟨Nat.le_of_ble_eq_true rfl, Nat.le_of_ble_eq_true rfl⟩) hw hA (fun v_7  H locs hp_v_7 hw => ?_)
    have r_v_7 : RI v_7 (-2147483648) 2147483647 := hp_v_7.1
    have x_MUCH_p0_p1_p2_v_7 := hp_v_7.2.2.2.1.1
    refine lv_aload_n hx hb dX10_less_39 rfl (lv_at hl 0 rfl) ?_
    refine tg_mem (ci := 10) (C := RX10) (T := TX10) (N := 49) hx hb hts inX10 hown hK hw 14 m_u_1 rfl (by decide) (hts _ tw_1151) (fun _ h9 => h9) dX10_less_40 ?_
    refine lv_iconst (v := 5) hx hb dX10_less_43 (by decide) ?_
    refine tg_imem hx hb hK hw h_vu_1 rfl rl_5 (by decide) m_v_6 dX10_less_44 ?_
    refine lv_isub hx hb dX10_less_45 (lv_topi (fun v_9 e_v_9 => ?_))
    have r_v_9 := ri_any v_9
    have x_G5 : AX 14 34 (fun f => f 5 = v_6) Ps w0 p0 := AX.mk hw h_vu_1 rfl m_u_1 (fun f9 g9 _ => by have e9 := g9 _ _ m_v_6; have j9 : Int32.toNatClampNeg 5 = 5 := (by decide); rw [j9] at e9; exact e9)
    have e_m9 : v_7 = v_5 := by obtain ⟨_, f9, _, _, h9⟩ := AX.and hw x_MUCH_p0_p1_p2_v_7 x_MUCH_p0_p1_p2_v_5; exact h9.1.symm.trans h9.2
    have e_m8 := congrArg Int32.toInt e_m9
    have x_LS_p0_v_7_v_6 : AX 14 34 (fun f => RN f ∧ SLp f p1 gh ∧ WBp f p1 p2 ∧ f (136 + 6 * Int32.toNatClampNeg p1 + Int32.toNatClampNeg p2) = v_7 ∧ f 5 = v_6) Ps w0 p0 := AX.imp (AX.and hw (ax_of (k := 14) (t := 34) hw h_p0 rfl (fun _ => rfl)) (AX.and hw x_SL_p0_p1_gh (AX.and hw x_WB_p0_p1_p2 (AX.and hw x_MUCH_p0_p1_p2_v_7 x_G5)))) (fun f9 h9 => ⟨h9.1.1, h9.2.1, h9.2.2.1, h9.2.2.2.1, h9.2.2.2.2⟩)
    have hw8 := hw
    refine tg_iast hx hb hK hw h_vu_1 rfl 136 171 r_v_4 (by decide) r_v_9 (by decide +kernel) (RN_upd (by decide) (by decide)) (by decide) dX10_less_46 (fun ws H locs hw hF9 hU9 => ?_)
    have x_HD_p0_gdR : AX 14 34 (HDp gdR) Ps ws p0 := AX.ast hF9 hU9 x_HD_p0_gdR m_u_1 (fun f9 h9 => HDp.upd h9 (by have k1 := r_v_4.cl (by decide); have k2 := r_v_4.1; omega))
    have x_SL_p0_p1_gh_1 : AX 14 34 (fun f => SLp f p1 (gh-1)) Ps ws p0 := AX.ast hF9 hU9 x_LS_p0_v_7_v_6 m_u_1 (fun f9 h9 => SL_less h9.1 h9.2.1 h9.2.2.1 (by have k1 := r_v_4.cl (by decide); have k2 := r_p1.cl (by decide); have k3 := r_p2.cl (by decide); omega) h9.2.2.2.1 h9.2.2.2.2 (Or.inr ⟨e_v_9, by have k1 := ti_le c_26; omega⟩))
    have m_u_1 := FLD.over hF9 m_u_1 (by decide)
    subst hQ
    exact W.vret hx hb hr (fun t ht hW => ⟨⟨ws, rfl, ⟨⟨x_HD_p0_gdR, ⟨x_SL_p0_p1_gh_1, trivial⟩⟩, hw.1, hw.2.2.2.2.1⟩, by rw [ht]; exact hw.2.1, va_K.moved hW.alike hK, hw.2.2.1⟩, hw.2.2.2.1.F ht⟩) hw.2.2.2.1.2.2 dX10_less_47
  · have r_v_5 : RI v_5 (-2147483648) 2147483646 := rc_lt1 r_v_5 r_v_6 (ti_nle c_26) (by decide)
    have r_v_6 : RI v_6 (-2147483647) 2147483647 := rc_lt2 r_v_5 r_v_6 (ti_nle c_26) (by decide)
    refine lv_iconst (v := 0) hx hb dX10_less_29 (by decide) ?_
    refine lv_goto (tgt := 46) hx hb dX10_less_30 (by decide) ?_
    have x_G5 : AX 14 34 (fun f => f 5 = v_6) Ps w0 p0 := AX.mk hw h_vu_1 rfl m_u_1 (fun f9 g9 _ => by have e9 := g9 _ _ m_v_6; have j9 : Int32.toNatClampNeg 5 = 5 := (by decide); rw [j9] at e9; exact e9)
    have x_LS_p0_v_5_v_6 : AX 14 34 (fun f => RN f ∧ SLp f p1 gh ∧ WBp f p1 p2 ∧ f (136 + 6 * Int32.toNatClampNeg p1 + Int32.toNatClampNeg p2) = v_5 ∧ f 5 = v_6) Ps w0 p0 := AX.imp (AX.and hw (ax_of (k := 14) (t := 34) hw h_p0 rfl (fun _ => rfl)) (AX.and hw x_SL_p0_p1_gh (AX.and hw x_WB_p0_p1_p2 (AX.and hw x_MUCH_p0_p1_p2_v_5 x_G5)))) (fun f9 h9 => ⟨h9.1.1, h9.2.1, h9.2.2.1, h9.2.2.2.1, h9.2.2.2.2⟩)
    have hw8 := hw
    refine tg_iast hx hb hK hw h_vu_1 rfl 136 171 r_v_4 (by decide) rl_0 (by decide +kernel) (RN_zero rl_0 (by decide)) (by decide) dX10_less_46 (fun ws H locs hw hF9 hU9 => ?_)
    have x_HD_p0_gdR : AX 14 34 (HDp gdR) Ps ws p0 := AX.ast hF9 hU9 x_HD_p0_gdR m_u_1 (fun f9 h9 => HDp.upd h9 (by have k1 := r_v_4.cl (by decide); have k2 := r_v_4.1; omega))
    have x_SL_p0_p1_gh_1 : AX 14 34 (fun f => SLp f p1 (gh-1)) Ps ws p0 := AX.ast hF9 hU9 x_LS_p0_v_5_v_6 m_u_1 (fun f9 h9 => SL_less h9.1 h9.2.1 h9.2.2.1 (by have k1 := r_v_4.cl (by decide); have k2 := r_p1.cl (by decide); have k3 := r_p2.cl (by decide); omega) h9.2.2.2.1 h9.2.2.2.2 (Or.inl ⟨by decide, by have k1 := ti_nle c_26; have k2 := k1; omega⟩))
    have m_u_1 := FLD.over hF9 m_u_1 (by decide)
    subst hQ
    exact W.vret hx hb hr (fun t ht hW => ⟨⟨ws, rfl, ⟨⟨x_HD_p0_gdR, ⟨x_SL_p0_p1_gh_1, trivial⟩⟩, hw.1, hw.2.2.2.2.1⟩, by rw [ht]; exact hw.2.1, va_K.moved hW.alike hK, hw.2.2.1⟩, hw.2.2.2.1.F ht⟩) hw.2.2.2.1.2.2 dX10_less_47
abbrev wr_X10_let__1 : List (Nat × Nat) := [(10, 0)]
abbrev wa_X10_let__1 : List Nat := [34, 39]
set_option maxHeartbeats 4000000 in
set_option maxRecDepth 100000 in
theorem c_X10_let__1 (l : Launch) (D : va_G) (cy : Nat → ClassId) (z : Nat → Nat) (sz : Nat) (Ps : PSI) (w0 : va_W) (hT : HT cy GG Ps w0) (p0 : Nat) (p1 : Int32) (gdR : Nat → Int32) (h_p0 : (p0, 55) ∈ Ps) (r_p1 : RI p1 (-2147483648) 2147483647) (x_HD_p0_gdR : AX 14 34 (HDp gdR) Ps w0 p0) : Met l yX10_let (Cond.code yX10_let cX10_let 3 (some .int) :: gT) ({ frames := 3, cells := 0, slots := 0, locals := 600 } : Room) (va_Pc [.ref p0, .int p1] (PRE D cy z w0 sz)) (va_Qi (fun (r : Int32) (u : va_W) => ((AX 14 34 (HDp gdR) Ps u p0) ∧ (RI r (-2147483648) 2147483647 ∧ (r = 0 → True) ∧ (¬ r = 0 → True))) ∧ HT cy GG Ps u ∧ FR wr_X10_let__1 wa_X10_let__1 Ps w0 u) (BB D cy (va_A w0 sz) (fun (u : va_W) => u)) (va_A w0 sz)) 0 0 (va_A w0 sz) := by
  refine Met.ofW (cc := cX10_let) (maxL := 3) (ret := (some .int)) (by decide) rfl ?_
  intro p e s m args below meth c s₁ B hml hv
  obtain ⟨rfl, hsz, hP, hK, hD0, hSD⟩ := hv
  have hx := B.exec
  have hb := B.bytes
  have hr := B.returns
  have hlocks := B.notSynchronized
  have hts : ∀ w ∈ gT, w.before _ s = true := fun w h => atoms_spec (ws := Cond.code yX10_let cX10_let 3 (some .int) :: gT) B.pre w (List.mem_cons_of_mem _ h)
  have hown : s.vm.findClass RX10 = some m.cls := findClass_of_methodNamed B.named
  subst hsz
  have hD := hD0.self (sz := s.heap.size)
  generalize hAe : va_A w0 s.heap.size = A at hD hSD ⊢
  have hA : ∀ q : Nat, s.heap.size ≤ q → A q := fun q h => by rw [← hAe]; exact Or.inr h
  have hl := lv_entry ([.ref p0, .int p1]) (n := 3) (Nat.le_of_ble_eq_true rfl)
  rw [lg_entry_eq]
  generalize (lg_sl ([.ref p0, .int p1]) ++ List.replicate (3 - (lg_sl ([.ref p0, .int p1])).length) Slot.unset).toArray = ls at hl ⊢
  have hl : lv_has ls 3 [(0, .ref p0), (1, .int p1)] := hl
  refine nameQ (fun Q hQ => ?_)
  have hw : WD D cy GG A s wr_X10_let__1 wa_X10_let__1 Ps w0 Ps w0 s.heap [] := ⟨hT, hP, hD, va_S.rf, FR.rf, hT.1, [], (List.append_nil _).symm⟩
  have B21 : ∀ (nf : Nat) (x2 : Int32) (z0_0 : Int32) (gz : Int) (ws : va_W) (H : Heap) (locs : List Loc) (ls : Array Slot), gz + 1 < (nf : Int) → RI p1 0 5 → RI x2 (-2147483648) 2147483647 → RI z0_0 0 0 → FLD ws p0 10 0 (.int z0_0) → AX 14 34 (HDp gdR) Ps ws p0 → AX 14 34 (fun f => SLp f p1 (gz)) Ps ws p0 → WD D cy GG A s wr_X10_let__1 wa_X10_let__1 Ps w0 Ps ws H locs → lv_has ls 3 [(0, .ref p0), (1, .int p1), (2, .int x2)] → W p l e (headSpec (Cond.code yX10_let cX10_let 3 (some .int) :: gT) ({ frames := 3, cells := 0, slots := 0, locals := 600 } : Room)).room s m ([.ref p0, .int p1] : List Value).toArray below meth c H locs 0 0 Q (F0 m 21 ls []) := by
    intro nf21
    induction nf21 with
    | zero =>
      intro x2 z0_0 gz ws H locs ls hn21 r_p1 r_x2 r_z0_0 m_z0_0 x_HD_p0_gdR x_SL_p0_p1_gz hw hl
      exact absurd hn21 (by obtain ⟨_, _, _, _, q9⟩ := x_SL_p0_p1_gz; have q8 := SL_nn q9; omega)
    | succ nf21 ih21 =>
      intro x2 z0_0 gz ws H locs ls hn21 r_p1 r_x2 r_z0_0 m_z0_0 x_HD_p0_gdR x_SL_p0_p1_gz hw hl
      refine lv_aload_n hx hb dX10_let_21 rfl (lv_at hl 0 rfl) ?_
      refine lv_iload_n hx hb dX10_let_22 rfl (lv_at hl 1 rfl) ?_
      refine tk_ir (va_runV (As := [.int p1]) (rest := []) ⟨hx, hb, hml, hown, hts⟩ (c_X10_whatIs l D cy z H.size Ps ws hw.1 p0 p1 h_p0 r_p1) (cwV 1 hts (gV tw_1449 tw_1451 ts_69 tw_15 tw_1452) rfl rfl rfl (by decide +kernel) ⟨Nat.le_of_ble_eq_true rfl, Nat.le_of_ble_eq_true rfl⟩) (tg_preV hw hK hSD hA (ci := 10) (q := (RX10, TX10, 49)) rfl h_p0 rfl) rfl rfl hl.1 rfl (lv_room (Nat.le_of_ble_eq_true rfl)) dX10_let_23 ⟨Nat.le_of_ble_eq_true rfl, Nat.le_of_ble_eq_true rfl⟩) hw hA (fun v_1  H locs hp_v_1 hw => ?_)
      have r_v_1 : RI v_1 (-1) 5 := hp_v_1.1
      by_cases c9_v_1 : v_1.toInt < 0
      · have r_v_1 : RI v_1 (-1) (-1) := by unfold RI at r_v_1 ⊢; omega
        have x_NB_p0_p1 := (hp_v_1.2.2.2.2.1 (by omega)).1
        refine lv_iconst (v := (-1)) hx hb dX10_let_26 (by decide) ?_
        refine lv_icmp_eq (tgt := 46) hx hb dX10_let_27 (by decide) (fun c_27 => ?_) (fun c_27 => ?_)
        · refine lv_aload_n hx hb dX10_let_46 rfl (lv_at hl 0 rfl) ?_
          refine tk_v (va_runV (As := []) (rest := []) ⟨hx, hb, hml, hown, hts⟩ (c_X10_back__1 l D cy z H.size Ps ws hw.1 p0 (gdR) h_p0 x_HD_p0_gdR) (cwV 0 hts (gV tw_1611 tw_1613 ts_92 tw_15 tw_1614) rfl rfl rfl (by decide +kernel) ⟨Nat.le_of_ble_eq_true rfl, Nat.le_of_ble_eq_true rfl⟩) (tg_preV hw hK hSD hA (ci := 10) (q := (RX10, TX10, 49)) rfl h_p0 rfl) rfl rfl hl.1 rfl (lv_room (Nat.le_of_ble_eq_true rfl)) dX10_let_47 ⟨Nat.le_of_ble_eq_true rfl, Nat.le_of_ble_eq_true rfl⟩) hw hA ⟨by decide, by decide⟩ (fun ws H locs hp_v_2 hw hF9 => ?_)
          have m_z0_0 := FLD.over hF9 m_z0_0 (by decide)
          obtain ⟨x_HD_p0_gdR, hp_v_2⟩ := hp_v_2
          refine lv_iload_n hx hb dX10_let_50 rfl (lv_at hl 2 rfl) ?_
          subst hQ
          exact W.iret (v := x2) hx hb hr (fun t ht hW => ⟨⟨x2, ws, rfl, ⟨⟨x_HD_p0_gdR, r_x2.to (by decide), (fun h0 => trivial), (fun h0 => trivial)⟩, hw.1, hw.2.2.2.2.1⟩, by rw [ht]; exact hw.2.1, va_K.moved hW.alike hK, hw.2.2.1⟩, hw.2.2.2.1.F ht⟩) hw.2.2.2.1.2.2 dX10_let_51
        · exact absurd (r_v_1.eq.trans rl_m1.eq.symm) ((ti_ne c_27))
      · have r_v_1 : RI v_1 0 5 := by unfold RI at r_v_1 ⊢; omega
        have x_WB_p0_p1_v_1 := (hp_v_1.2.2.2.2.2 (by omega)).1
        refine lv_iconst (v := (-1)) hx hb dX10_let_26 (by decide) ?_
        refine lv_icmp_eq (tgt := 46) hx hb dX10_let_27 (by decide) (fun c_27 => ?_) (fun c_27 => ?_)
        · have r_v_1 : RI v_1 0 (-1) := rc_eq1 r_v_1 rl_m1 (ti_eq c_27) (by decide)
          exact (r_v_1.no (by decide)).elim
        · refine lv_aload_n hx hb dX10_let_30 rfl (lv_at hl 0 rfl) ?_
          refine lv_iload_n hx hb dX10_let_31 rfl (lv_at hl 1 rfl) ?_
          refine lv_aload_n hx hb dX10_let_32 rfl (lv_at hl 0 rfl) ?_
          refine lv_iload_n hx hb dX10_let_33 rfl (lv_at hl 1 rfl) ?_
          refine tk_ir (va_runV (As := [.int p1]) (rest := [.int p1, .ref p0]) ⟨hx, hb, hml, hown, hts⟩ (c_X10_whatIs l D cy z H.size Ps ws hw.1 p0 p1 h_p0 r_p1) (cwV 1 hts (gV tw_1449 tw_1451 ts_69 tw_15 tw_1452) rfl rfl rfl (by decide +kernel) ⟨Nat.le_of_ble_eq_true rfl, Nat.le_of_ble_eq_true rfl⟩) (tg_preV hw hK hSD hA (ci := 10) (q := (RX10, TX10, 49)) rfl h_p0 rfl) rfl rfl hl.1 rfl (lv_room (Nat.le_of_ble_eq_true rfl)) dX10_let_34 ⟨Nat.le_of_ble_eq_true rfl, Nat.le_of_ble_eq_true rfl⟩) hw hA (fun v_3  H locs hp_v_3 hw => ?_)
          have r_v_3 : RI v_3 (-1) 5 := hp_v_3.1
          by_cases c9_v_3 : v_3.toInt < 0
          · have r_v_3 : RI v_3 (-1) (-1) := by unfold RI at r_v_3 ⊢; omega
            have x_NB_p0_p1 := (hp_v_3.2.2.2.2.1 (by omega)).1
            exact (AX.no hw x_NB_p0_p1 x_WB_p0_p1_v_1 (fun _ h9 g9 => NW_no h9 g9)).elim
          · have r_v_3 : RI v_3 0 5 := by unfold RI at r_v_3 ⊢; omega
            have x_WB_p0_p1_v_3 := (hp_v_3.2.2.2.2.2 (by omega)).1
            refine tk_v (va_runV (As := [.int p1, .int v_3]) (rest := []) ⟨hx, hb, hml, hown, hts⟩ (c_X10_less__3 l D cy z H.size Ps ws hw.1 p0 p1 v_3 (gz) (gdR) h_p0 r_p1 r_v_3 x_SL_p0_p1_gz x_WB_p0_p1_v_3 x_HD_p0_gdR) (cwV 2 hts (gV tw_1517 tw_1519 ts_81 tw_15 tw_1520) rfl rfl rfl (by decide +kernel) ⟨Nat.le_of_ble_eq_true rfl, Nat.le_of_ble_eq_true rfl⟩) (tg_preV hw hK hSD hA (ci := 10) (q := (RX10, TX10, 49)) rfl h_p0 rfl) rfl rfl hl.1 rfl (lv_room (Nat.le_of_ble_eq_true rfl)) dX10_let_37 ⟨Nat.le_of_ble_eq_true rfl, Nat.le_of_ble_eq_true rfl⟩) hw hA ⟨by decide, by decide⟩ (fun ws H locs hp_v_4 hw hF9 => ?_)
            have m_z0_0 := FLD.over hF9 m_z0_0 (by decide)
            obtain ⟨x_HD_p0_gdR, hp_v_4⟩ := hp_v_4
            have x_SL_p0_p1_gz_1 := (hp_v_4.1)
            obtain ⟨v_5, e_v_5⟩ : ∃ q9 : Int32, q9 = x2 + Int32.ofInt 1 := ⟨_, rfl⟩
            have r_v_5 := ri_any v_5
            refine lv_iinc (v := v_5) (lv' := [(2, .int v_5), (0, .ref p0), (1, .int p1)]) hx hb dX10_let_40 hl (k := 2) rfl e_v_5.symm (by decide) rfl (fun ls hl => ?_)
            refine lv_goto (tgt := 21) hx hb dX10_let_43 (by decide) ?_
            exact ih21 v_5 z0_0 (gz-1) ws _ _ ls (by omega) r_p1 r_v_5 r_z0_0 m_z0_0 x_HD_p0_gdR x_SL_p0_p1_gz_1 hw (lv_sub hl [1, 2, 0] rfl)
  refine lv_aload_n hx hb dX10_let_0 rfl (lv_at hl 0 rfl) ?_
  refine lv_iconst (v := 0) hx hb dX10_let_1 (by decide) ?_
  refine tg_put (ci := 10) (ts := ty_MODEL) (v := .int 0) (ty := .int) (C := RX10) (T := TX10) (N := 49) hx hb hts inX10 tyX10 tyX10_ok nmX10 hown hK hw h_p0 rfl rfl 0 (by decide) (hts _ tw_1137) (fun _ h9 => h9) rfl (by decide +kernel) rfl rfl (ft := vI (-2147483648) 2147483647) rfl ⟨_, rfl, (rl_0.to (by decide))⟩ (by decide) dX10_let_2 (fun ws H locs hw n_k_6 hF9 => ?_)
  have x_HD_p0_gdR := AX.over hF9 x_HD_p0_gdR (by decide)
  refine lv_aload_n hx hb dX10_let_5 rfl (lv_at hl 0 rfl) ?_
  refine lv_iload_n hx hb dX10_let_6 rfl (lv_at hl 1 rfl) ?_
  refine tk_ir (va_runV (As := [.int p1]) (rest := []) ⟨hx, hb, hml, hown, hts⟩ (c_X10_isParcel l D cy z H.size Ps ws hw.1 p0 p1 h_p0 r_p1) (cwV 1 hts (gV tw_1429 tw_1431 ts_65 tw_15 tw_1432) rfl rfl rfl (by decide +kernel) ⟨Nat.le_of_ble_eq_true rfl, Nat.le_of_ble_eq_true rfl⟩) (tg_preV hw hK hSD hA (ci := 10) (q := (RX10, TX10, 49)) rfl h_p0 rfl) rfl rfl hl.1 rfl (lv_room (Nat.le_of_ble_eq_true rfl)) dX10_let_7 ⟨Nat.le_of_ble_eq_true rfl, Nat.le_of_ble_eq_true rfl⟩) hw hA (fun v_7  H locs hp_v_7 hw => ?_)
  have r_v_7 : RI v_7 0 1 := hp_v_7.1
  refine lv_if_ne (tgt := 15) hx hb dX10_let_10 (by decide) (fun c_10 => ?_) (fun c_10 => ?_)
  · have r_v_7 : RI v_7 1 1 := rc_neL r_v_7 rl_0 (ti_ne c_10) (by decide)
    have r_p1 : RI p1 0 5 := ((hp_v_7.2.2 c_10).1)
    refine lv_aload_n hx hb dX10_let_15 rfl (lv_at hl 0 rfl) ?_
    refine tk_v (va_runV (As := []) (rest := []) ⟨hx, hb, hml, hown, hts⟩ (c_X10_hold l D cy z H.size Ps ws hw.1 p0 h_p0) (cwV 0 hts (gV tw_1607 tw_1609 ts_91 tw_15 tw_1610) rfl rfl rfl (by decide +kernel) ⟨Nat.le_of_ble_eq_true rfl, Nat.le_of_ble_eq_true rfl⟩) (tg_preV hw hK hSD hA (ci := 10) (q := (RX10, TX10, 49)) rfl h_p0 rfl) rfl rfl hl.1 rfl (lv_room (Nat.le_of_ble_eq_true rfl)) dX10_let_16 ⟨Nat.le_of_ble_eq_true rfl, Nat.le_of_ble_eq_true rfl⟩) hw hA ⟨by decide, by decide⟩ (fun ws H locs hp_v_8 hw hF9 => ?_)
    have n_k_6 := FLD.over hF9 n_k_6 (by decide)
    have x_HD_p0_gdR := AX.over hF9 x_HD_p0_gdR (by decide)
    refine lv_iconst (v := 0) hx hb dX10_let_19 (by decide) ?_
    refine lv_istore_n (lv' := [(2, .int 0), (0, .ref p0), (1, .int p1)]) hx hb dX10_let_20 rfl hl (by decide) rfl (fun ls hl => ?_)
    have x_SL_p0_p1_12884901888 : AX 14 34 (fun f => SLp f p1 (12884901888)) Ps ws p0 := AX.imp (ax_of (k := 14) (t := 34) hw h_p0 rfl (fun _ => rfl)) (fun f9 _ => sq_top f9 p1)
    exact B21 12884901890 0 0 (12884901888) ws _ _ ls (by omega) r_p1 (rl_0.to (by decide)) rl_0 n_k_6 x_HD_p0_gdR x_SL_p0_p1_12884901888 hw (lv_sub hl [1, 2, 0] rfl)
  · have r_v_7 : RI v_7 0 0 := rc_eq1 r_v_7 rl_0 (ti_eq c_10) (by decide)
    refine lv_iconst (v := (-1)) hx hb dX10_let_13 (by decide) ?_
    subst hQ
    exact W.iret (v := (-1)) hx hb hr (fun t ht hW => ⟨⟨(-1), ws, rfl, ⟨⟨x_HD_p0_gdR, rl_m1.to (by decide), (fun _ => trivial), (fun h0 => trivial)⟩, hw.1, hw.2.2.2.2.1⟩, by rw [ht]; exact hw.2.1, va_K.moved hW.alike hK, hw.2.2.1⟩, hw.2.2.2.1.F ht⟩) hw.2.2.2.1.2.2 dX10_let_14
abbrev wr_X10_odds__1 : List (Nat × Nat) := [(10, 0), (10, 39)]
abbrev wa_X10_odds__1 : List Nat := [34, 38, 46]
set_option maxHeartbeats 4000000 in
set_option maxRecDepth 100000 in
theorem c_X10_odds__1 (l : Launch) (D : va_G) (cy : Nat → ClassId) (z : Nat → Nat) (sz : Nat) (Ps : PSI) (w0 : va_W) (hT : HT cy GG Ps w0) (p0 : Nat) (p1 : Int32) (p2 : Int32) (p3 : Int32) (p4 : Int32) (gdR : Nat → Int32) (h_p0 : (p0, 55) ∈ Ps) (r_p1 : RI p1 (-2147483648) 2147483647) (r_p2 : RI p2 (-2147483648) 2147483647) (r_p3 : RI p3 (-2147483648) 2147483647) (r_p4 : RI p4 (-2147483648) 2147483647) (x_HD_p0_gdR : AX 14 34 (HDp gdR) Ps w0 p0) : Met l yX10_odds (Cond.code yX10_odds cX10_odds 7 (some .int) :: gT) ({ frames := 6, cells := 0, slots := 0, locals := 1200 } : Room) (va_Pc [.ref p0, .int p1, .int p2, .int p3, .int p4] (PRE D cy z w0 sz)) (va_Qi (fun (r : Int32) (u : va_W) => ((AX 14 34 (HDp gdR) Ps u p0) ∧ (RI r (-2147483648) 2147483647 ∧ (r = 0 → True) ∧ (¬ r = 0 → True))) ∧ HT cy GG Ps u ∧ FR wr_X10_odds__1 wa_X10_odds__1 Ps w0 u) (BB D cy (va_A w0 sz) (fun (u : va_W) => u)) (va_A w0 sz)) 0 0 (va_A w0 sz) := by
  refine Met.ofW (cc := cX10_odds) (maxL := 7) (ret := (some .int)) (by decide) rfl ?_
  intro p e s m args below meth c s₁ B hml hv
  obtain ⟨rfl, hsz, hP, hK, hD0, hSD⟩ := hv
  have hx := B.exec
  have hb := B.bytes
  have hr := B.returns
  have hlocks := B.notSynchronized
  have hts : ∀ w ∈ gT, w.before _ s = true := fun w h => atoms_spec (ws := Cond.code yX10_odds cX10_odds 7 (some .int) :: gT) B.pre w (List.mem_cons_of_mem _ h)
  have hown : s.vm.findClass RX10 = some m.cls := findClass_of_methodNamed B.named
  subst hsz
  have hD := hD0.self (sz := s.heap.size)
  generalize hAe : va_A w0 s.heap.size = A at hD hSD ⊢
  have hA : ∀ q : Nat, s.heap.size ≤ q → A q := fun q h => by rw [← hAe]; exact Or.inr h
  have hl := lv_entry ([.ref p0, .int p1, .int p2, .int p3, .int p4]) (n := 7) (Nat.le_of_ble_eq_true rfl)
  rw [lg_entry_eq]
  generalize (lg_sl ([.ref p0, .int p1, .int p2, .int p3, .int p4]) ++ List.replicate (7 - (lg_sl ([.ref p0, .int p1, .int p2, .int p3, .int p4])).length) Slot.unset).toArray = ls at hl ⊢
  have hl : lv_has ls 7 [(0, .ref p0), (1, .int p1), (2, .int p2), (3, .int p3), (4, .int p4)] := hl
  refine nameQ (fun Q hQ => ?_)
  have hw : WD D cy GG A s wr_X10_odds__1 wa_X10_odds__1 Ps w0 Ps w0 s.heap [] := ⟨hT, hP, hD, va_S.rf, FR.rf, hT.1, [], (List.append_nil _).symm⟩
  have B43 : ∀ (nf : Nat) (x5 : Int32) (x6 : Int32) (z0_0 : Int32) (ws : va_W) (H : Heap) (locs : List Loc) (ls : Array Slot), 30 - x6.toInt < (nf : Int) → RI p1 0 5 → RI p2 0 5 → RI p3 1 30 → RI p4 (-2147483648) 2147483647 → RI x5 (-2147483648) 2147483647 → RI x6 0 30 → RI z0_0 0 0 → FLD ws p0 10 0 (.int z0_0) → AX 14 34 (HDp gdR) Ps ws p0 → WD D cy GG A s wr_X10_odds__1 wa_X10_odds__1 Ps w0 Ps ws H locs → lv_has ls 7 [(0, .ref p0), (1, .int p1), (2, .int p2), (3, .int p3), (4, .int p4), (5, .int x5), (6, .int x6)] → W p l e (headSpec (Cond.code yX10_odds cX10_odds 7 (some .int) :: gT) ({ frames := 6, cells := 0, slots := 0, locals := 1200 } : Room)).room s m ([.ref p0, .int p1, .int p2, .int p3, .int p4] : List Value).toArray below meth c H locs 0 0 Q (F0 m 43 ls []) := by
    intro nf43
    induction nf43 with
    | zero =>
      intro x5 x6 z0_0 ws H locs ls hn43 r_p1 r_p2 r_p3 r_p4 r_x5 r_x6 r_z0_0 m_z0_0 x_HD_p0_gdR hw hl
      exact absurd hn43 (by have q0 := r_x6.1; have u0 := r_x6.2; omega)
    | succ nf43 ih43 =>
      have B73 : ∀ (x5 : Int32) (x6 : Int32) (z0_0 : Int32) (ws : va_W) (H : Heap) (locs : List Loc) (ls : Array Slot), RI p1 0 5 → RI p2 0 5 → RI p3 1 30 → RI p4 (-2147483648) 2147483647 → RI x5 (-2147483648) 2147483647 → RI x6 0 29 → RI z0_0 0 0 → FLD ws p0 10 0 (.int z0_0) → AX 14 34 (HDp gdR) Ps ws p0 → 30 - x6.toInt < ((nf43 + 1 : Nat) : Int) → WD D cy GG A s wr_X10_odds__1 wa_X10_odds__1 Ps w0 Ps ws H locs → lv_has ls 7 [(0, .ref p0), (1, .int p1), (2, .int p2), (3, .int p3), (4, .int p4), (5, .int x5), (6, .int x6)] → W p l e (headSpec (Cond.code yX10_odds cX10_odds 7 (some .int) :: gT) ({ frames := 6, cells := 0, slots := 0, locals := 1200 } : Room)).room s m ([.ref p0, .int p1, .int p2, .int p3, .int p4] : List Value).toArray below meth c H locs 0 0 Q (F0 m 73 ls []) := by
        intro x5 x6 z0_0 ws H locs ls r_p1 r_p2 r_p3 r_p4 r_x5 r_x6 r_z0_0 m_z0_0 x_HD_p0_gdR hn43 hw hl
        refine lv_aload_n hx hb dX10_odds_73 rfl (lv_at hl 0 rfl) ?_
        refine tk_v (va_runV (As := []) (rest := []) ⟨hx, hb, hml, hown, hts⟩ (c_X10_takeBack__1 l D cy z H.size Ps ws hw.1 p0 (gdR) h_p0 x_HD_p0_gdR) (cwV 0 hts (gV tw_1587 tw_1589 ts_89 tw_15 tw_1590) rfl rfl rfl (by decide +kernel) ⟨Nat.le_of_ble_eq_true rfl, Nat.le_of_ble_eq_true rfl⟩) (tg_preV hw hK hSD hA (ci := 10) (q := (RX10, TX10, 49)) rfl h_p0 rfl) rfl rfl hl.1 rfl (lv_room (Nat.le_of_ble_eq_true rfl)) dX10_odds_74 ⟨Nat.le_of_ble_eq_true rfl, Nat.le_of_ble_eq_true rfl⟩) hw hA ⟨by decide, by decide⟩ (fun ws H locs hp_v_1 hw hF9 => ?_)
        have m_z0_0 := FLD.over hF9 m_z0_0 (by decide)
        obtain ⟨x_HD_p0_gdR, hp_v_1⟩ := hp_v_1
        obtain ⟨v_2, e_v_2⟩ : ∃ q9 : Int32, q9 = x6 + Int32.ofInt 1 := ⟨_, rfl⟩
        obtain ⟨t_v_2, r_v_2⟩ := tq_add (lo := 1) (hi := 30) r_x6 (show RI (Int32.ofInt 1) 1 1 by unfold RI; decide +kernel) (by decide +kernel) e_v_2
        have t_v_2 : v_2.toInt = x6.toInt + 1 := t_v_2
        refine lv_iinc (v := v_2) (lv' := [(6, .int v_2), (0, .ref p0), (1, .int p1), (2, .int p2), (3, .int p3), (4, .int p4), (5, .int x5)]) hx hb dX10_odds_77 hl (k := 6) rfl e_v_2.symm (by decide) rfl (fun ls hl => ?_)
        refine lv_goto (tgt := 43) hx hb dX10_odds_80 (by decide) ?_
        exact ih43 x5 v_2 z0_0 ws _ _ ls (by have q0 := r_v_2.1; have u0 := r_v_2.2; have o0 := r_x6.1; have p0 := r_x6.2; omega) r_p1 r_p2 r_p3 r_p4 r_x5 (r_v_2.to (by decide)) r_z0_0 m_z0_0 x_HD_p0_gdR hw (lv_sub hl [1, 2, 3, 4, 5, 6, 0] rfl)
      intro x5 x6 z0_0 ws H locs ls hn43 r_p1 r_p2 r_p3 r_p4 r_x5 r_x6 r_z0_0 m_z0_0 x_HD_p0_gdR hw hl
      refine lv_iload hx hb dX10_odds_43 (lv_at hl 6 rfl) ?_
      refine lv_iload_n hx hb dX10_odds_45 rfl (lv_at hl 3 rfl) ?_
      refine lv_icmp_ge (tgt := 83) hx hb dX10_odds_46 (by decide) (fun c_46 => ?_) (fun c_46 => ?_)
      · have r_x6 : RI x6 1 30 := rc_le2 r_p3 r_x6 (ti_le c_46) (by decide)
        refine lv_iload hx hb dX10_odds_83 (lv_at hl 5 rfl) ?_
        subst hQ
        exact W.iret (v := x5) hx hb hr (fun t ht hW => ⟨⟨x5, ws, rfl, ⟨⟨x_HD_p0_gdR, r_x5.to (by decide), (fun h0 => trivial), (fun h0 => trivial)⟩, hw.1, hw.2.2.2.2.1⟩, by rw [ht]; exact hw.2.1, va_K.moved hW.alike hK, hw.2.2.1⟩, hw.2.2.2.1.F ht⟩) hw.2.2.2.1.2.2 dX10_odds_85
      · have r_x6 : RI x6 0 29 := rc_lt1 r_x6 r_p3 (ti_nle c_46) (by decide)
        refine lv_aload_n hx hb dX10_odds_49 rfl (lv_at hl 0 rfl) ?_
        refine lv_bipush (v := 20) hx hb dX10_odds_50 (by decide) ?_
        refine lv_iload hx hb dX10_odds_52 (lv_at hl 4 rfl) ?_
        refine lv_iload hx hb dX10_odds_54 (lv_at hl 6 rfl) ?_
        refine lv_iadd hx hb dX10_odds_56 (lv_topi (fun v_3 e_v_3 => ?_))
        have r_v_3 := ri_any v_3
        refine tk_i (va_runV (As := [.int 20, .int v_3]) (rest := []) ⟨hx, hb, hml, hown, hts⟩ (c_X10_drawDays__1 l D cy z H.size Ps ws hw.1 p0 20 v_3 (gdR) h_p0 (rl_20.to (by decide)) r_v_3 x_HD_p0_gdR) (cwV 2 hts (gV tw_1690 tw_1692 ts_100 tw_15 tw_1693) rfl rfl rfl (by decide +kernel) ⟨Nat.le_of_ble_eq_true rfl, Nat.le_of_ble_eq_true rfl⟩) (tg_preV hw hK hSD hA (ci := 10) (q := (RX10, TX10, 49)) rfl h_p0 rfl) rfl rfl hl.1 rfl (lv_room (Nat.le_of_ble_eq_true rfl)) dX10_odds_57 ⟨Nat.le_of_ble_eq_true rfl, Nat.le_of_ble_eq_true rfl⟩) hw hA ⟨by decide, by decide⟩ (fun v_4 ws H locs hp_v_4 hw hF9 => ?_)
        have m_z0_0 := FLD.over hF9 m_z0_0 (by decide)
        obtain ⟨x_HD_p0_gdR, hp_v_4⟩ := hp_v_4
        have r_v_4 : RI v_4 (-2147483648) 2147483647 := hp_v_4.1
        refine lv_pop hx hb dX10_odds_60 rfl ?_
        refine lv_aload_n hx hb dX10_odds_61 rfl (lv_at hl 0 rfl) ?_
        refine lv_iload_n hx hb dX10_odds_62 rfl (lv_at hl 1 rfl) ?_
        refine tk_ir (va_runV (As := [.int p1]) (rest := []) ⟨hx, hb, hml, hown, hts⟩ (c_X10_whatIs l D cy z H.size Ps ws hw.1 p0 p1 h_p0 r_p1) (cwV 1 hts (gV tw_1449 tw_1451 ts_69 tw_15 tw_1452) rfl rfl rfl (by decide +kernel) ⟨Nat.le_of_ble_eq_true rfl, Nat.le_of_ble_eq_true rfl⟩) (tg_preV hw hK hSD hA (ci := 10) (q := (RX10, TX10, 49)) rfl h_p0 rfl) rfl rfl hl.1 rfl (lv_room (Nat.le_of_ble_eq_true rfl)) dX10_odds_63 ⟨Nat.le_of_ble_eq_true rfl, Nat.le_of_ble_eq_true rfl⟩) hw hA (fun v_5  H locs hp_v_5 hw => ?_)
        have r_v_5 : RI v_5 (-1) 5 := hp_v_5.1
        by_cases c9_v_5 : v_5.toInt < 0
        · have r_v_5 : RI v_5 (-1) (-1) := by unfold RI at r_v_5 ⊢; omega
          have x_NB_p0_p1 := (hp_v_5.2.2.2.2.1 (by omega)).1
          refine lv_iload_n hx hb dX10_odds_66 rfl (lv_at hl 2 rfl) ?_
          refine lv_icmp_ne (tgt := 73) hx hb dX10_odds_67 (by decide) (fun c_67 => ?_) (fun c_67 => ?_)
          · exact B73 x5 x6 z0_0 ws _ _ ls r_p1 r_p2 r_p3 r_p4 r_x5 r_x6 r_z0_0 m_z0_0 x_HD_p0_gdR (by have q0 := r_x6.1; have u0 := r_x6.2; omega) hw hl
          · have r_v_5 : RI v_5 0 (-1) := rc_eq1 r_v_5 r_p2 (ti_eq c_67) (by decide)
            have r_p2 : RI p2 0 (-1) := rc_eq2 r_v_5 r_p2 (ti_eq c_67) (by decide)
            exact (r_v_5.no (by decide)).elim
        · have r_v_5 : RI v_5 0 5 := by unfold RI at r_v_5 ⊢; omega
          have x_WB_p0_p1_v_5 := (hp_v_5.2.2.2.2.2 (by omega)).1
          refine lv_iload_n hx hb dX10_odds_66 rfl (lv_at hl 2 rfl) ?_
          refine lv_icmp_ne (tgt := 73) hx hb dX10_odds_67 (by decide) (fun c_67 => ?_) (fun c_67 => ?_)
          · exact B73 x5 x6 z0_0 ws _ _ ls r_p1 r_p2 r_p3 r_p4 r_x5 r_x6 r_z0_0 m_z0_0 x_HD_p0_gdR (by have q0 := r_x6.1; have u0 := r_x6.2; omega) hw hl
          · obtain ⟨v_6, e_v_6⟩ : ∃ q9 : Int32, q9 = x5 + Int32.ofInt 1 := ⟨_, rfl⟩
            have r_v_6 := ri_any v_6
            refine lv_iinc (v := v_6) (lv' := [(5, .int v_6), (0, .ref p0), (1, .int p1), (2, .int p2), (3, .int p3), (4, .int p4), (6, .int x6)]) hx hb dX10_odds_70 hl (k := 5) rfl e_v_6.symm (by decide) rfl (fun ls hl => ?_)
            exact B73 v_6 x6 z0_0 ws _ _ ls r_p1 r_p2 r_p3 r_p4 r_v_6 r_x6 r_z0_0 m_z0_0 x_HD_p0_gdR (by have q0 := r_x6.1; have u0 := r_x6.2; omega) hw (lv_sub hl [1, 2, 3, 4, 5, 0, 6] rfl)
  refine lv_aload_n hx hb dX10_odds_0 rfl (lv_at hl 0 rfl) ?_
  refine lv_iconst (v := 0) hx hb dX10_odds_1 (by decide) ?_
  refine tg_put (ci := 10) (ts := ty_MODEL) (v := .int 0) (ty := .int) (C := RX10) (T := TX10) (N := 49) hx hb hts inX10 tyX10 tyX10_ok nmX10 hown hK hw h_p0 rfl rfl 0 (by decide) (hts _ tw_1137) (fun _ h9 => h9) rfl (by decide +kernel) rfl rfl (ft := vI (-2147483648) 2147483647) rfl ⟨_, rfl, (rl_0.to (by decide))⟩ (by decide) dX10_odds_2 (fun ws H locs hw n_k_7 hF9 => ?_)
  have x_HD_p0_gdR := AX.over hF9 x_HD_p0_gdR (by decide)
  refine lv_aload_n hx hb dX10_odds_5 rfl (lv_at hl 0 rfl) ?_
  refine lv_iload_n hx hb dX10_odds_6 rfl (lv_at hl 1 rfl) ?_
  refine tk_ir (va_runV (As := [.int p1]) (rest := []) ⟨hx, hb, hml, hown, hts⟩ (c_X10_isParcel l D cy z H.size Ps ws hw.1 p0 p1 h_p0 r_p1) (cwV 1 hts (gV tw_1429 tw_1431 ts_65 tw_15 tw_1432) rfl rfl rfl (by decide +kernel) ⟨Nat.le_of_ble_eq_true rfl, Nat.le_of_ble_eq_true rfl⟩) (tg_preV hw hK hSD hA (ci := 10) (q := (RX10, TX10, 49)) rfl h_p0 rfl) rfl rfl hl.1 rfl (lv_room (Nat.le_of_ble_eq_true rfl)) dX10_odds_7 ⟨Nat.le_of_ble_eq_true rfl, Nat.le_of_ble_eq_true rfl⟩) hw hA (fun v_8  H locs hp_v_8 hw => ?_)
  have r_v_8 : RI v_8 0 1 := hp_v_8.1
  refine lv_if_eq (tgt := 31) hx hb dX10_odds_10 (by decide) (fun c_10 => ?_) (fun c_10 => ?_)
  · have r_v_8 : RI v_8 0 0 := rc_eq1 r_v_8 rl_0 (ti_eq c_10) (by decide)
    refine lv_iconst (v := (-1)) hx hb dX10_odds_31 (by decide) ?_
    subst hQ
    exact W.iret (v := (-1)) hx hb hr (fun t ht hW => ⟨⟨(-1), ws, rfl, ⟨⟨x_HD_p0_gdR, rl_m1.to (by decide), (fun _ => trivial), (fun h0 => trivial)⟩, hw.1, hw.2.2.2.2.1⟩, by rw [ht]; exact hw.2.1, va_K.moved hW.alike hK, hw.2.2.1⟩, hw.2.2.2.1.F ht⟩) hw.2.2.2.1.2.2 dX10_odds_32
  · have r_v_8 : RI v_8 1 1 := rc_neL r_v_8 rl_0 (ti_ne c_10) (by decide)
    have r_p1 : RI p1 0 5 := ((hp_v_8.2.2 c_10).1)
    refine lv_aload_n hx hb dX10_odds_13 rfl (lv_at hl 0 rfl) ?_
    refine lv_iload_n hx hb dX10_odds_14 rfl (lv_at hl 2 rfl) ?_
    refine tk_ir (va_runV (As := [.int p2]) (rest := []) ⟨hx, hb, hml, hown, hts⟩ (c_X10_isIdea l D cy z H.size Ps ws hw.1 p0 p2 h_p0 r_p2) (cwV 1 hts (gV tw_1433 tw_1435 ts_66 tw_15 tw_1436) rfl rfl rfl (by decide +kernel) ⟨Nat.le_of_ble_eq_true rfl, Nat.le_of_ble_eq_true rfl⟩) (tg_preV hw hK hSD hA (ci := 10) (q := (RX10, TX10, 49)) rfl h_p0 rfl) rfl rfl hl.1 rfl (lv_room (Nat.le_of_ble_eq_true rfl)) dX10_odds_15 ⟨Nat.le_of_ble_eq_true rfl, Nat.le_of_ble_eq_true rfl⟩) hw hA (fun v_9  H locs hp_v_9 hw => ?_)
    have r_v_9 : RI v_9 0 1 := hp_v_9.1
    refine lv_if_eq (tgt := 31) hx hb dX10_odds_18 (by decide) (fun c_18 => ?_) (fun c_18 => ?_)
    · have r_v_9 : RI v_9 0 0 := rc_eq1 r_v_9 rl_0 (ti_eq c_18) (by decide)
      refine lv_iconst (v := (-1)) hx hb dX10_odds_31 (by decide) ?_
      subst hQ
      exact W.iret (v := (-1)) hx hb hr (fun t ht hW => ⟨⟨(-1), ws, rfl, ⟨⟨x_HD_p0_gdR, rl_m1.to (by decide), (fun _ => trivial), (fun h0 => trivial)⟩, hw.1, hw.2.2.2.2.1⟩, by rw [ht]; exact hw.2.1, va_K.moved hW.alike hK, hw.2.2.1⟩, hw.2.2.2.1.F ht⟩) hw.2.2.2.1.2.2 dX10_odds_32
    · have r_v_9 : RI v_9 1 1 := rc_neL r_v_9 rl_0 (ti_ne c_18) (by decide)
      have r_p2 : RI p2 0 5 := ((hp_v_9.2.2 c_18).1)
      refine lv_iload_n hx hb dX10_odds_21 rfl (lv_at hl 3 rfl) ?_
      refine lv_iconst (v := 1) hx hb dX10_odds_22 (by decide) ?_
      refine lv_bipush (v := 30) hx hb dX10_odds_23 (by decide) ?_
      refine tk_ir (va_runS (As := [.int p3, .int 1, .int 30]) (rest := []) ⟨hx, hb, hml, hown, hts⟩ (c_X10_isIn__6 l D cy z H.size Ps ws hw.1 p3 1 30 r_p3 rl_1 rl_30) (va_cwS 3 hts (gS tw_1359 tw_1360 tw_15 tw_1361) rfl rfl rfl (by decide +kernel) ⟨Nat.le_of_ble_eq_true rfl, Nat.le_of_ble_eq_true rfl⟩) (tg_preS hw hK hSD hA) rfl rfl hl.1 rfl (lv_room (Nat.le_of_ble_eq_true rfl)) dX10_odds_25 ⟨Nat.le_of_ble_eq_true rfl, Nat.le_of_ble_eq_true rfl⟩) hw hA (fun v_10  H locs hp_v_10 hw => ?_)
      have r_v_10 : RI v_10 0 1 := hp_v_10.1
      refine lv_if_ne (tgt := 33) hx hb dX10_odds_28 (by decide) (fun c_28 => ?_) (fun c_28 => ?_)
      · have r_v_10 : RI v_10 1 1 := rc_neL r_v_10 rl_0 (ti_ne c_28) (by decide)
        have r_p3 : RI p3 1 30 := ((hp_v_10.2.2 c_28).1)
        refine lv_aload_n hx hb dX10_odds_33 rfl (lv_at hl 0 rfl) ?_
        refine tk_v (va_runV (As := []) (rest := []) ⟨hx, hb, hml, hown, hts⟩ (c_X10_layAside l D cy z H.size Ps ws hw.1 p0 h_p0) (cwV 0 hts (gV tw_1583 tw_1585 ts_88 tw_15 tw_1586) rfl rfl rfl (by decide +kernel) ⟨Nat.le_of_ble_eq_true rfl, Nat.le_of_ble_eq_true rfl⟩) (tg_preV hw hK hSD hA (ci := 10) (q := (RX10, TX10, 49)) rfl h_p0 rfl) rfl rfl hl.1 rfl (lv_room (Nat.le_of_ble_eq_true rfl)) dX10_odds_34 ⟨Nat.le_of_ble_eq_true rfl, Nat.le_of_ble_eq_true rfl⟩) hw hA ⟨by decide, by decide⟩ (fun ws H locs hp_v_11 hw hF9 => ?_)
        have n_k_7 := FLD.over hF9 n_k_7 (by decide)
        have x_HD_p0_gdR := AX.over hF9 x_HD_p0_gdR (by decide)
        refine lv_iconst (v := 0) hx hb dX10_odds_37 (by decide) ?_
        refine lv_istore (lv' := [(5, .int 0), (0, .ref p0), (1, .int p1), (2, .int p2), (3, .int p3), (4, .int p4)]) hx hb dX10_odds_38 hl (by decide) rfl (fun ls hl => ?_)
        refine lv_iconst (v := 0) hx hb dX10_odds_40 (by decide) ?_
        refine lv_istore (lv' := [(6, .int 0), (5, .int 0), (0, .ref p0), (1, .int p1), (2, .int p2), (3, .int p3), (4, .int p4)]) hx hb dX10_odds_41 hl (by decide) rfl (fun ls hl => ?_)
        exact B43 4294967298 0 0 0 ws _ _ ls (by have q0 := rl_0.1; have u0 := rl_0.2; omega) r_p1 r_p2 r_p3 r_p4 (rl_0.to (by decide)) (rl_0.to (by decide)) rl_0 n_k_7 x_HD_p0_gdR hw (lv_sub hl [2, 3, 4, 5, 6, 1, 0] rfl)
      · have r_v_10 : RI v_10 0 0 := rc_eq1 r_v_10 rl_0 (ti_eq c_28) (by decide)
        refine lv_iconst (v := (-1)) hx hb dX10_odds_31 (by decide) ?_
        subst hQ
        exact W.iret (v := (-1)) hx hb hr (fun t ht hW => ⟨⟨(-1), ws, rfl, ⟨⟨x_HD_p0_gdR, rl_m1.to (by decide), (fun _ => trivial), (fun h0 => trivial)⟩, hw.1, hw.2.2.2.2.1⟩, by rw [ht]; exact hw.2.1, va_K.moved hW.alike hK, hw.2.2.1⟩, hw.2.2.2.1.F ht⟩) hw.2.2.2.1.2.2 dX10_odds_32
abbrev wr_X10_live__16 : List (Nat × Nat) := []
abbrev wa_X10_live__16 : List Nat := [34]
set_option maxHeartbeats 4000000 in
set_option maxRecDepth 100000 in
theorem c_X10_live__16 (l : Launch) (D : va_G) (cy : Nat → ClassId) (z : Nat → Nat) (sz : Nat) (Ps : PSI) (w0 : va_W) (hT : HT cy GG Ps w0) (p0 : Nat) (p1 : Int32) (p2 : Int32) (p3 : Int32) (gdR : Nat → Int32) (h_p0 : (p0, 55) ∈ Ps) (r_p1 : RI p1 4 4) (r_p2 : RI p2 0 5) (r_p3 : RI p3 0 0) (x_HD_p0_gdR : AX 14 34 (HDp gdR) Ps w0 p0) : Met l yX10_live (Cond.code yX10_live cX10_live 4 none :: gT) ({ frames := 0, cells := 0, slots := 0, locals := 200 } : Room) (va_Pc [.ref p0, .int p1, .int p2, .int p3] (PRE D cy z w0 sz)) (va_Qv (fun (u : va_W) => ((AX 14 34 (HDp gdR) Ps u p0) ∧ (True)) ∧ HT cy GG Ps u ∧ FR wr_X10_live__16 wa_X10_live__16 Ps w0 u) (BB D cy (va_A w0 sz) (fun (u : va_W) => u)) (va_A w0 sz)) 0 0 (va_A w0 sz) := by
  refine Met.ofW (cc := cX10_live) (maxL := 4) (ret := none) (by decide) rfl ?_
  intro p e s m args below meth c s₁ B hml hv
  obtain ⟨rfl, hsz, hP, hK, hD0, hSD⟩ := hv
  have hx := B.exec
  have hb := B.bytes
  have hr := B.returns
  have hlocks := B.notSynchronized
  have hts : ∀ w ∈ gT, w.before _ s = true := fun w h => atoms_spec (ws := Cond.code yX10_live cX10_live 4 none :: gT) B.pre w (List.mem_cons_of_mem _ h)
  have hown : s.vm.findClass RX10 = some m.cls := findClass_of_methodNamed B.named
  subst hsz
  have hD := hD0.self (sz := s.heap.size)
  generalize hAe : va_A w0 s.heap.size = A at hD hSD ⊢
  have hA : ∀ q : Nat, s.heap.size ≤ q → A q := fun q h => by rw [← hAe]; exact Or.inr h
  have hl := lv_entry ([.ref p0, .int p1, .int p2, .int p3]) (n := 4) (Nat.le_of_ble_eq_true rfl)
  rw [lg_entry_eq]
  generalize (lg_sl ([.ref p0, .int p1, .int p2, .int p3]) ++ List.replicate (4 - (lg_sl ([.ref p0, .int p1, .int p2, .int p3])).length) Slot.unset).toArray = ls at hl ⊢
  have hl : lv_has ls 4 [(0, .ref p0), (1, .int p1), (2, .int p2), (3, .int p3)] := hl
  refine nameQ (fun Q hQ => ?_)
  have hw : WD D cy GG A s wr_X10_live__16 wa_X10_live__16 Ps w0 Ps w0 s.heap [] := ⟨hT, hP, hD, va_S.rf, FR.rf, hT.1, [], (List.append_nil _).symm⟩
  refine lv_iload_n hx hb dX10_live_0 rfl (lv_at hl 1 rfl) ?_
  have w_1 := r_p1
  by_cases cl_1 : p1.toInt < 0 ∨ 4 < p1.toInt
  · refine lv_tableOut (tgt := 90) hx hb dX10_live_1 cl_1 (by decide) ?_
    exact absurd cl_1 (by unfold RI at w_1; omega)
  · have e_1 : p1.toInt = 0 ∨ p1.toInt = 1 ∨ p1.toInt = 2 ∨ p1.toInt = 3 ∨ p1.toInt = 4 := by omega
    rcases e_1 with h_1 | h_1 | h_1 | h_1 | h_1
    · exact absurd h_1 (by unfold RI at w_1; omega)
    · exact absurd h_1 (by unfold RI at w_1; omega)
    · exact absurd h_1 (by unfold RI at w_1; omega)
    · exact absurd h_1 (by unfold RI at w_1; omega)
    · refine lv_tableIn (tgt := 76) (off := 75) hx hb dX10_live_1 (by omega) (by omega) (by rw [h_1]; rfl) (by decide) ?_
      have r_p1 : RI p1 4 4 := ⟨by omega, by omega⟩
      refine lv_aload_n hx hb dX10_live_76 rfl (lv_at hl 0 rfl) ?_
      refine tg_get (ci := 10) (ts := ty_MODEL) (C := RX10) (T := TX10) (N := 49) hx hb hts inX10 hown hK hw h_p0 rfl rfl 14 (by decide) (hts _ tw_1151) (fun _ h9 => h9) (ft := vR 34) rfl dX10_live_77 (fun u_1 hv_u_1 m_u_1 => ?_)
      obtain ⟨vu_1, rfl, h_vu_1⟩ := hv_u_1
      refine lv_bipush (v := 85) hx hb dX10_live_80 (by decide) ?_
      refine lv_dup2_11 hx hb dX10_live_82 rfl rfl ?_
      refine tg_iald (lo := (-2147483648)) (hi := 2147483647) hx hb hK hw h_vu_1 rfl 85 85 rl_85 (by decide) (by decide +kernel) dX10_live_83 (fun v_2 r_v_2 m_v_2 o_v_2 => ?_)
      refine lv_iconst (v := 1) hx hb dX10_live_84 (by decide) ?_
      refine lv_iload_n hx hb dX10_live_85 rfl (lv_at hl 2 rfl) ?_
      refine lv_ishl hx hb dX10_live_86 (lv_topi (fun v_3 e_v_3 => ?_))
      have r_v_3 : RI v_3 1 256 := by rw [e_v_3]; exact ri_shl1 (r_p2.to (c := 0) (d := 5) (by decide)) (by decide)
      refine lv_ior hx hb dX10_live_87 (lv_topi (fun v_4 e_v_4 => ?_))
      have r_v_4 := ri_any v_4
      have hw8 := hw
      refine tg_iast hx hb hK hw h_vu_1 rfl 85 85 rl_85 (by decide) r_v_4 (by decide +kernel) (RN_upd (by decide) (by decide)) (by decide) dX10_live_88 (fun ws H locs hw hF9 hU9 => ?_)
      have x_HD_p0_gdR : AX 14 34 (HDp gdR) Ps ws p0 := AX.ast hF9 hU9 x_HD_p0_gdR m_u_1 (fun f9 h9 => HDp.upd h9 (by have k1 := rl_85.cl (by decide); have k2 := rl_85.1; omega))
      have m_u_1 := FLD.over hF9 m_u_1 (by decide)
      subst hQ
      exact W.vret hx hb hr (fun t ht hW => ⟨⟨ws, rfl, ⟨⟨x_HD_p0_gdR, trivial⟩, hw.1, hw.2.2.2.2.1⟩, by rw [ht]; exact hw.2.1, va_K.moved hW.alike hK, hw.2.2.1⟩, hw.2.2.2.1.F ht⟩) hw.2.2.2.1.2.2 dX10_live_89
abbrev wr_X10_act__8 : List (Nat × Nat) := [(10, 25)]
abbrev wa_X10_act__8 : List Nat := [34, 37]
set_option maxHeartbeats 4000000 in
set_option maxRecDepth 100000 in
theorem c_X10_act__8 (l : Launch) (D : va_G) (cy : Nat → ClassId) (z : Nat → Nat) (sz : Nat) (Ps : PSI) (w0 : va_W) (hT : HT cy GG Ps w0) (p0 : Nat) (p1 : Int32) (p2 : Int32) (p3 : Int32) (gdR : Nat → Int32) (h_p0 : (p0, 55) ∈ Ps) (r_p1 : RI p1 4 4) (r_p2 : RI p2 0 5) (r_p3 : RI p3 0 0) (x_HD_p0_gdR : AX 14 34 (HDp gdR) Ps w0 p0) : Met l yX10_act (Cond.code yX10_act cX10_act 5 (some .int) :: gT) ({ frames := 4, cells := 0, slots := 0, locals := 800 } : Room) (va_Pc [.ref p0, .int p1, .int p2, .int p3] (PRE D cy z w0 sz)) (va_Qi (fun (r : Int32) (u : va_W) => ((AX 14 34 (HDp gdR) Ps u p0) ∧ (RI r 0 1 ∧ (r = 0 → (∃ v9 : Int32, FLD u p0 10 25 (.int v9) ∧ RI v9 1 8) ∧ True) ∧ (¬ r = 0 → True))) ∧ HT cy GG Ps u ∧ FR wr_X10_act__8 wa_X10_act__8 Ps w0 u) (BB D cy (va_A w0 sz) (fun (u : va_W) => u)) (va_A w0 sz)) 0 0 (va_A w0 sz) := by
  refine Met.ofW (cc := cX10_act) (maxL := 5) (ret := (some .int)) (by decide) rfl ?_
  intro p e s m args below meth c s₁ B hml hv
  obtain ⟨rfl, hsz, hP, hK, hD0, hSD⟩ := hv
  have hx := B.exec
  have hb := B.bytes
  have hr := B.returns
  have hlocks := B.notSynchronized
  have hts : ∀ w ∈ gT, w.before _ s = true := fun w h => atoms_spec (ws := Cond.code yX10_act cX10_act 5 (some .int) :: gT) B.pre w (List.mem_cons_of_mem _ h)
  have hown : s.vm.findClass RX10 = some m.cls := findClass_of_methodNamed B.named
  subst hsz
  have hD := hD0.self (sz := s.heap.size)
  generalize hAe : va_A w0 s.heap.size = A at hD hSD ⊢
  have hA : ∀ q : Nat, s.heap.size ≤ q → A q := fun q h => by rw [← hAe]; exact Or.inr h
  have hl := lv_entry ([.ref p0, .int p1, .int p2, .int p3]) (n := 5) (Nat.le_of_ble_eq_true rfl)
  rw [lg_entry_eq]
  generalize (lg_sl ([.ref p0, .int p1, .int p2, .int p3]) ++ List.replicate (5 - (lg_sl ([.ref p0, .int p1, .int p2, .int p3])).length) Slot.unset).toArray = ls at hl ⊢
  have hl : lv_has ls 5 [(0, .ref p0), (1, .int p1), (2, .int p2), (3, .int p3)] := hl
  refine nameQ (fun Q hQ => ?_)
  have hw : WD D cy GG A s wr_X10_act__8 wa_X10_act__8 Ps w0 Ps w0 s.heap [] := ⟨hT, hP, hD, va_S.rf, FR.rf, hT.1, [], (List.append_nil _).symm⟩
  refine lv_aload_n hx hb dX10_act_0 rfl (lv_at hl 0 rfl) ?_
  refine lv_iload_n hx hb dX10_act_1 rfl (lv_at hl 1 rfl) ?_
  refine lv_iload_n hx hb dX10_act_2 rfl (lv_at hl 2 rfl) ?_
  refine lv_iload_n hx hb dX10_act_3 rfl (lv_at hl 3 rfl) ?_
  refine tk_ir (va_runV (As := [.int p1, .int p2, .int p3]) (rest := []) ⟨hx, hb, hml, hown, hts⟩ (c_X10_why__2 l D cy z s.heap.size Ps w0 hw.1 p0 p1 p2 p3 h_p0 r_p1 r_p2 r_p3) (cwV 3 hts (gV tw_1501 tw_1503 ts_77 tw_15 tw_1504) rfl rfl rfl (by decide +kernel) ⟨Nat.le_of_ble_eq_true rfl, Nat.le_of_ble_eq_true rfl⟩) (tg_preV hw hK hSD hA (ci := 10) (q := (RX10, TX10, 49)) rfl h_p0 rfl) rfl rfl hl.1 rfl (lv_room (Nat.le_of_ble_eq_true rfl)) dX10_act_4 ⟨Nat.le_of_ble_eq_true rfl, Nat.le_of_ble_eq_true rfl⟩) hw hA (fun v_1  H locs hp_v_1 hw => ?_)
  have r_v_1 : RI v_1 0 1 := hp_v_1.1
  refine lv_istore (lv' := [(4, .int v_1), (0, .ref p0), (1, .int p1), (2, .int p2), (3, .int p3)]) hx hb dX10_act_7 hl (by decide) rfl (fun ls hl => ?_)
  refine lv_iload hx hb dX10_act_9 (lv_at hl 0 rfl) ?_
  refine lv_if_eq (tgt := 17) hx hb dX10_act_11 (by decide) (fun c_11 => ?_) (fun c_11 => ?_)
  · have r_v_1 : RI v_1 0 0 := rc_eq1 r_v_1 rl_0 (ti_eq c_11) (by decide)
    refine lv_aload_n hx hb dX10_act_17 rfl (lv_at hl 1 rfl) ?_
    refine tk_v (va_runV (As := []) (rest := []) ⟨hx, hb, hml, hown, hts⟩ (c_X10_snap l D cy z H.size Ps w0 hw.1 p0 h_p0) (cwV 0 hts (gV tw_1505 tw_1507 ts_78 tw_15 tw_1508) rfl rfl rfl (by decide +kernel) ⟨Nat.le_of_ble_eq_true rfl, Nat.le_of_ble_eq_true rfl⟩) (tg_preV hw hK hSD hA (ci := 10) (q := (RX10, TX10, 49)) rfl h_p0 rfl) rfl rfl hl.1 rfl (lv_room (Nat.le_of_ble_eq_true rfl)) dX10_act_18 ⟨Nat.le_of_ble_eq_true rfl, Nat.le_of_ble_eq_true rfl⟩) hw hA ⟨by decide, by decide⟩ (fun ws H locs hp_v_2 hw hF9 => ?_)
    have x_HD_p0_gdR := AX.over hF9 x_HD_p0_gdR (by decide)
    obtain ⟨v_3, m_v_3, r_v_3⟩ := (hp_v_2.1)
    refine lv_aload_n hx hb dX10_act_21 rfl (lv_at hl 1 rfl) ?_
    refine lv_iload_n hx hb dX10_act_22 rfl (lv_at hl 2 rfl) ?_
    refine lv_iload_n hx hb dX10_act_23 rfl (lv_at hl 3 rfl) ?_
    refine lv_iload_n hx hb dX10_act_24 rfl (lv_at hl 4 rfl) ?_
    refine tk_v (va_runV (As := [.int p1, .int p2, .int p3]) (rest := []) ⟨hx, hb, hml, hown, hts⟩ (c_X10_live__16 l D cy z H.size Ps ws hw.1 p0 p1 p2 p3 (gdR) h_p0 r_p1 r_p2 r_p3 x_HD_p0_gdR) (cwV 3 hts (gV tw_1509 tw_1511 ts_79 tw_15 tw_1512) rfl rfl rfl (by decide +kernel) ⟨Nat.le_of_ble_eq_true rfl, Nat.le_of_ble_eq_true rfl⟩) (tg_preV hw hK hSD hA (ci := 10) (q := (RX10, TX10, 49)) rfl h_p0 rfl) rfl rfl hl.1 rfl (lv_room (Nat.le_of_ble_eq_true rfl)) dX10_act_25 ⟨Nat.le_of_ble_eq_true rfl, Nat.le_of_ble_eq_true rfl⟩) hw hA ⟨by decide, by decide⟩ (fun ws H locs hp_v_4 hw hF9 => ?_)
    have m_v_3 := FLD.over hF9 m_v_3 (by decide)
    obtain ⟨x_HD_p0_gdR, hp_v_4⟩ := hp_v_4
    refine lv_iconst (v := 0) hx hb dX10_act_28 (by decide) ?_
    subst hQ
    exact W.iret (v := 0) hx hb hr (fun t ht hW => ⟨⟨0, ws, rfl, ⟨⟨x_HD_p0_gdR, rl_0.to (by decide), (fun h0 => ⟨⟨_, m_v_3, r_v_3⟩, trivial⟩), (fun _ => trivial)⟩, hw.1, hw.2.2.2.2.1⟩, by rw [ht]; exact hw.2.1, va_K.moved hW.alike hK, hw.2.2.1⟩, hw.2.2.2.1.F ht⟩) hw.2.2.2.1.2.2 dX10_act_29
  · have r_v_1 : RI v_1 1 1 := rc_neL r_v_1 rl_0 (ti_ne c_11) (by decide)
    refine lv_iload hx hb dX10_act_14 (lv_at hl 0 rfl) ?_
    subst hQ
    exact W.iret (v := v_1) hx hb hr (fun t ht hW => ⟨⟨v_1, w0, rfl, ⟨⟨x_HD_p0_gdR, r_v_1.to (by decide), (fun h0 => absurd (ti_eq h0) (by have h8 := r_v_1; unfold RI at h8; rw [Int32.toInt_zero]; omega)), (fun h0 => trivial)⟩, hw.1, hw.2.2.2.2.1⟩, by rw [ht]; exact hw.2.1, va_K.moved hW.alike hK, hw.2.2.1⟩, hw.2.2.2.1.F ht⟩) hw.2.2.2.1.2.2 dX10_act_16
abbrev wr_X10_open__1 : List (Nat × Nat) := [(10, 0), (10, 25)]
abbrev wa_X10_open__1 : List Nat := [34, 37]
set_option maxHeartbeats 4000000 in
set_option maxRecDepth 100000 in
theorem c_X10_open__1 (l : Launch) (D : va_G) (cy : Nat → ClassId) (z : Nat → Nat) (sz : Nat) (Ps : PSI) (w0 : va_W) (hT : HT cy GG Ps w0) (p0 : Nat) (p1 : Int32) (gdR : Nat → Int32) (h_p0 : (p0, 55) ∈ Ps) (r_p1 : RI p1 (-2147483648) 2147483647) (x_HD_p0_gdR : AX 14 34 (HDp gdR) Ps w0 p0) : Met l yX10_open (Cond.code yX10_open cX10_open 2 (some .int) :: gT) ({ frames := 5, cells := 0, slots := 0, locals := 1000 } : Room) (va_Pc [.ref p0, .int p1] (PRE D cy z w0 sz)) (va_Qi (fun (r : Int32) (u : va_W) => ((AX 14 34 (HDp gdR) Ps u p0) ∧ (RI r (-1) 1 ∧ (r = 0 → True) ∧ (¬ r = 0 → True))) ∧ HT cy GG Ps u ∧ FR wr_X10_open__1 wa_X10_open__1 Ps w0 u) (BB D cy (va_A w0 sz) (fun (u : va_W) => u)) (va_A w0 sz)) 0 0 (va_A w0 sz) := by
  refine Met.ofW (cc := cX10_open) (maxL := 2) (ret := (some .int)) (by decide) rfl ?_
  intro p e s m args below meth c s₁ B hml hv
  obtain ⟨rfl, hsz, hP, hK, hD0, hSD⟩ := hv
  have hx := B.exec
  have hb := B.bytes
  have hr := B.returns
  have hlocks := B.notSynchronized
  have hts : ∀ w ∈ gT, w.before _ s = true := fun w h => atoms_spec (ws := Cond.code yX10_open cX10_open 2 (some .int) :: gT) B.pre w (List.mem_cons_of_mem _ h)
  have hown : s.vm.findClass RX10 = some m.cls := findClass_of_methodNamed B.named
  subst hsz
  have hD := hD0.self (sz := s.heap.size)
  generalize hAe : va_A w0 s.heap.size = A at hD hSD ⊢
  have hA : ∀ q : Nat, s.heap.size ≤ q → A q := fun q h => by rw [← hAe]; exact Or.inr h
  have hl := lv_entry ([.ref p0, .int p1]) (n := 2) (Nat.le_of_ble_eq_true rfl)
  rw [lg_entry_eq]
  generalize (lg_sl ([.ref p0, .int p1]) ++ List.replicate (2 - (lg_sl ([.ref p0, .int p1])).length) Slot.unset).toArray = ls at hl ⊢
  have hl : lv_has ls 2 [(0, .ref p0), (1, .int p1)] := hl
  refine nameQ (fun Q hQ => ?_)
  have hw : WD D cy GG A s wr_X10_open__1 wa_X10_open__1 Ps w0 Ps w0 s.heap [] := ⟨hT, hP, hD, va_S.rf, FR.rf, hT.1, [], (List.append_nil _).symm⟩
  refine lv_aload_n hx hb dX10_open_0 rfl (lv_at hl 0 rfl) ?_
  refine lv_iconst (v := 0) hx hb dX10_open_1 (by decide) ?_
  refine tg_put (ci := 10) (ts := ty_MODEL) (v := .int 0) (ty := .int) (C := RX10) (T := TX10) (N := 49) hx hb hts inX10 tyX10 tyX10_ok nmX10 hown hK hw h_p0 rfl rfl 0 (by decide) (hts _ tw_1137) (fun _ h9 => h9) rfl (by decide +kernel) rfl rfl (ft := vI (-2147483648) 2147483647) rfl ⟨_, rfl, (rl_0.to (by decide))⟩ (by decide) dX10_open_2 (fun ws H locs hw n_k_1 hF9 => ?_)
  have x_HD_p0_gdR := AX.over hF9 x_HD_p0_gdR (by decide)
  refine lv_aload_n hx hb dX10_open_5 rfl (lv_at hl 0 rfl) ?_
  refine lv_iload_n hx hb dX10_open_6 rfl (lv_at hl 1 rfl) ?_
  refine tk_ir (va_runV (As := [.int p1]) (rest := []) ⟨hx, hb, hml, hown, hts⟩ (c_X10_isParcel l D cy z H.size Ps ws hw.1 p0 p1 h_p0 r_p1) (cwV 1 hts (gV tw_1429 tw_1431 ts_65 tw_15 tw_1432) rfl rfl rfl (by decide +kernel) ⟨Nat.le_of_ble_eq_true rfl, Nat.le_of_ble_eq_true rfl⟩) (tg_preV hw hK hSD hA (ci := 10) (q := (RX10, TX10, 49)) rfl h_p0 rfl) rfl rfl hl.1 rfl (lv_room (Nat.le_of_ble_eq_true rfl)) dX10_open_7 ⟨Nat.le_of_ble_eq_true rfl, Nat.le_of_ble_eq_true rfl⟩) hw hA (fun v_2  H locs hp_v_2 hw => ?_)
  have r_v_2 : RI v_2 0 1 := hp_v_2.1
  refine lv_if_eq (tgt := 23) hx hb dX10_open_10 (by decide) (fun c_10 => ?_) (fun c_10 => ?_)
  · have r_v_2 : RI v_2 0 0 := rc_eq1 r_v_2 rl_0 (ti_eq c_10) (by decide)
    refine lv_iconst (v := (-1)) hx hb dX10_open_23 (by decide) ?_
    subst hQ
    exact W.iret (v := (-1)) hx hb hr (fun t ht hW => ⟨⟨(-1), ws, rfl, ⟨⟨x_HD_p0_gdR, rl_m1.to (by decide), (fun _ => trivial), (fun h0 => trivial)⟩, hw.1, hw.2.2.2.2.1⟩, by rw [ht]; exact hw.2.1, va_K.moved hW.alike hK, hw.2.2.1⟩, hw.2.2.2.1.F ht⟩) hw.2.2.2.1.2.2 dX10_open_24
  · have r_v_2 : RI v_2 1 1 := rc_neL r_v_2 rl_0 (ti_ne c_10) (by decide)
    have r_p1 : RI p1 0 5 := ((hp_v_2.2.2 c_10).1)
    refine lv_aload_n hx hb dX10_open_13 rfl (lv_at hl 0 rfl) ?_
    refine lv_iconst (v := 4) hx hb dX10_open_14 (by decide) ?_
    refine lv_iload_n hx hb dX10_open_15 rfl (lv_at hl 1 rfl) ?_
    refine lv_iconst (v := 0) hx hb dX10_open_16 (by decide) ?_
    refine tk_i (va_runV (As := [.int 4, .int p1, .int 0]) (rest := []) ⟨hx, hb, hml, hown, hts⟩ (c_X10_act__8 l D cy z H.size Ps ws hw.1 p0 4 p1 0 (gdR) h_p0 rl_4 r_p1 rl_0 x_HD_p0_gdR) (cwV 3 hts (gV tw_1497 tw_1499 ts_76 tw_15 tw_1500) rfl rfl rfl (by decide +kernel) ⟨Nat.le_of_ble_eq_true rfl, Nat.le_of_ble_eq_true rfl⟩) (tg_preV hw hK hSD hA (ci := 10) (q := (RX10, TX10, 49)) rfl h_p0 rfl) rfl rfl hl.1 rfl (lv_room (Nat.le_of_ble_eq_true rfl)) dX10_open_17 ⟨Nat.le_of_ble_eq_true rfl, Nat.le_of_ble_eq_true rfl⟩) hw hA ⟨by decide, by decide⟩ (fun v_3 ws H locs hp_v_3 hw hF9 => ?_)
    have n_k_1 := FLD.over hF9 n_k_1 (by decide)
    obtain ⟨x_HD_p0_gdR, hp_v_3⟩ := hp_v_3
    have r_v_3 : RI v_3 0 1 := hp_v_3.1
    by_cases c9_v_3 : v_3 = 0
    · have r_v_3 : RI v_3 0 0 := by rw [c9_v_3]; exact rl_0
      obtain ⟨v_4, m_v_4, r_v_4⟩ := ((hp_v_3.2.1 c9_v_3).1)
      refine lv_goto (tgt := 24) hx hb dX10_open_20 (by decide) ?_
      subst hQ
      exact W.iret (v := v_3) hx hb hr (fun t ht hW => ⟨⟨v_3, ws, rfl, ⟨⟨x_HD_p0_gdR, r_v_3.to (by decide), (fun h0 => trivial), (fun _ => trivial)⟩, hw.1, hw.2.2.2.2.1⟩, by rw [ht]; exact hw.2.1, va_K.moved hW.alike hK, hw.2.2.1⟩, hw.2.2.2.1.F ht⟩) hw.2.2.2.1.2.2 dX10_open_24
    · have r_v_3 : RI v_3 1 1 := rc_neL r_v_3 rl_0 (ti_ne c9_v_3) (by decide)
      refine lv_goto (tgt := 24) hx hb dX10_open_20 (by decide) ?_
      subst hQ
      exact W.iret (v := v_3) hx hb hr (fun t ht hW => ⟨⟨v_3, ws, rfl, ⟨⟨x_HD_p0_gdR, r_v_3.to (by decide), (fun _ => trivial), (fun h0 => trivial)⟩, hw.1, hw.2.2.2.2.1⟩, by rw [ht]; exact hw.2.1, va_K.moved hW.alike hK, hw.2.2.1⟩, hw.2.2.2.1.F ht⟩) hw.2.2.2.1.2.2 dX10_open_24
abbrev wr_X10_worthOf__1 : List (Nat × Nat) := []
abbrev wa_X10_worthOf__1 : List Nat := [34, 39, 46]
set_option maxHeartbeats 4000000 in
set_option maxRecDepth 100000 in
theorem c_X10_worthOf__1 (l : Launch) (D : va_G) (cy : Nat → ClassId) (z : Nat → Nat) (sz : Nat) (Ps : PSI) (w0 : va_W) (hT : HT cy GG Ps w0) (p0 : Nat) (p1 : Int32) (p2 : Int32) (gdR : Nat → Int32) (h_p0 : (p0, 55) ∈ Ps) (r_p1 : RI p1 0 7) (r_p2 : RI p2 0 5) (x_HD_p0_gdR : AX 14 34 (HDp gdR) Ps w0 p0) : Met l yX10_worthOf (Cond.code yX10_worthOf cX10_worthOf 4 (some .int) :: gT) ({ frames := 6, cells := 0, slots := 0, locals := 1200 } : Room) (va_Pc [.ref p0, .int p1, .int p2] (PRE D cy z w0 sz)) (va_Qi (fun (r : Int32) (u : va_W) => ((AX 14 34 (HDp gdR) Ps u p0) ∧ (RI r (-2147483648) 2147483647 ∧ (r = 0 → True) ∧ (¬ r = 0 → True))) ∧ HT cy GG Ps u ∧ FR wr_X10_worthOf__1 wa_X10_worthOf__1 Ps w0 u) (BB D cy (va_A w0 sz) (fun (u : va_W) => u)) (va_A w0 sz)) 0 0 (va_A w0 sz) := by
  refine Met.ofW (cc := cX10_worthOf) (maxL := 4) (ret := (some .int)) (by decide) rfl ?_
  intro p e s m args below meth c s₁ B hml hv
  obtain ⟨rfl, hsz, hP, hK, hD0, hSD⟩ := hv
  have hx := B.exec
  have hb := B.bytes
  have hr := B.returns
  have hlocks := B.notSynchronized
  have hts : ∀ w ∈ gT, w.before _ s = true := fun w h => atoms_spec (ws := Cond.code yX10_worthOf cX10_worthOf 4 (some .int) :: gT) B.pre w (List.mem_cons_of_mem _ h)
  have hown : s.vm.findClass RX10 = some m.cls := findClass_of_methodNamed B.named
  subst hsz
  have hD := hD0.self (sz := s.heap.size)
  generalize hAe : va_A w0 s.heap.size = A at hD hSD ⊢
  have hA : ∀ q : Nat, s.heap.size ≤ q → A q := fun q h => by rw [← hAe]; exact Or.inr h
  have hl := lv_entry ([.ref p0, .int p1, .int p2]) (n := 4) (Nat.le_of_ble_eq_true rfl)
  rw [lg_entry_eq]
  generalize (lg_sl ([.ref p0, .int p1, .int p2]) ++ List.replicate (4 - (lg_sl ([.ref p0, .int p1, .int p2])).length) Slot.unset).toArray = ls at hl ⊢
  have hl : lv_has ls 4 [(0, .ref p0), (1, .int p1), (2, .int p2)] := hl
  refine nameQ (fun Q hQ => ?_)
  have hw : WD D cy GG A s wr_X10_worthOf__1 wa_X10_worthOf__1 Ps w0 Ps w0 s.heap [] := ⟨hT, hP, hD, va_S.rf, FR.rf, hT.1, [], (List.append_nil _).symm⟩
  have B56 : ∀ (y0 : Int32) (ws : va_W) (H : Heap) (locs : List Loc) (ls : Array Slot), RI p1 0 7 → RI p2 0 5 → RI y0 (-2147483648) 2147483647 → AX 14 34 (HDp gdR) Ps ws p0 → WD D cy GG A s wr_X10_worthOf__1 wa_X10_worthOf__1 Ps w0 Ps ws H locs → lv_has ls 4 [(0, .ref p0), (1, .int p1), (2, .int p2)] → W p l e (headSpec (Cond.code yX10_worthOf cX10_worthOf 4 (some .int) :: gT) ({ frames := 6, cells := 0, slots := 0, locals := 1200 } : Room)).room s m ([.ref p0, .int p1, .int p2] : List Value).toArray below meth c H locs 0 0 Q (F0 m 56 ls [.int y0]) := by
    intro y0 ws H locs ls r_p1 r_p2 r_y0 x_HD_p0_gdR hw hl
    refine lv_istore_n (lv' := [(3, .int y0), (0, .ref p0), (1, .int p1), (2, .int p2)]) hx hb dX10_worthOf_56 rfl hl (by decide) rfl (fun ls hl => ?_)
    refine lv_aload_n hx hb dX10_worthOf_57 rfl (lv_at hl 1 rfl) ?_
    refine tk_v (va_runV (As := []) (rest := []) ⟨hx, hb, hml, hown, hts⟩ (c_X10_back__1 l D cy z H.size Ps ws hw.1 p0 (gdR) h_p0 x_HD_p0_gdR) (cwV 0 hts (gV tw_1611 tw_1613 ts_92 tw_15 tw_1614) rfl rfl rfl (by decide +kernel) ⟨Nat.le_of_ble_eq_true rfl, Nat.le_of_ble_eq_true rfl⟩) (tg_preV hw hK hSD hA (ci := 10) (q := (RX10, TX10, 49)) rfl h_p0 rfl) rfl rfl hl.1 rfl (lv_room (Nat.le_of_ble_eq_true rfl)) dX10_worthOf_58 ⟨Nat.le_of_ble_eq_true rfl, Nat.le_of_ble_eq_true rfl⟩) hw hA ⟨by decide, by decide⟩ (fun ws H locs hp_v_1 hw hF9 => ?_)
    obtain ⟨x_HD_p0_gdR, hp_v_1⟩ := hp_v_1
    refine lv_iload_n hx hb dX10_worthOf_61 rfl (lv_at hl 0 rfl) ?_
    subst hQ
    exact W.iret (v := y0) hx hb hr (fun t ht hW => ⟨⟨y0, ws, rfl, ⟨⟨x_HD_p0_gdR, r_y0.to (by decide), (fun h0 => trivial), (fun h0 => trivial)⟩, hw.1, hw.2.2.2.2.1⟩, by rw [ht]; exact hw.2.1, va_K.moved hW.alike hK, hw.2.2.1⟩, hw.2.2.2.1.F ht⟩) hw.2.2.2.1.2.2 dX10_worthOf_62
  refine lv_aload_n hx hb dX10_worthOf_0 rfl (lv_at hl 0 rfl) ?_
  refine tk_v (va_runV (As := []) (rest := []) ⟨hx, hb, hml, hown, hts⟩ (c_X10_hold l D cy z s.heap.size Ps w0 hw.1 p0 h_p0) (cwV 0 hts (gV tw_1607 tw_1609 ts_91 tw_15 tw_1610) rfl rfl rfl (by decide +kernel) ⟨Nat.le_of_ble_eq_true rfl, Nat.le_of_ble_eq_true rfl⟩) (tg_preV hw hK hSD hA (ci := 10) (q := (RX10, TX10, 49)) rfl h_p0 rfl) rfl rfl hl.1 rfl (lv_room (Nat.le_of_ble_eq_true rfl)) dX10_worthOf_1 ⟨Nat.le_of_ble_eq_true rfl, Nat.le_of_ble_eq_true rfl⟩) hw hA ⟨by decide, by decide⟩ (fun ws H locs hp_v_2 hw hF9 => ?_)
  have x_HD_p0_gdR := AX.over hF9 x_HD_p0_gdR (by decide)
  refine lv_aload_n hx hb dX10_worthOf_4 rfl (lv_at hl 0 rfl) ?_
  refine tg_get (ci := 10) (ts := ty_MODEL) (C := RX10) (T := TX10) (N := 49) hx hb hts inX10 hown hK hw h_p0 rfl rfl 14 (by decide) (hts _ tw_1151) (fun _ h9 => h9) (ft := vR 34) rfl dX10_worthOf_5 (fun u_3 hv_u_3 m_u_3 => ?_)
  obtain ⟨vu_3, rfl, h_vu_3⟩ := hv_u_3
  refine lv_bipush (v := 112) hx hb dX10_worthOf_8 (by decide) ?_
  refine lv_iload_n hx hb dX10_worthOf_10 rfl (lv_at hl 1 rfl) ?_
  refine lv_iadd hx hb dX10_worthOf_11 (lv_topi (fun v_4 e_v_4 => ?_))
  obtain ⟨t_v_4, r_v_4⟩ := tq_add (lo := 112) (hi := 119) rl_112 r_p1 (by decide +kernel) e_v_4
  have t_v_4 : v_4.toInt = 112 + p1.toInt := t_v_4
  refine lv_iload_n hx hb dX10_worthOf_12 rfl (lv_at hl 2 rfl) ?_
  refine tg_iast hx hb hK hw h_vu_3 rfl 112 119 r_v_4 (by decide) r_p2 (by decide +kernel) (RN_upd (by decide) (by decide)) (by decide) dX10_worthOf_13 (fun ws H locs hw hF9 hU9 => ?_)
  have x_HD_p0_gdR : AX 14 34 (HDp gdR) Ps ws p0 := AX.ast hF9 hU9 x_HD_p0_gdR m_u_3 (fun f9 h9 => HDp.upd h9 (by have k1 := r_v_4.cl (by decide); have k2 := r_v_4.1; omega))
  have m_u_3 := FLD.over hF9 m_u_3 (by decide)
  refine lv_aload_n hx hb dX10_worthOf_14 rfl (lv_at hl 0 rfl) ?_
  refine lv_bipush (v := 7) hx hb dX10_worthOf_15 (by decide) ?_
  refine tk_i (va_runV (As := [.int 7]) (rest := []) ⟨hx, hb, hml, hown, hts⟩ (c_X10_passDays__1 l D cy z H.size Ps ws hw.1 p0 7 (gdR) h_p0 (rl_7.to (by decide)) x_HD_p0_gdR) (cwV 1 hts (gV tw_1560 tw_1562 ts_84 tw_15 tw_1563) rfl rfl rfl (by decide +kernel) ⟨Nat.le_of_ble_eq_true rfl, Nat.le_of_ble_eq_true rfl⟩) (tg_preV hw hK hSD hA (ci := 10) (q := (RX10, TX10, 49)) rfl h_p0 rfl) rfl rfl hl.1 rfl (lv_room (Nat.le_of_ble_eq_true rfl)) dX10_worthOf_17 ⟨Nat.le_of_ble_eq_true rfl, Nat.le_of_ble_eq_true rfl⟩) hw hA ⟨by decide, by decide⟩ (fun v_5 ws H locs hp_v_5 hw hF9 => ?_)
  have m_u_3 := FLD.over hF9 m_u_3 (by decide)
  obtain ⟨x_HD_p0_gdR, hp_v_5⟩ := hp_v_5
  have r_v_5 : RI v_5 (-2147483648) 2147483647 := hp_v_5.1
  refine lv_pop hx hb dX10_worthOf_20 rfl ?_
  refine lv_aload_n hx hb dX10_worthOf_21 rfl (lv_at hl 0 rfl) ?_
  refine lv_iload_n hx hb dX10_worthOf_22 rfl (lv_at hl 2 rfl) ?_
  refine tk_ir (va_runV (As := [.int p2]) (rest := []) ⟨hx, hb, hml, hown, hts⟩ (c_X10_whatIs l D cy z H.size Ps ws hw.1 p0 p2 h_p0 r_p2) (cwV 1 hts (gV tw_1449 tw_1451 ts_69 tw_15 tw_1452) rfl rfl rfl (by decide +kernel) ⟨Nat.le_of_ble_eq_true rfl, Nat.le_of_ble_eq_true rfl⟩) (tg_preV hw hK hSD hA (ci := 10) (q := (RX10, TX10, 49)) rfl h_p0 rfl) rfl rfl hl.1 rfl (lv_room (Nat.le_of_ble_eq_true rfl)) dX10_worthOf_23 ⟨Nat.le_of_ble_eq_true rfl, Nat.le_of_ble_eq_true rfl⟩) hw hA (fun v_6  H locs hp_v_6 hw => ?_)
  have r_v_6 : RI v_6 (-1) 5 := hp_v_6.1
  by_cases c9_v_6 : v_6.toInt < 0
  · have r_v_6 : RI v_6 (-1) (-1) := by unfold RI at r_v_6 ⊢; omega
    have x_NB_p0_p2 := (hp_v_6.2.2.2.2.1 (by omega)).1
    refine lv_aload_n hx hb dX10_worthOf_26 rfl (lv_at hl 0 rfl) ?_
    refine tg_mem (ci := 10) (C := RX10) (T := TX10) (N := 49) hx hb hts inX10 hown hK hw 14 m_u_3 rfl (by decide) (hts _ tw_1151) (fun _ h9 => h9) dX10_worthOf_27 ?_
    refine lv_bipush (v := 104) hx hb dX10_worthOf_30 (by decide) ?_
    refine lv_iload_n hx hb dX10_worthOf_32 rfl (lv_at hl 1 rfl) ?_
    refine lv_iadd hx hb dX10_worthOf_33 (lv_topi (fun v_7 e_v_7 => ?_))
    obtain ⟨t_v_7, r_v_7⟩ := tq_add (lo := 104) (hi := 111) rl_104 r_p1 (by decide +kernel) e_v_7
    have t_v_7 : v_7.toInt = 104 + p1.toInt := t_v_7
    refine tg_iald (lo := 0) (hi := 5) hx hb hK hw h_vu_3 rfl 104 111 r_v_7 (by decide) (by decide +kernel) dX10_worthOf_34 (fun v_8 r_v_8 m_v_8 o_v_8 => ?_)
    refine lv_icmp_ne (tgt := 55) hx hb dX10_worthOf_35 (by decide) (fun c_35 => ?_) (fun c_35 => ?_)
    · refine lv_iconst (v := 0) hx hb dX10_worthOf_55 (by decide) ?_
      exact B56 0 ws _ _ ls r_p1 r_p2 (rl_0.to (by decide)) x_HD_p0_gdR hw hl
    · have r_v_6 : RI v_6 0 (-1) := rc_eq1 r_v_6 r_v_8 (ti_eq c_35) (by decide)
      have r_v_8 : RI v_8 0 (-1) := rc_eq2 r_v_6 r_v_8 (ti_eq c_35) (by decide)
      exact (r_v_6.no (by decide)).elim
  · have r_v_6 : RI v_6 0 5 := by unfold RI at r_v_6 ⊢; omega
    have x_WB_p0_p2_v_6 := (hp_v_6.2.2.2.2.2 (by omega)).1
    refine lv_aload_n hx hb dX10_worthOf_26 rfl (lv_at hl 0 rfl) ?_
    refine tg_mem (ci := 10) (C := RX10) (T := TX10) (N := 49) hx hb hts inX10 hown hK hw 14 m_u_3 rfl (by decide) (hts _ tw_1151) (fun _ h9 => h9) dX10_worthOf_27 ?_
    refine lv_bipush (v := 104) hx hb dX10_worthOf_30 (by decide) ?_
    refine lv_iload_n hx hb dX10_worthOf_32 rfl (lv_at hl 1 rfl) ?_
    refine lv_iadd hx hb dX10_worthOf_33 (lv_topi (fun v_9 e_v_9 => ?_))
    obtain ⟨t_v_9, r_v_9⟩ := tq_add (lo := 104) (hi := 111) rl_104 r_p1 (by decide +kernel) e_v_9
    have t_v_9 : v_9.toInt = 104 + p1.toInt := t_v_9
    refine tg_iald (lo := 0) (hi := 5) hx hb hK hw h_vu_3 rfl 104 111 r_v_9 (by decide) (by decide +kernel) dX10_worthOf_34 (fun v_10 r_v_10 m_v_10 o_v_10 => ?_)
    refine lv_icmp_ne (tgt := 55) hx hb dX10_worthOf_35 (by decide) (fun c_35 => ?_) (fun c_35 => ?_)
    · refine lv_iconst (v := 0) hx hb dX10_worthOf_55 (by decide) ?_
      exact B56 0 ws _ _ ls r_p1 r_p2 (rl_0.to (by decide)) x_HD_p0_gdR hw hl
    · refine lv_aload_n hx hb dX10_worthOf_38 rfl (lv_at hl 0 rfl) ?_
      refine lv_iload_n hx hb dX10_worthOf_39 rfl (lv_at hl 2 rfl) ?_
      refine lv_aload_n hx hb dX10_worthOf_40 rfl (lv_at hl 0 rfl) ?_
      refine tg_mem (ci := 10) (C := RX10) (T := TX10) (N := 49) hx hb hts inX10 hown hK hw 14 m_u_3 rfl (by decide) (hts _ tw_1151) (fun _ h9 => h9) dX10_worthOf_41 ?_
      refine lv_bipush (v := 104) hx hb dX10_worthOf_44 (by decide) ?_
      refine lv_iload_n hx hb dX10_worthOf_46 rfl (lv_at hl 1 rfl) ?_
      refine lv_iadd hx hb dX10_worthOf_47 (lv_topi (fun v_11 e_v_11 => ?_))
      obtain ⟨t_v_11, r_v_11⟩ := tq_add (lo := 104) (hi := 111) rl_104 r_p1 (by decide +kernel) e_v_11
      have t_v_11 : v_11.toInt = 104 + p1.toInt := t_v_11
      refine tg_iald (lo := 0) (hi := 5) hx hb hK hw h_vu_3 rfl 104 111 r_v_11 (by decide) (by decide +kernel) dX10_worthOf_48 (fun v_12 r_v_12 m_v_12 o_v_12 => ?_)
      refine tk_ir (va_runV (As := [.int p2, .int v_12]) (rest := []) ⟨hx, hb, hml, hown, hts⟩ (c_X10_muchOf l D cy z H.size Ps ws hw.1 p0 p2 v_12 h_p0 r_p2 r_v_12) (cwV 2 hts (gV tw_1437 tw_1439 ts_67 tw_15 tw_1440) rfl rfl rfl (by decide +kernel) ⟨Nat.le_of_ble_eq_true rfl, Nat.le_of_ble_eq_true rfl⟩) (tg_preV hw hK hSD hA (ci := 10) (q := (RX10, TX10, 49)) rfl h_p0 rfl) rfl rfl hl.1 rfl (lv_room (Nat.le_of_ble_eq_true rfl)) dX10_worthOf_49 ⟨Nat.le_of_ble_eq_true rfl, Nat.le_of_ble_eq_true rfl⟩) hw hA (fun v_13  H locs hp_v_13 hw => ?_)
      have r_v_13 : RI v_13 (-2147483648) 2147483647 := hp_v_13.1
      have x_MUCH_p0_p2_v_12_v_13 := hp_v_13.2.2.2.1.1
      refine lv_goto (tgt := 56) hx hb dX10_worthOf_52 (by decide) ?_
      exact B56 v_13 ws _ _ ls r_p1 r_p2 r_v_13 x_HD_p0_gdR hw hl
abbrev wr_X10_resits__1 : List (Nat × Nat) := []
abbrev wa_X10_resits__1 : List Nat := [34, 39, 46]
set_option maxHeartbeats 4000000 in
set_option maxRecDepth 100000 in
theorem c_X10_resits__1 (l : Launch) (D : va_G) (cy : Nat → ClassId) (z : Nat → Nat) (sz : Nat) (Ps : PSI) (w0 : va_W) (hT : HT cy GG Ps w0) (p0 : Nat) (p1 : Int32) (gdR : Nat → Int32) (h_p0 : (p0, 55) ∈ Ps) (r_p1 : RI p1 0 7) (x_HD_p0_gdR : AX 14 34 (HDp gdR) Ps w0 p0) : Met l yX10_resits (Cond.code yX10_resits cX10_resits 7 (some .boolean) :: gT) ({ frames := 7, cells := 0, slots := 0, locals := 1400 } : Room) (va_Pc [.ref p0, .int p1] (PRE D cy z w0 sz)) (va_Qi (fun (r : Int32) (u : va_W) => ((AX 14 34 (HDp gdR) Ps u p0) ∧ (RI r 0 1 ∧ (r = 0 → True) ∧ (¬ r = 0 → True))) ∧ HT cy GG Ps u ∧ FR wr_X10_resits__1 wa_X10_resits__1 Ps w0 u) (BB D cy (va_A w0 sz) (fun (u : va_W) => u)) (va_A w0 sz)) 0 0 (va_A w0 sz) := by
  refine Met.ofW (cc := cX10_resits) (maxL := 7) (ret := (some .boolean)) (by decide) rfl ?_
  intro p e s m args below meth c s₁ B hml hv
  obtain ⟨rfl, hsz, hP, hK, hD0, hSD⟩ := hv
  have hx := B.exec
  have hb := B.bytes
  have hr := B.returns
  have hlocks := B.notSynchronized
  have hts : ∀ w ∈ gT, w.before _ s = true := fun w h => atoms_spec (ws := Cond.code yX10_resits cX10_resits 7 (some .boolean) :: gT) B.pre w (List.mem_cons_of_mem _ h)
  have hown : s.vm.findClass RX10 = some m.cls := findClass_of_methodNamed B.named
  subst hsz
  have hD := hD0.self (sz := s.heap.size)
  generalize hAe : va_A w0 s.heap.size = A at hD hSD ⊢
  have hA : ∀ q : Nat, s.heap.size ≤ q → A q := fun q h => by rw [← hAe]; exact Or.inr h
  have hl := lv_entry ([.ref p0, .int p1]) (n := 7) (Nat.le_of_ble_eq_true rfl)
  rw [lg_entry_eq]
  generalize (lg_sl ([.ref p0, .int p1]) ++ List.replicate (7 - (lg_sl ([.ref p0, .int p1])).length) Slot.unset).toArray = ls at hl ⊢
  have hl : lv_has ls 7 [(0, .ref p0), (1, .int p1)] := hl
  refine nameQ (fun Q hQ => ?_)
  have hw : WD D cy GG A s wr_X10_resits__1 wa_X10_resits__1 Ps w0 Ps w0 s.heap [] := ⟨hT, hP, hD, va_S.rf, FR.rf, hT.1, [], (List.append_nil _).symm⟩
  have B49 : ∀ (nf : Nat) (x2 : Int32) (x3 : Int32) (x4 : Int32) (x5 : Int32) (ws : va_W) (H : Heap) (locs : List Loc) (ls : Array Slot), 6 - x5.toInt < (nf : Int) → RI p1 0 7 → RI x2 (-1) 5 → RI x3 (-1) 5 → RI x4 (-2147483648) 2147483647 → RI x5 0 6 → AX 14 34 (HDp gdR) Ps ws p0 → WD D cy GG A s wr_X10_resits__1 wa_X10_resits__1 Ps w0 Ps ws H locs → lv_has ls 7 [(0, .ref p0), (1, .int p1), (2, .int x2), (3, .int x3), (4, .int x4), (5, .int x5)] → W p l e (headSpec (Cond.code yX10_resits cX10_resits 7 (some .boolean) :: gT) ({ frames := 7, cells := 0, slots := 0, locals := 1400 } : Room)).room s m ([.ref p0, .int p1] : List Value).toArray below meth c H locs 0 0 Q (F0 m 49 ls []) := by
    intro nf49
    induction nf49 with
    | zero =>
      intro x2 x3 x4 x5 ws H locs ls hn49 r_p1 r_x2 r_x3 r_x4 r_x5 x_HD_p0_gdR hw hl
      exact absurd hn49 (by have q0 := r_x5.1; have u0 := r_x5.2; omega)
    | succ nf49 ih49 =>
      intro x2 x3 x4 x5 ws H locs ls hn49 r_p1 r_x2 r_x3 r_x4 r_x5 x_HD_p0_gdR hw hl
      refine lv_iload hx hb dX10_resits_49 (lv_at hl 5 rfl) ?_
      refine lv_aload_n hx hb dX10_resits_51 rfl (lv_at hl 0 rfl) ?_
      refine tg_get (ci := 10) (ts := ty_MODEL) (C := RX10) (T := TX10) (N := 49) hx hb hts inX10 hown hK hw h_p0 rfl rfl 14 (by decide) (hts _ tw_1151) (fun _ h9 => h9) (ft := vR 34) rfl dX10_resits_52 (fun u_1 hv_u_1 m_u_1 => ?_)
      obtain ⟨vu_1, rfl, h_vu_1⟩ := hv_u_1
      refine lv_iconst (v := 2) hx hb dX10_resits_55 (by decide) ?_
      refine tg_iald (lo := 0) (hi := 6) hx hb hK hw h_vu_1 rfl 2 2 rl_2 (by decide) (by decide +kernel) dX10_resits_56 (fun v_2 r_v_2 m_v_2 o_v_2 => ?_)
      refine lv_icmp_ge (tgt := 104) hx hb dX10_resits_57 (by decide) (fun c_57 => ?_) (fun c_57 => ?_)
      · refine lv_iload_n hx hb dX10_resits_104 rfl (lv_at hl 3 rfl) ?_
        refine lv_iconst (v := (-1)) hx hb dX10_resits_105 (by decide) ?_
        refine lv_icmp_eq (tgt := 114) hx hb dX10_resits_106 (by decide) (fun c_106 => ?_) (fun c_106 => ?_)
        · have r_x3 : RI x3 (-1) (-1) := rc_eq1 r_x3 rl_m1 (ti_eq c_106) (by decide)
          refine lv_iconst (v := 0) hx hb dX10_resits_114 (by decide) ?_
          subst hQ
          exact W.zret (v := 0) hx hb hr (rfl) (fun t ht hW => ⟨⟨0, ws, rfl, ⟨⟨x_HD_p0_gdR, rl_0.to (by decide), (fun h0 => trivial), (fun _ => trivial)⟩, hw.1, hw.2.2.2.2.1⟩, by rw [ht]; exact hw.2.1, va_K.moved hW.alike hK, hw.2.2.1⟩, hw.2.2.2.1.F ht⟩) hw.2.2.2.1.2.2 dX10_resits_115
        · have r_x3 : RI x3 0 5 := rc_neL r_x3 rl_m1 (ti_ne c_106) (by decide)
          refine lv_iload_n hx hb dX10_resits_109 rfl (lv_at hl 3 rfl) ?_
          refine lv_iload_n hx hb dX10_resits_110 rfl (lv_at hl 2 rfl) ?_
          refine lv_icmp_ne (tgt := 116) hx hb dX10_resits_111 (by decide) (fun c_111 => ?_) (fun c_111 => ?_)
          · refine lv_aload_n hx hb dX10_resits_116 rfl (lv_at hl 0 rfl) ?_
            refine tg_mem (ci := 10) (C := RX10) (T := TX10) (N := 49) hx hb hts inX10 hown hK hw 14 m_u_1 rfl (by decide) (hts _ tw_1151) (fun _ h9 => h9) dX10_resits_117 ?_
            refine lv_bipush (v := 112) hx hb dX10_resits_120 (by decide) ?_
            refine lv_iload_n hx hb dX10_resits_122 rfl (lv_at hl 1 rfl) ?_
            refine lv_iadd hx hb dX10_resits_123 (lv_topi (fun v_3 e_v_3 => ?_))
            obtain ⟨t_v_3, r_v_3⟩ := tq_add (lo := 112) (hi := 119) rl_112 r_p1 (by decide +kernel) e_v_3
            have t_v_3 : v_3.toInt = 112 + p1.toInt := t_v_3
            refine lv_iload_n hx hb dX10_resits_124 rfl (lv_at hl 3 rfl) ?_
            have hw8 := hw
            refine tg_iast hx hb hK hw h_vu_1 rfl 112 119 r_v_3 (by decide) r_x3 (by decide +kernel) (RN_upd (by decide) (by decide)) (by decide) dX10_resits_125 (fun ws H locs hw hF9 hU9 => ?_)
            have x_HD_p0_gdR : AX 14 34 (HDp gdR) Ps ws p0 := AX.ast hF9 hU9 x_HD_p0_gdR m_u_1 (fun f9 h9 => HDp.upd h9 (by have k1 := r_v_3.cl (by decide); have k2 := r_v_3.1; omega))
            have m_u_1 := FLD.over hF9 m_u_1 (by decide)
            refine lv_iconst (v := 1) hx hb dX10_resits_126 (by decide) ?_
            subst hQ
            exact W.zret (v := 1) hx hb hr (rfl) (fun t ht hW => ⟨⟨1, ws, rfl, ⟨⟨x_HD_p0_gdR, rl_1.to (by decide), (fun _ => trivial), (fun h0 => trivial)⟩, hw.1, hw.2.2.2.2.1⟩, by rw [ht]; exact hw.2.1, va_K.moved hW.alike hK, hw.2.2.1⟩, hw.2.2.2.1.F ht⟩) hw.2.2.2.1.2.2 dX10_resits_127
          · have r_x2 : RI x2 0 5 := rc_eq2 r_x3 r_x2 (ti_eq c_111) (by decide)
            refine lv_iconst (v := 0) hx hb dX10_resits_114 (by decide) ?_
            subst hQ
            exact W.zret (v := 0) hx hb hr (rfl) (fun t ht hW => ⟨⟨0, ws, rfl, ⟨⟨x_HD_p0_gdR, rl_0.to (by decide), (fun h0 => trivial), (fun _ => trivial)⟩, hw.1, hw.2.2.2.2.1⟩, by rw [ht]; exact hw.2.1, va_K.moved hW.alike hK, hw.2.2.1⟩, hw.2.2.2.1.F ht⟩) hw.2.2.2.1.2.2 dX10_resits_115
      · have r_x5 : RI x5 0 5 := rc_lt1 r_x5 r_v_2 (ti_nle c_57) (by decide)
        have r_v_2 : RI v_2 1 6 := rc_lt2 r_x5 r_v_2 (ti_nle c_57) (by decide)
        refine lv_aload_n hx hb dX10_resits_60 rfl (lv_at hl 0 rfl) ?_
        refine lv_iload hx hb dX10_resits_61 (lv_at hl 5 rfl) ?_
        refine tk_ir (va_runV (As := [.int x5]) (rest := []) ⟨hx, hb, hml, hown, hts⟩ (c_X10_isOpen l D cy z H.size Ps ws hw.1 p0 x5 h_p0 (r_x5.to (by decide))) (cwV 1 hts (gV tw_1457 tw_1459 ts_71 tw_15 tw_1460) rfl rfl rfl (by decide +kernel) ⟨Nat.le_of_ble_eq_true rfl, Nat.le_of_ble_eq_true rfl⟩) (tg_preV hw hK hSD hA (ci := 10) (q := (RX10, TX10, 49)) rfl h_p0 rfl) rfl rfl hl.1 rfl (lv_room (Nat.le_of_ble_eq_true rfl)) dX10_resits_63 ⟨Nat.le_of_ble_eq_true rfl, Nat.le_of_ble_eq_true rfl⟩) hw hA (fun v_4  H locs hp_v_4 hw => ?_)
        have r_v_4 : RI v_4 0 1 := hp_v_4.1
        refine lv_if_eq (tgt := 72) hx hb dX10_resits_66 (by decide) (fun c_66 => ?_) (fun c_66 => ?_)
        · have r_v_4 : RI v_4 0 0 := rc_eq1 r_v_4 rl_0 (ti_eq c_66) (by decide)
          refine lv_aload_n hx hb dX10_resits_72 rfl (lv_at hl 0 rfl) ?_
          refine lv_iload_n hx hb dX10_resits_73 rfl (lv_at hl 1 rfl) ?_
          refine lv_iload hx hb dX10_resits_74 (lv_at hl 5 rfl) ?_
          have hw8 := hw
          refine tk_i (va_runV (As := [.int p1, .int x5]) (rest := []) ⟨hx, hb, hml, hown, hts⟩ (c_X10_worthOf__1 l D cy z H.size Ps ws hw.1 p0 p1 x5 (gdR) h_p0 r_p1 r_x5 x_HD_p0_gdR) (cwV 2 hts (gV tw_1654 tw_1656 ts_96 tw_15 tw_1657) rfl rfl rfl (by decide +kernel) ⟨Nat.le_of_ble_eq_true rfl, Nat.le_of_ble_eq_true rfl⟩) (tg_preV hw hK hSD hA (ci := 10) (q := (RX10, TX10, 49)) rfl h_p0 rfl) rfl rfl hl.1 rfl (lv_room (Nat.le_of_ble_eq_true rfl)) dX10_resits_76 ⟨Nat.le_of_ble_eq_true rfl, Nat.le_of_ble_eq_true rfl⟩) hw hA ⟨by decide, by decide⟩ (fun v_5 ws H locs hp_v_5 hw hF9 => ?_)
          have m_u_1 := FLD.over hF9 m_u_1 (by decide)
          obtain ⟨x_HD_p0_gdR, hp_v_5⟩ := hp_v_5
          have r_v_5 : RI v_5 (-2147483648) 2147483647 := hp_v_5.1
          refine lv_istore (lv' := [(6, .int v_5), (0, .ref p0), (1, .int p1), (2, .int x2), (3, .int x3), (4, .int x4), (5, .int x5)]) hx hb dX10_resits_79 hl (by decide) rfl (fun ls hl => ?_)
          refine lv_iload hx hb dX10_resits_81 (lv_at hl 0 rfl) ?_
          refine lv_iload hx hb dX10_resits_83 (lv_at hl 5 rfl) ?_
          refine lv_icmp_gt (tgt := 91) hx hb dX10_resits_85 (by decide) (fun c_85 => ?_) (fun c_85 => ?_)
          · have r_x4 : RI x4 (-2147483648) 2147483646 := rc_lt1 r_x4 r_v_5 (ti_lt c_85) (by decide)
            have r_v_5 : RI v_5 (-2147483647) 2147483647 := rc_lt2 r_x4 r_v_5 (ti_lt c_85) (by decide)
            refine lv_iload hx hb dX10_resits_91 (lv_at hl 0 rfl) ?_
            refine lv_istore (lv' := [(4, .int v_5), (6, .int v_5), (0, .ref p0), (1, .int p1), (2, .int x2), (3, .int x3), (5, .int x5)]) hx hb dX10_resits_93 hl (by decide) rfl (fun ls hl => ?_)
            refine lv_iload hx hb dX10_resits_95 (lv_at hl 6 rfl) ?_
            refine lv_istore_n (lv' := [(3, .int x5), (4, .int v_5), (6, .int v_5), (0, .ref p0), (1, .int p1), (2, .int x2), (5, .int x5)]) hx hb dX10_resits_97 rfl hl (by decide) rfl (fun ls hl => ?_)
            obtain ⟨v_6, e_v_6⟩ : ∃ q9 : Int32, q9 = x5 + Int32.ofInt 1 := ⟨_, rfl⟩
            obtain ⟨t_v_6, r_v_6⟩ := tq_add (lo := 1) (hi := 6) r_x5 (show RI (Int32.ofInt 1) 1 1 by unfold RI; decide +kernel) (by decide +kernel) e_v_6
            have t_v_6 : v_6.toInt = x5.toInt + 1 := t_v_6
            refine lv_iinc (v := v_6) (lv' := [(5, .int v_6), (3, .int x5), (4, .int v_5), (6, .int v_5), (0, .ref p0), (1, .int p1), (2, .int x2)]) hx hb dX10_resits_98 hl (k := 6) rfl e_v_6.symm (by decide) rfl (fun ls hl => ?_)
            refine lv_goto (tgt := 49) hx hb dX10_resits_101 (by decide) ?_
            exact ih49 x2 x5 v_5 v_6 ws _ _ ls (by have q0 := r_v_6.1; have u0 := r_v_6.2; have o0 := r_x5.1; have p0 := r_x5.2; omega) r_p1 r_x2 (r_x5.to (by decide)) (r_v_5.to (by decide)) (r_v_6.to (by decide)) x_HD_p0_gdR hw (lv_sub hl [4, 5, 6, 1, 2, 0] rfl)
          · refine lv_goto (tgt := 98) hx hb dX10_resits_88 (by decide) ?_
            obtain ⟨v_7, e_v_7⟩ : ∃ q9 : Int32, q9 = x5 + Int32.ofInt 1 := ⟨_, rfl⟩
            obtain ⟨t_v_7, r_v_7⟩ := tq_add (lo := 1) (hi := 6) r_x5 (show RI (Int32.ofInt 1) 1 1 by unfold RI; decide +kernel) (by decide +kernel) e_v_7
            have t_v_7 : v_7.toInt = x5.toInt + 1 := t_v_7
            refine lv_iinc (v := v_7) (lv' := [(5, .int v_7), (6, .int v_5), (0, .ref p0), (1, .int p1), (2, .int x2), (3, .int x3), (4, .int x4)]) hx hb dX10_resits_98 hl (k := 6) rfl e_v_7.symm (by decide) rfl (fun ls hl => ?_)
            refine lv_goto (tgt := 49) hx hb dX10_resits_101 (by decide) ?_
            exact ih49 x2 x3 x4 v_7 ws _ _ ls (by have q0 := r_v_7.1; have u0 := r_v_7.2; have o0 := r_x5.1; have p0 := r_x5.2; omega) r_p1 r_x2 r_x3 r_x4 (r_v_7.to (by decide)) x_HD_p0_gdR hw (lv_sub hl [2, 3, 4, 5, 6, 0] rfl)
        · have r_v_4 : RI v_4 1 1 := rc_neL r_v_4 rl_0 (ti_ne c_66) (by decide)
          refine lv_goto (tgt := 98) hx hb dX10_resits_69 (by decide) ?_
          obtain ⟨v_8, e_v_8⟩ : ∃ q9 : Int32, q9 = x5 + Int32.ofInt 1 := ⟨_, rfl⟩
          obtain ⟨t_v_8, r_v_8⟩ := tq_add (lo := 1) (hi := 6) r_x5 (show RI (Int32.ofInt 1) 1 1 by unfold RI; decide +kernel) (by decide +kernel) e_v_8
          have t_v_8 : v_8.toInt = x5.toInt + 1 := t_v_8
          refine lv_iinc (v := v_8) (lv' := [(5, .int v_8), (0, .ref p0), (1, .int p1), (2, .int x2), (3, .int x3), (4, .int x4)]) hx hb dX10_resits_98 hl (k := 5) rfl e_v_8.symm (by decide) rfl (fun ls hl => ?_)
          refine lv_goto (tgt := 49) hx hb dX10_resits_101 (by decide) ?_
          exact ih49 x2 x3 x4 v_8 ws _ _ ls (by have q0 := r_v_8.1; have u0 := r_v_8.2; have o0 := r_x5.1; have p0 := r_x5.2; omega) r_p1 r_x2 r_x3 r_x4 (r_v_8.to (by decide)) x_HD_p0_gdR hw (lv_sub hl [1, 2, 3, 4, 5, 0] rfl)
  have B44 : ∀ (x2 : Int32) (x3 : Int32) (y0 : Int32) (ws : va_W) (H : Heap) (locs : List Loc) (ls : Array Slot), RI p1 0 7 → RI x2 (-1) 5 → RI x3 (-1) 5 → RI y0 (-2147483648) 2147483647 → AX 14 34 (HDp gdR) Ps ws p0 → WD D cy GG A s wr_X10_resits__1 wa_X10_resits__1 Ps w0 Ps ws H locs → lv_has ls 7 [(0, .ref p0), (1, .int p1), (2, .int x2), (3, .int x3)] → W p l e (headSpec (Cond.code yX10_resits cX10_resits 7 (some .boolean) :: gT) ({ frames := 7, cells := 0, slots := 0, locals := 1400 } : Room)).room s m ([.ref p0, .int p1] : List Value).toArray below meth c H locs 0 0 Q (F0 m 44 ls [.int y0]) := by
    intro x2 x3 y0 ws H locs ls r_p1 r_x2 r_x3 r_y0 x_HD_p0_gdR hw hl
    refine lv_istore (lv' := [(4, .int y0), (0, .ref p0), (1, .int p1), (2, .int x2), (3, .int x3)]) hx hb dX10_resits_44 hl (by decide) rfl (fun ls hl => ?_)
    refine lv_iconst (v := 0) hx hb dX10_resits_46 (by decide) ?_
    refine lv_istore (lv' := [(5, .int 0), (4, .int y0), (0, .ref p0), (1, .int p1), (2, .int x2), (3, .int x3)]) hx hb dX10_resits_47 hl (by decide) rfl (fun ls hl => ?_)
    exact B49 4294967298 x2 x3 y0 0 ws _ _ ls (by have q0 := rl_0.1; have u0 := rl_0.2; omega) r_p1 r_x2 r_x3 r_y0 (rl_0.to (by decide)) x_HD_p0_gdR hw (lv_sub hl [2, 3, 4, 5, 1, 0] rfl)
  have B28 : ∀ (x2 : Int32) (y0 : Int32) (ws : va_W) (H : Heap) (locs : List Loc) (ls : Array Slot), RI p1 0 7 → RI x2 (-1) 5 → RI y0 (-1) 5 → AX 14 34 (HDp gdR) Ps ws p0 → WD D cy GG A s wr_X10_resits__1 wa_X10_resits__1 Ps w0 Ps ws H locs → lv_has ls 7 [(0, .ref p0), (1, .int p1), (2, .int x2)] → W p l e (headSpec (Cond.code yX10_resits cX10_resits 7 (some .boolean) :: gT) ({ frames := 7, cells := 0, slots := 0, locals := 1400 } : Room)).room s m ([.ref p0, .int p1] : List Value).toArray below meth c H locs 0 0 Q (F0 m 28 ls [.int y0]) := by
    intro x2 y0 ws H locs ls r_p1 r_x2 r_y0 x_HD_p0_gdR hw hl
    refine lv_istore_n (lv' := [(3, .int y0), (0, .ref p0), (1, .int p1), (2, .int x2)]) hx hb dX10_resits_28 rfl hl (by decide) rfl (fun ls hl => ?_)
    refine lv_iload_n hx hb dX10_resits_29 rfl (lv_at hl 0 rfl) ?_
    refine lv_iconst (v := (-1)) hx hb dX10_resits_30 (by decide) ?_
    refine lv_icmp_ne (tgt := 38) hx hb dX10_resits_31 (by decide) (fun c_31 => ?_) (fun c_31 => ?_)
    · have r_y0 : RI y0 0 5 := rc_neL r_y0 rl_m1 (ti_ne c_31) (by decide)
      refine lv_aload_n hx hb dX10_resits_38 rfl (lv_at hl 1 rfl) ?_
      refine lv_iload_n hx hb dX10_resits_39 rfl (lv_at hl 2 rfl) ?_
      refine lv_iload_n hx hb dX10_resits_40 rfl (lv_at hl 0 rfl) ?_
      refine tk_i (va_runV (As := [.int p1, .int y0]) (rest := []) ⟨hx, hb, hml, hown, hts⟩ (c_X10_worthOf__1 l D cy z H.size Ps ws hw.1 p0 p1 y0 (gdR) h_p0 r_p1 r_y0 x_HD_p0_gdR) (cwV 2 hts (gV tw_1654 tw_1656 ts_96 tw_15 tw_1657) rfl rfl rfl (by decide +kernel) ⟨Nat.le_of_ble_eq_true rfl, Nat.le_of_ble_eq_true rfl⟩) (tg_preV hw hK hSD hA (ci := 10) (q := (RX10, TX10, 49)) rfl h_p0 rfl) rfl rfl hl.1 rfl (lv_room (Nat.le_of_ble_eq_true rfl)) dX10_resits_41 ⟨Nat.le_of_ble_eq_true rfl, Nat.le_of_ble_eq_true rfl⟩) hw hA ⟨by decide, by decide⟩ (fun v_9 ws H locs hp_v_9 hw hF9 => ?_)
      obtain ⟨x_HD_p0_gdR, hp_v_9⟩ := hp_v_9
      have r_v_9 : RI v_9 (-2147483648) 2147483647 := hp_v_9.1
      exact B44 x2 y0 v_9 ws _ _ ls r_p1 r_x2 (r_y0.to (by decide)) r_v_9 x_HD_p0_gdR hw (lv_sub hl [1, 2, 3, 0] rfl)
    · have r_y0 : RI y0 (-1) (-1) := rc_eq1 r_y0 rl_m1 (ti_eq c_31) (by decide)
      refine lv_iconst (v := (-1)) hx hb dX10_resits_34 (by decide) ?_
      refine lv_goto (tgt := 44) hx hb dX10_resits_35 (by decide) ?_
      exact B44 x2 y0 (-1) ws _ _ ls r_p1 r_x2 (r_y0.to (by decide)) (rl_m1.to (by decide)) x_HD_p0_gdR hw (lv_sub hl [1, 2, 3, 0] rfl)
  have B27 : ∀ (x2 : Int32) (ws : va_W) (H : Heap) (locs : List Loc) (ls : Array Slot), RI p1 0 7 → RI x2 (-1) 5 → AX 14 34 (HDp gdR) Ps ws p0 → WD D cy GG A s wr_X10_resits__1 wa_X10_resits__1 Ps w0 Ps ws H locs → lv_has ls 7 [(0, .ref p0), (1, .int p1), (2, .int x2)] → W p l e (headSpec (Cond.code yX10_resits cX10_resits 7 (some .boolean) :: gT) ({ frames := 7, cells := 0, slots := 0, locals := 1400 } : Room)).room s m ([.ref p0, .int p1] : List Value).toArray below meth c H locs 0 0 Q (F0 m 27 ls []) := by
    intro x2 ws H locs ls r_p1 r_x2 x_HD_p0_gdR hw hl
    refine lv_iconst (v := (-1)) hx hb dX10_resits_27 (by decide) ?_
    exact B28 x2 (-1) ws _ _ ls r_p1 r_x2 (rl_m1.to (by decide)) x_HD_p0_gdR hw hl
  refine lv_aload_n hx hb dX10_resits_0 rfl (lv_at hl 0 rfl) ?_
  refine tg_get (ci := 10) (ts := ty_MODEL) (C := RX10) (T := TX10) (N := 49) hx hb hts inX10 hown hK hw h_p0 rfl rfl 14 (by decide) (hts _ tw_1151) (fun _ h9 => h9) (ft := vR 34) rfl dX10_resits_1 (fun u_10 hv_u_10 m_u_10 => ?_)
  obtain ⟨vu_10, rfl, h_vu_10⟩ := hv_u_10
  refine lv_bipush (v := 112) hx hb dX10_resits_4 (by decide) ?_
  refine lv_iload_n hx hb dX10_resits_6 rfl (lv_at hl 1 rfl) ?_
  refine lv_iadd hx hb dX10_resits_7 (lv_topi (fun v_11 e_v_11 => ?_))
  obtain ⟨t_v_11, r_v_11⟩ := tq_add (lo := 112) (hi := 119) rl_112 r_p1 (by decide +kernel) e_v_11
  have t_v_11 : v_11.toInt = 112 + p1.toInt := t_v_11
  refine tg_iald (lo := (-1)) (hi := 5) hx hb hK hw h_vu_10 rfl 112 119 r_v_11 (by decide) (by decide +kernel) dX10_resits_8 (fun v_12 r_v_12 m_v_12 o_v_12 => ?_)
  refine lv_istore_n (lv' := [(2, .int v_12), (0, .ref p0), (1, .int p1)]) hx hb dX10_resits_9 rfl hl (by decide) rfl (fun ls hl => ?_)
  refine lv_iload_n hx hb dX10_resits_10 rfl (lv_at hl 0 rfl) ?_
  refine lv_iconst (v := (-1)) hx hb dX10_resits_11 (by decide) ?_
  refine lv_icmp_eq (tgt := 27) hx hb dX10_resits_12 (by decide) (fun c_12 => ?_) (fun c_12 => ?_)
  · have r_v_12 : RI v_12 (-1) (-1) := rc_eq1 r_v_12 rl_m1 (ti_eq c_12) (by decide)
    exact B27 v_12 w0 _ _ ls r_p1 (r_v_12.to (by decide)) x_HD_p0_gdR hw (lv_sub hl [1, 2, 0] rfl)
  · have r_v_12 : RI v_12 0 5 := rc_neL r_v_12 rl_m1 (ti_ne c_12) (by decide)
    refine lv_aload_n hx hb dX10_resits_15 rfl (lv_at hl 1 rfl) ?_
    refine lv_iload_n hx hb dX10_resits_16 rfl (lv_at hl 0 rfl) ?_
    refine tk_ir (va_runV (As := [.int v_12]) (rest := []) ⟨hx, hb, hml, hown, hts⟩ (c_X10_isOpen l D cy z s.heap.size Ps w0 hw.1 p0 v_12 h_p0 (r_v_12.to (by decide))) (cwV 1 hts (gV tw_1457 tw_1459 ts_71 tw_15 tw_1460) rfl rfl rfl (by decide +kernel) ⟨Nat.le_of_ble_eq_true rfl, Nat.le_of_ble_eq_true rfl⟩) (tg_preV hw hK hSD hA (ci := 10) (q := (RX10, TX10, 49)) rfl h_p0 rfl) rfl rfl hl.1 rfl (lv_room (Nat.le_of_ble_eq_true rfl)) dX10_resits_17 ⟨Nat.le_of_ble_eq_true rfl, Nat.le_of_ble_eq_true rfl⟩) hw hA (fun v_13  H locs hp_v_13 hw => ?_)
    have r_v_13 : RI v_13 0 1 := hp_v_13.1
    refine lv_if_ne (tgt := 27) hx hb dX10_resits_20 (by decide) (fun c_20 => ?_) (fun c_20 => ?_)
    · have r_v_13 : RI v_13 1 1 := rc_neL r_v_13 rl_0 (ti_ne c_20) (by decide)
      exact B27 v_12 w0 _ _ ls r_p1 (r_v_12.to (by decide)) x_HD_p0_gdR hw (lv_sub hl [1, 2, 0] rfl)
    · have r_v_13 : RI v_13 0 0 := rc_eq1 r_v_13 rl_0 (ti_eq c_20) (by decide)
      refine lv_iload_n hx hb dX10_resits_23 rfl (lv_at hl 0 rfl) ?_
      refine lv_goto (tgt := 28) hx hb dX10_resits_24 (by decide) ?_
      exact B28 v_12 v_12 w0 _ _ ls r_p1 (r_v_12.to (by decide)) (r_v_12.to (by decide)) x_HD_p0_gdR hw (lv_sub hl [1, 2, 0] rfl)
abbrev wr_X10_rest__1 : List (Nat × Nat) := [(10, 0), (10, 36)]
abbrev wa_X10_rest__1 : List Nat := [34, 38, 39, 46, 50]
set_option maxHeartbeats 4000000 in
set_option maxRecDepth 100000 in
theorem c_X10_rest__1 (l : Launch) (D : va_G) (cy : Nat → ClassId) (z : Nat → Nat) (sz : Nat) (Ps : PSI) (w0 : va_W) (hT : HT cy GG Ps w0) (p0 : Nat) (gdR : Nat → Int32) (h_p0 : (p0, 55) ∈ Ps) (x_HD_p0_gdR : AX 14 34 (HDp gdR) Ps w0 p0) : Met l yX10_rest (Cond.code yX10_rest cX10_rest 4 (some .int) :: gT) ({ frames := 8, cells := 0, slots := 0, locals := 1600 } : Room) (va_Pc [.ref p0] (PRE D cy z w0 sz)) (va_Qi (fun (r : Int32) (u : va_W) => ((AX 14 34 (HDp gdR) Ps u p0) ∧ (RI r 0 10 ∧ (r = 0 → True) ∧ (¬ r = 0 → True))) ∧ HT cy GG Ps u ∧ FR wr_X10_rest__1 wa_X10_rest__1 Ps w0 u) (BB D cy (va_A w0 sz) (fun (u : va_W) => u)) (va_A w0 sz)) 0 0 (va_A w0 sz) := by
  refine Met.ofW (cc := cX10_rest) (maxL := 4) (ret := (some .int)) (by decide) rfl ?_
  intro p e s m args below meth c s₁ B hml hv
  obtain ⟨rfl, hsz, hP, hK, hD0, hSD⟩ := hv
  have hx := B.exec
  have hb := B.bytes
  have hr := B.returns
  have hlocks := B.notSynchronized
  have hts : ∀ w ∈ gT, w.before _ s = true := fun w h => atoms_spec (ws := Cond.code yX10_rest cX10_rest 4 (some .int) :: gT) B.pre w (List.mem_cons_of_mem _ h)
  have hown : s.vm.findClass RX10 = some m.cls := findClass_of_methodNamed B.named
  subst hsz
  have hD := hD0.self (sz := s.heap.size)
  generalize hAe : va_A w0 s.heap.size = A at hD hSD ⊢
  have hA : ∀ q : Nat, s.heap.size ≤ q → A q := fun q h => by rw [← hAe]; exact Or.inr h
  have hl := lv_entry ([.ref p0]) (n := 4) (Nat.le_of_ble_eq_true rfl)
  rw [lg_entry_eq]
  generalize (lg_sl ([.ref p0]) ++ List.replicate (4 - (lg_sl ([.ref p0])).length) Slot.unset).toArray = ls at hl ⊢
  have hl : lv_has ls 4 [(0, .ref p0)] := hl
  refine nameQ (fun Q hQ => ?_)
  have hw : WD D cy GG A s wr_X10_rest__1 wa_X10_rest__1 Ps w0 Ps w0 s.heap [] := ⟨hT, hP, hD, va_S.rf, FR.rf, hT.1, [], (List.append_nil _).symm⟩
  have B61 : ∀ (nf : Nat) (x1 : Int32) (x2 : Int32) (x3 : Int32) (z0_0 : Int32) (ws : va_W) (H : Heap) (locs : List Loc) (ls : Array Slot), 8 - x3.toInt < (nf : Int) → RI x1 0 10 → RI x2 0 1 → RI x3 0 8 → RI z0_0 0 0 → FLD ws p0 10 0 (.int z0_0) → AX 14 34 (HDp gdR) Ps ws p0 → WD D cy GG A s wr_X10_rest__1 wa_X10_rest__1 Ps w0 Ps ws H locs → lv_has ls 4 [(0, .ref p0), (1, .int x1), (2, .int x2), (3, .int x3)] → W p l e (headSpec (Cond.code yX10_rest cX10_rest 4 (some .int) :: gT) ({ frames := 8, cells := 0, slots := 0, locals := 1600 } : Room)).room s m ([.ref p0] : List Value).toArray below meth c H locs 0 0 Q (F0 m 61 ls []) := by
    intro nf61
    induction nf61 with
    | zero =>
      intro x1 x2 x3 z0_0 ws H locs ls hn61 r_x1 r_x2 r_x3 r_z0_0 m_z0_0 x_HD_p0_gdR hw hl
      exact absurd hn61 (by have q0 := r_x3.1; have u0 := r_x3.2; omega)
    | succ nf61 ih61 =>
      intro x1 x2 x3 z0_0 ws H locs ls hn61 r_x1 r_x2 r_x3 r_z0_0 m_z0_0 x_HD_p0_gdR hw hl
      refine lv_iload_n hx hb dX10_rest_61 rfl (lv_at hl 3 rfl) ?_
      refine lv_bipush (v := 8) hx hb dX10_rest_62 (by decide) ?_
      refine lv_icmp_ge (tgt := 88) hx hb dX10_rest_64 (by decide) (fun c_64 => ?_) (fun c_64 => ?_)
      · have r_x3 : RI x3 8 8 := rc_le2 rl_8 r_x3 (ti_le c_64) (by decide)
        refine lv_aload_n hx hb dX10_rest_88 rfl (lv_at hl 0 rfl) ?_
        refine lv_aload_n hx hb dX10_rest_89 rfl (lv_at hl 0 rfl) ?_
        refine tg_get (ci := 10) (ts := ty_MODEL) (C := RX10) (T := TX10) (N := 49) hx hb hts inX10 hown hK hw h_p0 rfl rfl 14 (by decide) (hts _ tw_1151) (fun _ h9 => h9) (ft := vR 34) rfl dX10_rest_90 (fun u_1 hv_u_1 m_u_1 => ?_)
        obtain ⟨vu_1, rfl, h_vu_1⟩ := hv_u_1
        refine lv_iconst (v := 3) hx hb dX10_rest_93 (by decide) ?_
        refine tg_iald (lo := 0) (hi := 8) hx hb hK hw h_vu_1 rfl 3 3 rl_3 (by decide) (by decide +kernel) dX10_rest_94 (fun v_2 r_v_2 m_v_2 o_v_2 => ?_)
        have hw8 := hw
        refine tg_put (ci := 10) (ts := ty_MODEL) (v := .int v_2) (ty := .int) (C := RX10) (T := TX10) (N := 49) hx hb hts inX10 tyX10 tyX10_ok nmX10 hown hK hw h_p0 rfl rfl 36 (by decide) (hts _ tw_1173) (fun _ h9 => h9) rfl (by decide +kernel) rfl rfl (ft := vI 0 8) rfl ⟨_, rfl, r_v_2⟩ (by decide) dX10_rest_95 (fun ws H locs hw n_k_3 hF9 => ?_)
        have m_v_2 := AEL.over hw8 hF9 h_vu_1 m_v_2 (by decide)
        have m_z0_0 := FLD.over hF9 m_z0_0 (by decide)
        have m_u_1 := FLD.over hF9 m_u_1 (by decide)
        have x_HD_p0_gdR := AX.over hF9 x_HD_p0_gdR (by decide)
        refine lv_aload_n hx hb dX10_rest_98 rfl (lv_at hl 0 rfl) ?_
        have hw8 := hw
        refine tk_v (va_runV (As := []) (rest := []) ⟨hx, hb, hml, hown, hts⟩ (c_X10_takeBack__1 l D cy z H.size Ps ws hw.1 p0 (gdR) h_p0 x_HD_p0_gdR) (cwV 0 hts (gV tw_1587 tw_1589 ts_89 tw_15 tw_1590) rfl rfl rfl (by decide +kernel) ⟨Nat.le_of_ble_eq_true rfl, Nat.le_of_ble_eq_true rfl⟩) (tg_preV hw hK hSD hA (ci := 10) (q := (RX10, TX10, 49)) rfl h_p0 rfl) rfl rfl hl.1 rfl (lv_room (Nat.le_of_ble_eq_true rfl)) dX10_rest_99 ⟨Nat.le_of_ble_eq_true rfl, Nat.le_of_ble_eq_true rfl⟩) hw hA ⟨by decide, by decide⟩ (fun ws H locs hp_v_4 hw hF9 => ?_)
        have m_z0_0 := FLD.over hF9 m_z0_0 (by decide)
        have m_u_1 := FLD.over hF9 m_u_1 (by decide)
        have n_k_3 := FLD.over hF9 n_k_3 (by decide)
        obtain ⟨x_HD_p0_gdR, hp_v_4⟩ := hp_v_4
        refine lv_iload_n hx hb dX10_rest_102 rfl (lv_at hl 1 rfl) ?_
        subst hQ
        exact W.iret (v := x1) hx hb hr (fun t ht hW => ⟨⟨x1, ws, rfl, ⟨⟨x_HD_p0_gdR, r_x1.to (by decide), (fun h0 => trivial), (fun h0 => trivial)⟩, hw.1, hw.2.2.2.2.1⟩, by rw [ht]; exact hw.2.1, va_K.moved hW.alike hK, hw.2.2.1⟩, hw.2.2.2.1.F ht⟩) hw.2.2.2.1.2.2 dX10_rest_103
      · have r_x3 : RI x3 0 7 := rc_lt1 r_x3 rl_8 (ti_nle c_64) (by decide)
        refine lv_aload_n hx hb dX10_rest_67 rfl (lv_at hl 0 rfl) ?_
        refine tg_get (ci := 10) (ts := ty_MODEL) (C := RX10) (T := TX10) (N := 49) hx hb hts inX10 hown hK hw h_p0 rfl rfl 35 (by decide) (hts _ tw_1172) (fun _ h9 => h9) (ft := vR 50) rfl dX10_rest_68 (fun u_5 hv_u_5 m_u_5 => ?_)
        obtain ⟨vu_5, rfl, h_vu_5⟩ := hv_u_5
        refine lv_iload_n hx hb dX10_rest_71 rfl (lv_at hl 3 rfl) ?_
        refine lv_aload_n hx hb dX10_rest_72 rfl (lv_at hl 0 rfl) ?_
        refine tg_get (ci := 10) (ts := ty_MODEL) (C := RX10) (T := TX10) (N := 49) hx hb hts inX10 hown hK hw h_p0 rfl rfl 14 (by decide) (hts _ tw_1151) (fun _ h9 => h9) (ft := vR 34) rfl dX10_rest_73 (fun u_6 hv_u_6 m_u_6 => ?_)
        obtain ⟨vu_6, rfl, h_vu_6⟩ := hv_u_6
        refine lv_bipush (v := 112) hx hb dX10_rest_76 (by decide) ?_
        refine lv_iload_n hx hb dX10_rest_78 rfl (lv_at hl 3 rfl) ?_
        refine lv_iadd hx hb dX10_rest_79 (lv_topi (fun v_7 e_v_7 => ?_))
        obtain ⟨t_v_7, r_v_7⟩ := tq_add (lo := 112) (hi := 119) rl_112 r_x3 (by decide +kernel) e_v_7
        have t_v_7 : v_7.toInt = 112 + x3.toInt := t_v_7
        refine tg_iald (lo := (-1)) (hi := 5) hx hb hK hw h_vu_6 rfl 112 119 r_v_7 (by decide) (by decide +kernel) dX10_rest_80 (fun v_8 r_v_8 m_v_8 o_v_8 => ?_)
        have hw8 := hw
        refine tg_iast hx hb hK hw h_vu_5 rfl 0 7 r_x3 (by decide) r_v_8 (by exact fun _ _ _ => by decide) (fun _ _ _ _ _ => trivial) (by decide) dX10_rest_81 (fun ws H locs hw hF9 hU9 => ?_)
        have m_v_8 := AEL.over hw8 hF9 h_vu_6 m_v_8 (by decide)
        have x_HD_p0_gdR := AX.over hF9 x_HD_p0_gdR (by decide)
        have m_z0_0 := FLD.over hF9 m_z0_0 (by decide)
        have m_u_5 := FLD.over hF9 m_u_5 (by decide)
        have m_u_6 := FLD.over hF9 m_u_6 (by decide)
        obtain ⟨v_9, e_v_9⟩ : ∃ q9 : Int32, q9 = x3 + Int32.ofInt 1 := ⟨_, rfl⟩
        obtain ⟨t_v_9, r_v_9⟩ := tq_add (lo := 1) (hi := 8) r_x3 (show RI (Int32.ofInt 1) 1 1 by unfold RI; decide +kernel) (by decide +kernel) e_v_9
        have t_v_9 : v_9.toInt = x3.toInt + 1 := t_v_9
        refine lv_iinc (v := v_9) (lv' := [(3, .int v_9), (0, .ref p0), (1, .int x1), (2, .int x2)]) hx hb dX10_rest_82 hl (k := 3) rfl e_v_9.symm (by decide) rfl (fun ls hl => ?_)
        refine lv_goto (tgt := 61) hx hb dX10_rest_85 (by decide) ?_
        exact ih61 x1 x2 v_9 z0_0 ws _ _ ls (by have q0 := r_v_9.1; have u0 := r_v_9.2; have o0 := r_x3.1; have p0 := r_x3.2; omega) r_x1 r_x2 (r_v_9.to (by decide)) r_z0_0 m_z0_0 x_HD_p0_gdR hw (lv_sub hl [1, 2, 3, 0] rfl)
  have B59 : ∀ (x1 : Int32) (x2 : Int32) (z0_0 : Int32) (ws : va_W) (H : Heap) (locs : List Loc) (ls : Array Slot), RI x1 0 10 → RI x2 0 1 → RI z0_0 0 0 → FLD ws p0 10 0 (.int z0_0) → AX 14 34 (HDp gdR) Ps ws p0 → WD D cy GG A s wr_X10_rest__1 wa_X10_rest__1 Ps w0 Ps ws H locs → lv_has ls 4 [(0, .ref p0), (1, .int x1), (2, .int x2)] → W p l e (headSpec (Cond.code yX10_rest cX10_rest 4 (some .int) :: gT) ({ frames := 8, cells := 0, slots := 0, locals := 1600 } : Room)).room s m ([.ref p0] : List Value).toArray below meth c H locs 0 0 Q (F0 m 59 ls []) := by
    intro x1 x2 z0_0 ws H locs ls r_x1 r_x2 r_z0_0 m_z0_0 x_HD_p0_gdR hw hl
    refine lv_iconst (v := 0) hx hb dX10_rest_59 (by decide) ?_
    refine lv_istore_n (lv' := [(3, .int 0), (0, .ref p0), (1, .int x1), (2, .int x2)]) hx hb dX10_rest_60 rfl hl (by decide) rfl (fun ls hl => ?_)
    exact B61 4294967298 x1 x2 0 z0_0 ws _ _ ls (by have q0 := rl_0.1; have u0 := rl_0.2; omega) r_x1 r_x2 (rl_0.to (by decide)) r_z0_0 m_z0_0 x_HD_p0_gdR hw (lv_sub hl [1, 2, 3, 0] rfl)
  have B13 : ∀ (nf : Nat) (x1 : Int32) (x2 : Int32) (z0_0 : Int32) (ws : va_W) (H : Heap) (locs : List Loc) (ls : Array Slot), 10 - x1.toInt < (nf : Int) → RI x1 0 10 → RI x2 0 1 → RI z0_0 0 0 → FLD ws p0 10 0 (.int z0_0) → AX 14 34 (HDp gdR) Ps ws p0 → WD D cy GG A s wr_X10_rest__1 wa_X10_rest__1 Ps w0 Ps ws H locs → lv_has ls 4 [(0, .ref p0), (1, .int x1), (2, .int x2)] → W p l e (headSpec (Cond.code yX10_rest cX10_rest 4 (some .int) :: gT) ({ frames := 8, cells := 0, slots := 0, locals := 1600 } : Room)).room s m ([.ref p0] : List Value).toArray below meth c H locs 0 0 Q (F0 m 13 ls []) := by
    intro nf13
    induction nf13 with
    | zero =>
      intro x1 x2 z0_0 ws H locs ls hn13 r_x1 r_x2 r_z0_0 m_z0_0 x_HD_p0_gdR hw hl
      exact absurd hn13 (by have q0 := r_x1.1; have u0 := r_x1.2; omega)
    | succ nf13 ih13 =>
      have B27 : ∀ (nf : Nat) (x1 : Int32) (x2 : Int32) (x3 : Int32) (z0_0 : Int32) (ws : va_W) (H : Heap) (locs : List Loc) (ls : Array Slot), 8 - x3.toInt < (nf : Int) → RI x1 0 9 → RI x2 0 1 → RI x3 0 8 → RI z0_0 0 0 → FLD ws p0 10 0 (.int z0_0) → AX 14 34 (HDp gdR) Ps ws p0 → 10 - x1.toInt < ((nf13 + 1 : Nat) : Int) → WD D cy GG A s wr_X10_rest__1 wa_X10_rest__1 Ps w0 Ps ws H locs → lv_has ls 4 [(0, .ref p0), (1, .int x1), (2, .int x2), (3, .int x3)] → W p l e (headSpec (Cond.code yX10_rest cX10_rest 4 (some .int) :: gT) ({ frames := 8, cells := 0, slots := 0, locals := 1600 } : Room)).room s m ([.ref p0] : List Value).toArray below meth c H locs 0 0 Q (F0 m 27 ls []) := by
        intro nf27
        induction nf27 with
        | zero =>
          intro x1 x2 x3 z0_0 ws H locs ls hn27 r_x1 r_x2 r_x3 r_z0_0 m_z0_0 x_HD_p0_gdR hn13 hw hl
          exact absurd hn27 (by have q0 := r_x3.1; have u0 := r_x3.2; omega)
        | succ nf27 ih27 =>
          intro x1 x2 x3 z0_0 ws H locs ls hn27 r_x1 r_x2 r_x3 r_z0_0 m_z0_0 x_HD_p0_gdR hn13 hw hl
          refine lv_iload_n hx hb dX10_rest_27 rfl (lv_at hl 3 rfl) ?_
          refine lv_aload_n hx hb dX10_rest_28 rfl (lv_at hl 0 rfl) ?_
          refine tg_get (ci := 10) (ts := ty_MODEL) (C := RX10) (T := TX10) (N := 49) hx hb hts inX10 hown hK hw h_p0 rfl rfl 14 (by decide) (hts _ tw_1151) (fun _ h9 => h9) (ft := vR 34) rfl dX10_rest_29 (fun u_10 hv_u_10 m_u_10 => ?_)
          obtain ⟨vu_10, rfl, h_vu_10⟩ := hv_u_10
          refine lv_iconst (v := 3) hx hb dX10_rest_32 (by decide) ?_
          refine tg_iald (lo := 0) (hi := 8) hx hb hK hw h_vu_10 rfl 3 3 rl_3 (by decide) (by decide +kernel) dX10_rest_33 (fun v_11 r_v_11 m_v_11 o_v_11 => ?_)
          refine lv_icmp_ge (tgt := 53) hx hb dX10_rest_34 (by decide) (fun c_34 => ?_) (fun c_34 => ?_)
          · obtain ⟨v_12, e_v_12⟩ : ∃ q9 : Int32, q9 = x1 + Int32.ofInt 1 := ⟨_, rfl⟩
            obtain ⟨t_v_12, r_v_12⟩ := tq_add (lo := 1) (hi := 10) r_x1 (show RI (Int32.ofInt 1) 1 1 by unfold RI; decide +kernel) (by decide +kernel) e_v_12
            have t_v_12 : v_12.toInt = x1.toInt + 1 := t_v_12
            refine lv_iinc (v := v_12) (lv' := [(1, .int v_12), (0, .ref p0), (2, .int x2), (3, .int x3)]) hx hb dX10_rest_53 hl (k := 1) rfl e_v_12.symm (by decide) rfl (fun ls hl => ?_)
            refine lv_goto (tgt := 13) hx hb dX10_rest_56 (by decide) ?_
            exact ih13 v_12 x2 z0_0 ws _ _ ls (by have q0 := r_v_12.1; have u0 := r_v_12.2; have o0 := r_x1.1; have p0 := r_x1.2; omega) (r_v_12.to (by decide)) r_x2 r_z0_0 m_z0_0 x_HD_p0_gdR hw (lv_sub hl [1, 0, 2] rfl)
          · have r_x3 : RI x3 0 7 := rc_lt1 r_x3 r_v_11 (ti_nle c_34) (by decide)
            have r_v_11 : RI v_11 1 8 := rc_lt2 r_x3 r_v_11 (ti_nle c_34) (by decide)
            refine lv_aload_n hx hb dX10_rest_37 rfl (lv_at hl 0 rfl) ?_
            refine lv_iload_n hx hb dX10_rest_38 rfl (lv_at hl 3 rfl) ?_
            have hw8 := hw
            refine tk_i (va_runV (As := [.int x3]) (rest := []) ⟨hx, hb, hml, hown, hts⟩ (c_X10_resits__1 l D cy z H.size Ps ws hw.1 p0 x3 (gdR) h_p0 r_x3 x_HD_p0_gdR) (cwV 1 hts (gV tw_1650 tw_1652 ts_95 tw_15 tw_1653) rfl rfl rfl (by decide +kernel) ⟨Nat.le_of_ble_eq_true rfl, Nat.le_of_ble_eq_true rfl⟩) (tg_preV hw hK hSD hA (ci := 10) (q := (RX10, TX10, 49)) rfl h_p0 rfl) rfl rfl hl.1 rfl (lv_room (Nat.le_of_ble_eq_true rfl)) dX10_rest_39 ⟨Nat.le_of_ble_eq_true rfl, Nat.le_of_ble_eq_true rfl⟩) hw hA ⟨by decide, by decide⟩ (fun v_13 ws H locs hp_v_13 hw hF9 => ?_)
            have m_z0_0 := FLD.over hF9 m_z0_0 (by decide)
            have m_u_10 := FLD.over hF9 m_u_10 (by decide)
            obtain ⟨x_HD_p0_gdR, hp_v_13⟩ := hp_v_13
            have r_v_13 : RI v_13 0 1 := hp_v_13.1
            refine lv_if_eq (tgt := 47) hx hb dX10_rest_42 (by decide) (fun c_42 => ?_) (fun c_42 => ?_)
            · have r_v_13 : RI v_13 0 0 := rc_eq1 r_v_13 rl_0 (ti_eq c_42) (by decide)
              obtain ⟨v_14, e_v_14⟩ : ∃ q9 : Int32, q9 = x3 + Int32.ofInt 1 := ⟨_, rfl⟩
              obtain ⟨t_v_14, r_v_14⟩ := tq_add (lo := 1) (hi := 8) r_x3 (show RI (Int32.ofInt 1) 1 1 by unfold RI; decide +kernel) (by decide +kernel) e_v_14
              have t_v_14 : v_14.toInt = x3.toInt + 1 := t_v_14
              refine lv_iinc (v := v_14) (lv' := [(3, .int v_14), (0, .ref p0), (1, .int x1), (2, .int x2)]) hx hb dX10_rest_47 hl (k := 3) rfl e_v_14.symm (by decide) rfl (fun ls hl => ?_)
              refine lv_goto (tgt := 27) hx hb dX10_rest_50 (by decide) ?_
              exact ih27 x1 x2 v_14 z0_0 ws _ _ ls (by have q0 := r_v_14.1; have u0 := r_v_14.2; have o0 := r_x3.1; have p0 := r_x3.2; omega) r_x1 r_x2 (r_v_14.to (by decide)) r_z0_0 m_z0_0 x_HD_p0_gdR (by have q0 := r_x1.1; have u0 := r_x1.2; omega) hw (lv_sub hl [1, 2, 3, 0] rfl)
            · have r_v_13 : RI v_13 1 1 := rc_neL r_v_13 rl_0 (ti_ne c_42) (by decide)
              refine lv_iconst (v := 1) hx hb dX10_rest_45 (by decide) ?_
              refine lv_istore_n (lv' := [(2, .int 1), (0, .ref p0), (1, .int x1), (3, .int x3)]) hx hb dX10_rest_46 rfl hl (by decide) rfl (fun ls hl => ?_)
              obtain ⟨v_15, e_v_15⟩ : ∃ q9 : Int32, q9 = x3 + Int32.ofInt 1 := ⟨_, rfl⟩
              obtain ⟨t_v_15, r_v_15⟩ := tq_add (lo := 1) (hi := 8) r_x3 (show RI (Int32.ofInt 1) 1 1 by unfold RI; decide +kernel) (by decide +kernel) e_v_15
              have t_v_15 : v_15.toInt = x3.toInt + 1 := t_v_15
              refine lv_iinc (v := v_15) (lv' := [(3, .int v_15), (2, .int 1), (0, .ref p0), (1, .int x1)]) hx hb dX10_rest_47 hl (k := 3) rfl e_v_15.symm (by decide) rfl (fun ls hl => ?_)
              refine lv_goto (tgt := 27) hx hb dX10_rest_50 (by decide) ?_
              exact ih27 x1 1 v_15 z0_0 ws _ _ ls (by have q0 := r_v_15.1; have u0 := r_v_15.2; have o0 := r_x3.1; have p0 := r_x3.2; omega) r_x1 (rl_1.to (by decide)) (r_v_15.to (by decide)) r_z0_0 m_z0_0 x_HD_p0_gdR (by have q0 := r_x1.1; have u0 := r_x1.2; omega) hw (lv_sub hl [2, 3, 1, 0] rfl)
      intro x1 x2 z0_0 ws H locs ls hn13 r_x1 r_x2 r_z0_0 m_z0_0 x_HD_p0_gdR hw hl
      refine lv_iload_n hx hb dX10_rest_13 rfl (lv_at hl 2 rfl) ?_
      refine lv_if_eq (tgt := 59) hx hb dX10_rest_14 (by decide) (fun c_14 => ?_) (fun c_14 => ?_)
      · have r_x2 : RI x2 0 0 := rc_eq1 r_x2 rl_0 (ti_eq c_14) (by decide)
        exact B59 x1 x2 z0_0 ws _ _ ls r_x1 (r_x2.to (by decide)) r_z0_0 m_z0_0 x_HD_p0_gdR hw hl
      · have r_x2 : RI x2 1 1 := rc_neL r_x2 rl_0 (ti_ne c_14) (by decide)
        refine lv_iload_n hx hb dX10_rest_17 rfl (lv_at hl 1 rfl) ?_
        refine lv_bipush (v := 10) hx hb dX10_rest_18 (by decide) ?_
        refine lv_icmp_ge (tgt := 59) hx hb dX10_rest_20 (by decide) (fun c_20 => ?_) (fun c_20 => ?_)
        · have r_x1 : RI x1 10 10 := rc_le2 rl_10 r_x1 (ti_le c_20) (by decide)
          exact B59 x1 x2 z0_0 ws _ _ ls (r_x1.to (by decide)) (r_x2.to (by decide)) r_z0_0 m_z0_0 x_HD_p0_gdR hw hl
        · have r_x1 : RI x1 0 9 := rc_lt1 r_x1 rl_10 (ti_nle c_20) (by decide)
          refine lv_iconst (v := 0) hx hb dX10_rest_23 (by decide) ?_
          refine lv_istore_n (lv' := [(2, .int 0), (0, .ref p0), (1, .int x1)]) hx hb dX10_rest_24 rfl hl (by decide) rfl (fun ls hl => ?_)
          refine lv_iconst (v := 0) hx hb dX10_rest_25 (by decide) ?_
          refine lv_istore_n (lv' := [(3, .int 0), (2, .int 0), (0, .ref p0), (1, .int x1)]) hx hb dX10_rest_26 rfl hl (by decide) rfl (fun ls hl => ?_)
          exact B27 4294967298 x1 0 0 z0_0 ws _ _ ls (by have q0 := rl_0.1; have u0 := rl_0.2; omega) r_x1 (rl_0.to (by decide)) (rl_0.to (by decide)) r_z0_0 m_z0_0 x_HD_p0_gdR (by have q0 := r_x1.1; have u0 := r_x1.2; omega) hw (lv_sub hl [2, 3, 1, 0] rfl)
  refine lv_aload_n hx hb dX10_rest_0 rfl (lv_at hl 0 rfl) ?_
  refine lv_iconst (v := 0) hx hb dX10_rest_1 (by decide) ?_
  refine tg_put (ci := 10) (ts := ty_MODEL) (v := .int 0) (ty := .int) (C := RX10) (T := TX10) (N := 49) hx hb hts inX10 tyX10 tyX10_ok nmX10 hown hK hw h_p0 rfl rfl 0 (by decide) (hts _ tw_1137) (fun _ h9 => h9) rfl (by decide +kernel) rfl rfl (ft := vI (-2147483648) 2147483647) rfl ⟨_, rfl, (rl_0.to (by decide))⟩ (by decide) dX10_rest_2 (fun ws H locs hw n_k_16 hF9 => ?_)
  have x_HD_p0_gdR := AX.over hF9 x_HD_p0_gdR (by decide)
  refine lv_aload_n hx hb dX10_rest_5 rfl (lv_at hl 0 rfl) ?_
  refine tk_v (va_runV (As := []) (rest := []) ⟨hx, hb, hml, hown, hts⟩ (c_X10_layAside l D cy z H.size Ps ws hw.1 p0 h_p0) (cwV 0 hts (gV tw_1583 tw_1585 ts_88 tw_15 tw_1586) rfl rfl rfl (by decide +kernel) ⟨Nat.le_of_ble_eq_true rfl, Nat.le_of_ble_eq_true rfl⟩) (tg_preV hw hK hSD hA (ci := 10) (q := (RX10, TX10, 49)) rfl h_p0 rfl) rfl rfl hl.1 rfl (lv_room (Nat.le_of_ble_eq_true rfl)) dX10_rest_6 ⟨Nat.le_of_ble_eq_true rfl, Nat.le_of_ble_eq_true rfl⟩) hw hA ⟨by decide, by decide⟩ (fun ws H locs hp_v_17 hw hF9 => ?_)
  have n_k_16 := FLD.over hF9 n_k_16 (by decide)
  have x_HD_p0_gdR := AX.over hF9 x_HD_p0_gdR (by decide)
  refine lv_iconst (v := 0) hx hb dX10_rest_9 (by decide) ?_
  refine lv_istore_n (lv' := [(1, .int 0), (0, .ref p0)]) hx hb dX10_rest_10 rfl hl (by decide) rfl (fun ls hl => ?_)
  refine lv_iconst (v := 1) hx hb dX10_rest_11 (by decide) ?_
  refine lv_istore_n (lv' := [(2, .int 1), (1, .int 0), (0, .ref p0)]) hx hb dX10_rest_12 rfl hl (by decide) rfl (fun ls hl => ?_)
  exact B13 4294967298 0 1 0 ws _ _ ls (by have q0 := rl_0.1; have u0 := rl_0.2; omega) (rl_0.to (by decide)) (rl_1.to (by decide)) rl_0 n_k_16 x_HD_p0_gdR hw (lv_sub hl [2, 1, 0] rfl)
abbrev wr_X10_satSo__1 : List (Nat × Nat) := []
abbrev wa_X10_satSo__1 : List Nat := [34, 39]
set_option maxHeartbeats 4000000 in
set_option maxRecDepth 100000 in
theorem c_X10_satSo__1 (l : Launch) (D : va_G) (cy : Nat → ClassId) (z : Nat → Nat) (sz : Nat) (Ps : PSI) (w0 : va_W) (hT : HT cy GG Ps w0) (p0 : Nat) (p1 : Int32) (p2 : Int32) (p3 : Int32) (p4 : Int32) (p5 : Int32) (gdR : Nat → Int32) (h_p0 : (p0, 55) ∈ Ps) (r_p1 : RI p1 (-2147483648) 2147483647) (r_p2 : RI p2 0 5) (r_p3 : RI p3 (-2147483648) 2147483647) (r_p4 : RI p4 (-2147483648) 2147483647) (r_p5 : RI p5 (-2147483648) 2147483647) (x_HD_p0_gdR : AX 14 34 (HDp gdR) Ps w0 p0) : Met l yX10_satSo (Cond.code yX10_satSo cX10_satSo 8 (some .boolean) :: gT) ({ frames := 3, cells := 0, slots := 0, locals := 600 } : Room) (va_Pc [.ref p0, .int p1, .int p2, .int p3, .int p4, .int p5] (PRE D cy z w0 sz)) (va_Qi (fun (r : Int32) (u : va_W) => ((AX 14 34 (HDp gdR) Ps u p0) ∧ (RI r 0 1 ∧ (r = 0 → True) ∧ (¬ r = 0 → True))) ∧ HT cy GG Ps u ∧ FR wr_X10_satSo__1 wa_X10_satSo__1 Ps w0 u) (BB D cy (va_A w0 sz) (fun (u : va_W) => u)) (va_A w0 sz)) 0 0 (va_A w0 sz) := by
  refine Met.ofW (cc := cX10_satSo) (maxL := 8) (ret := (some .boolean)) (by decide) rfl ?_
  intro p e s m args below meth c s₁ B hml hv
  obtain ⟨rfl, hsz, hP, hK, hD0, hSD⟩ := hv
  have hx := B.exec
  have hb := B.bytes
  have hr := B.returns
  have hlocks := B.notSynchronized
  have hts : ∀ w ∈ gT, w.before _ s = true := fun w h => atoms_spec (ws := Cond.code yX10_satSo cX10_satSo 8 (some .boolean) :: gT) B.pre w (List.mem_cons_of_mem _ h)
  have hown : s.vm.findClass RX10 = some m.cls := findClass_of_methodNamed B.named
  subst hsz
  have hD := hD0.self (sz := s.heap.size)
  generalize hAe : va_A w0 s.heap.size = A at hD hSD ⊢
  have hA : ∀ q : Nat, s.heap.size ≤ q → A q := fun q h => by rw [← hAe]; exact Or.inr h
  have hl := lv_entry ([.ref p0, .int p1, .int p2, .int p3, .int p4, .int p5]) (n := 8) (Nat.le_of_ble_eq_true rfl)
  rw [lg_entry_eq]
  generalize (lg_sl ([.ref p0, .int p1, .int p2, .int p3, .int p4, .int p5]) ++ List.replicate (8 - (lg_sl ([.ref p0, .int p1, .int p2, .int p3, .int p4, .int p5])).length) Slot.unset).toArray = ls at hl ⊢
  have hl : lv_has ls 8 [(0, .ref p0), (1, .int p1), (2, .int p2), (3, .int p3), (4, .int p4), (5, .int p5)] := hl
  refine nameQ (fun Q hQ => ?_)
  have hw : WD D cy GG A s wr_X10_satSo__1 wa_X10_satSo__1 Ps w0 Ps w0 s.heap [] := ⟨hT, hP, hD, va_S.rf, FR.rf, hT.1, [], (List.append_nil _).symm⟩
  have B125 : ∀ (x6 : Int32) (y0 : Int32) (ws : va_W) (H : Heap) (locs : List Loc) (ls : Array Slot), RI p1 (-2147483648) 2147483647 → RI p2 0 5 → RI p3 (-2147483648) 2147483647 → RI p4 (-2147483648) 2147483647 → RI p5 (-2147483648) 2147483647 → RI x6 (-2147483648) 2147483647 → RI y0 0 1 → AX 14 34 (HDp gdR) Ps ws p0 → WD D cy GG A s wr_X10_satSo__1 wa_X10_satSo__1 Ps w0 Ps ws H locs → lv_has ls 8 [(0, .ref p0), (1, .int p1), (2, .int p2), (3, .int p3), (4, .int p4), (5, .int p5), (6, .int x6)] → W p l e (headSpec (Cond.code yX10_satSo cX10_satSo 8 (some .boolean) :: gT) ({ frames := 3, cells := 0, slots := 0, locals := 600 } : Room)).room s m ([.ref p0, .int p1, .int p2, .int p3, .int p4, .int p5] : List Value).toArray below meth c H locs 0 0 Q (F0 m 125 ls [.int y0]) := by
    intro x6 y0 ws H locs ls r_p1 r_p2 r_p3 r_p4 r_p5 r_x6 r_y0 x_HD_p0_gdR hw hl
    refine lv_istore (lv' := [(7, .int y0), (0, .ref p0), (1, .int p1), (2, .int p2), (3, .int p3), (4, .int p4), (5, .int p5), (6, .int x6)]) hx hb dX10_satSo_125 hl (by decide) rfl (fun ls hl => ?_)
    refine lv_aload_n hx hb dX10_satSo_127 rfl (lv_at hl 1 rfl) ?_
    refine tk_v (va_runV (As := []) (rest := []) ⟨hx, hb, hml, hown, hts⟩ (c_X10_back__1 l D cy z H.size Ps ws hw.1 p0 (gdR) h_p0 x_HD_p0_gdR) (cwV 0 hts (gV tw_1611 tw_1613 ts_92 tw_15 tw_1614) rfl rfl rfl (by decide +kernel) ⟨Nat.le_of_ble_eq_true rfl, Nat.le_of_ble_eq_true rfl⟩) (tg_preV hw hK hSD hA (ci := 10) (q := (RX10, TX10, 49)) rfl h_p0 rfl) rfl rfl hl.1 rfl (lv_room (Nat.le_of_ble_eq_true rfl)) dX10_satSo_128 ⟨Nat.le_of_ble_eq_true rfl, Nat.le_of_ble_eq_true rfl⟩) hw hA ⟨by decide, by decide⟩ (fun ws H locs hp_v_1 hw hF9 => ?_)
    obtain ⟨x_HD_p0_gdR, hp_v_1⟩ := hp_v_1
    refine lv_iload hx hb dX10_satSo_131 (lv_at hl 0 rfl) ?_
    subst hQ
    exact W.zret (v := y0) hx hb hr (tq_nz (r_y0.to (by decide))) (fun t ht hW => ⟨⟨y0, ws, rfl, ⟨⟨x_HD_p0_gdR, r_y0.to (by decide), (fun h0 => trivial), (fun h0 => trivial)⟩, hw.1, hw.2.2.2.2.1⟩, by rw [ht]; exact hw.2.1, va_K.moved hW.alike hK, hw.2.2.1⟩, hw.2.2.2.1.F ht⟩) hw.2.2.2.1.2.2 dX10_satSo_133
  have B124 : ∀ (x6 : Int32) (ws : va_W) (H : Heap) (locs : List Loc) (ls : Array Slot), RI p1 (-2147483648) 2147483647 → RI p2 0 5 → RI p3 (-2147483648) 2147483647 → RI p4 (-2147483648) 2147483647 → RI p5 (-2147483648) 2147483647 → RI x6 (-2147483648) 2147483647 → AX 14 34 (HDp gdR) Ps ws p0 → WD D cy GG A s wr_X10_satSo__1 wa_X10_satSo__1 Ps w0 Ps ws H locs → lv_has ls 8 [(0, .ref p0), (1, .int p1), (2, .int p2), (3, .int p3), (4, .int p4), (5, .int p5), (6, .int x6)] → W p l e (headSpec (Cond.code yX10_satSo cX10_satSo 8 (some .boolean) :: gT) ({ frames := 3, cells := 0, slots := 0, locals := 600 } : Room)).room s m ([.ref p0, .int p1, .int p2, .int p3, .int p4, .int p5] : List Value).toArray below meth c H locs 0 0 Q (F0 m 124 ls []) := by
    intro x6 ws H locs ls r_p1 r_p2 r_p3 r_p4 r_p5 r_x6 x_HD_p0_gdR hw hl
    refine lv_iconst (v := 0) hx hb dX10_satSo_124 (by decide) ?_
    exact B125 x6 0 ws _ _ ls r_p1 r_p2 r_p3 r_p4 r_p5 r_x6 (rl_0.to (by decide)) x_HD_p0_gdR hw hl
  have B101 : ∀ (x6 : Int32) (y0 : Int32) (ws : va_W) (H : Heap) (locs : List Loc) (ls : Array Slot), RI p1 (-2147483648) 2147483647 → RI p2 0 5 → RI p3 (-2147483648) 2147483647 → RI p4 (-2147483648) 2147483647 → RI p5 (-2147483648) 2147483647 → RI x6 0 2147483647 → RI y0 (-2147483648) 2147483647 → AX 14 34 (HDp gdR) Ps ws p0 → WD D cy GG A s wr_X10_satSo__1 wa_X10_satSo__1 Ps w0 Ps ws H locs → lv_has ls 8 [(0, .ref p0), (1, .int p1), (2, .int p2), (3, .int p3), (4, .int p4), (5, .int p5), (6, .int x6)] → W p l e (headSpec (Cond.code yX10_satSo cX10_satSo 8 (some .boolean) :: gT) ({ frames := 3, cells := 0, slots := 0, locals := 600 } : Room)).room s m ([.ref p0, .int p1, .int p2, .int p3, .int p4, .int p5] : List Value).toArray below meth c H locs 0 0 Q (F0 m 101 ls [.int y0]) := by
    intro x6 y0 ws H locs ls r_p1 r_p2 r_p3 r_p4 r_p5 r_x6 r_y0 x_HD_p0_gdR hw hl
    refine lv_istore (lv' := [(6, .int y0), (0, .ref p0), (1, .int p1), (2, .int p2), (3, .int p3), (4, .int p4), (5, .int p5)]) hx hb dX10_satSo_101 hl (by decide) rfl (fun ls hl => ?_)
    refine lv_aload_n hx hb dX10_satSo_103 rfl (lv_at hl 1 rfl) ?_
    refine lv_iload_n hx hb dX10_satSo_104 rfl (lv_at hl 3 rfl) ?_
    refine tk_ir (va_runV (As := [.int p2]) (rest := []) ⟨hx, hb, hml, hown, hts⟩ (c_X10_whatIs l D cy z H.size Ps ws hw.1 p0 p2 h_p0 r_p2) (cwV 1 hts (gV tw_1449 tw_1451 ts_69 tw_15 tw_1452) rfl rfl rfl (by decide +kernel) ⟨Nat.le_of_ble_eq_true rfl, Nat.le_of_ble_eq_true rfl⟩) (tg_preV hw hK hSD hA (ci := 10) (q := (RX10, TX10, 49)) rfl h_p0 rfl) rfl rfl hl.1 rfl (lv_room (Nat.le_of_ble_eq_true rfl)) dX10_satSo_105 ⟨Nat.le_of_ble_eq_true rfl, Nat.le_of_ble_eq_true rfl⟩) hw hA (fun v_2  H locs hp_v_2 hw => ?_)
    have r_v_2 : RI v_2 (-1) 5 := hp_v_2.1
    by_cases c9_v_2 : v_2.toInt < 0
    · have r_v_2 : RI v_2 (-1) (-1) := by unfold RI at r_v_2 ⊢; omega
      have x_NB_p0_p2 := (hp_v_2.2.2.2.2.1 (by omega)).1
      refine lv_iload hx hb dX10_satSo_108 (lv_at hl 5 rfl) ?_
      refine lv_icmp_ne (tgt := 124) hx hb dX10_satSo_110 (by decide) (fun c_110 => ?_) (fun c_110 => ?_)
      · exact B124 y0 ws _ _ ls r_p1 r_p2 r_p3 r_p4 r_p5 r_y0 x_HD_p0_gdR hw (lv_sub hl [1, 2, 3, 4, 5, 6, 0] rfl)
      · have r_p4 : RI p4 (-1) (-1) := rc_eq2 r_v_2 r_p4 (ti_eq c_110) (by decide)
        refine lv_iload hx hb dX10_satSo_113 (lv_at hl 0 rfl) ?_
        refine lv_iload hx hb dX10_satSo_115 (lv_at hl 6 rfl) ?_
        refine lv_icmp_ne (tgt := 124) hx hb dX10_satSo_117 (by decide) (fun c_117 => ?_) (fun c_117 => ?_)
        · exact B124 y0 ws _ _ ls r_p1 r_p2 r_p3 (r_p4.to (by decide)) r_p5 r_y0 x_HD_p0_gdR hw (lv_sub hl [1, 2, 3, 4, 5, 6, 0] rfl)
        · refine lv_iconst (v := 1) hx hb dX10_satSo_120 (by decide) ?_
          refine lv_goto (tgt := 125) hx hb dX10_satSo_121 (by decide) ?_
          exact B125 y0 1 ws _ _ ls r_p1 r_p2 r_p3 (r_p4.to (by decide)) r_p5 r_y0 (rl_1.to (by decide)) x_HD_p0_gdR hw (lv_sub hl [1, 2, 3, 4, 5, 6, 0] rfl)
    · have r_v_2 : RI v_2 0 5 := by unfold RI at r_v_2 ⊢; omega
      have x_WB_p0_p2_v_2 := (hp_v_2.2.2.2.2.2 (by omega)).1
      refine lv_iload hx hb dX10_satSo_108 (lv_at hl 5 rfl) ?_
      refine lv_icmp_ne (tgt := 124) hx hb dX10_satSo_110 (by decide) (fun c_110 => ?_) (fun c_110 => ?_)
      · exact B124 y0 ws _ _ ls r_p1 r_p2 r_p3 r_p4 r_p5 r_y0 x_HD_p0_gdR hw (lv_sub hl [1, 2, 3, 4, 5, 6, 0] rfl)
      · have r_p4 : RI p4 0 5 := rc_eq2 r_v_2 r_p4 (ti_eq c_110) (by decide)
        refine lv_iload hx hb dX10_satSo_113 (lv_at hl 0 rfl) ?_
        refine lv_iload hx hb dX10_satSo_115 (lv_at hl 6 rfl) ?_
        refine lv_icmp_ne (tgt := 124) hx hb dX10_satSo_117 (by decide) (fun c_117 => ?_) (fun c_117 => ?_)
        · exact B124 y0 ws _ _ ls r_p1 r_p2 r_p3 (r_p4.to (by decide)) r_p5 r_y0 x_HD_p0_gdR hw (lv_sub hl [1, 2, 3, 4, 5, 6, 0] rfl)
        · refine lv_iconst (v := 1) hx hb dX10_satSo_120 (by decide) ?_
          refine lv_goto (tgt := 125) hx hb dX10_satSo_121 (by decide) ?_
          exact B125 y0 1 ws _ _ ls r_p1 r_p2 r_p3 (r_p4.to (by decide)) r_p5 r_y0 (rl_1.to (by decide)) x_HD_p0_gdR hw (lv_sub hl [1, 2, 3, 4, 5, 6, 0] rfl)
  have B7 : ∀ (nf : Nat) (x6 : Int32) (ws : va_W) (H : Heap) (locs : List Loc) (ls : Array Slot), 2147483647 - x6.toInt < (nf : Int) → RI p1 (-2147483648) 2147483647 → RI p2 0 5 → RI p3 (-2147483648) 2147483647 → RI p4 (-2147483648) 2147483647 → RI p5 (-2147483648) 2147483647 → RI x6 0 2147483647 → AX 14 34 (HDp gdR) Ps ws p0 → WD D cy GG A s wr_X10_satSo__1 wa_X10_satSo__1 Ps w0 Ps ws H locs → lv_has ls 8 [(0, .ref p0), (1, .int p1), (2, .int p2), (3, .int p3), (4, .int p4), (5, .int p5), (6, .int x6)] → W p l e (headSpec (Cond.code yX10_satSo cX10_satSo 8 (some .boolean) :: gT) ({ frames := 3, cells := 0, slots := 0, locals := 600 } : Room)).room s m ([.ref p0, .int p1, .int p2, .int p3, .int p4, .int p5] : List Value).toArray below meth c H locs 0 0 Q (F0 m 7 ls []) := by
    intro nf7
    induction nf7 with
    | zero =>
      intro x6 ws H locs ls hn7 r_p1 r_p2 r_p3 r_p4 r_p5 r_x6 x_HD_p0_gdR hw hl
      exact absurd hn7 (by have q0 := r_x6.1; have u0 := r_x6.2; omega)
    | succ nf7 ih7 =>
      have B16 : ∀ (nf : Nat) (x6 : Int32) (x7 : Int32) (ws : va_W) (H : Heap) (locs : List Loc) (ls : Array Slot), 8 - x7.toInt < (nf : Int) → RI p1 (-2147483648) 2147483647 → RI p2 0 5 → RI p3 1 2147483647 → RI p4 (-2147483648) 2147483647 → RI p5 (-2147483648) 2147483647 → RI x6 0 2147483646 → RI x7 0 8 → AX 14 34 (HDp gdR) Ps ws p0 → 2147483647 - x6.toInt < ((nf7 + 1 : Nat) : Int) → WD D cy GG A s wr_X10_satSo__1 wa_X10_satSo__1 Ps w0 Ps ws H locs → lv_has ls 8 [(0, .ref p0), (1, .int p1), (2, .int p2), (3, .int p3), (4, .int p4), (5, .int p5), (6, .int x6), (7, .int x7)] → W p l e (headSpec (Cond.code yX10_satSo cX10_satSo 8 (some .boolean) :: gT) ({ frames := 3, cells := 0, slots := 0, locals := 600 } : Room)).room s m ([.ref p0, .int p1, .int p2, .int p3, .int p4, .int p5] : List Value).toArray below meth c H locs 0 0 Q (F0 m 16 ls []) := by
        intro nf16
        induction nf16 with
        | zero =>
          intro x6 x7 ws H locs ls hn16 r_p1 r_p2 r_p3 r_p4 r_p5 r_x6 r_x7 x_HD_p0_gdR hn7 hw hl
          exact absurd hn16 (by have q0 := r_x7.1; have u0 := r_x7.2; omega)
        | succ nf16 ih16 =>
          intro x6 x7 ws H locs ls hn16 r_p1 r_p2 r_p3 r_p4 r_p5 r_x6 r_x7 x_HD_p0_gdR hn7 hw hl
          refine lv_iload hx hb dX10_satSo_16 (lv_at hl 7 rfl) ?_
          refine lv_aload_n hx hb dX10_satSo_18 rfl (lv_at hl 0 rfl) ?_
          refine tg_get (ci := 10) (ts := ty_MODEL) (C := RX10) (T := TX10) (N := 49) hx hb hts inX10 hown hK hw h_p0 rfl rfl 14 (by decide) (hts _ tw_1151) (fun _ h9 => h9) (ft := vR 34) rfl dX10_satSo_19 (fun u_3 hv_u_3 m_u_3 => ?_)
          obtain ⟨vu_3, rfl, h_vu_3⟩ := hv_u_3
          refine lv_iconst (v := 3) hx hb dX10_satSo_22 (by decide) ?_
          refine tg_iald (lo := 0) (hi := 8) hx hb hK hw h_vu_3 rfl 3 3 rl_3 (by decide) (by decide +kernel) dX10_satSo_23 (fun v_4 r_v_4 m_v_4 o_v_4 => ?_)
          refine lv_icmp_ge (tgt := 67) hx hb dX10_satSo_24 (by decide) (fun c_24 => ?_) (fun c_24 => ?_)
          · obtain ⟨v_5, e_v_5⟩ : ∃ q9 : Int32, q9 = x6 + Int32.ofInt 1 := ⟨_, rfl⟩
            obtain ⟨t_v_5, r_v_5⟩ := tq_add (lo := 1) (hi := 2147483647) r_x6 (show RI (Int32.ofInt 1) 1 1 by unfold RI; decide +kernel) (by decide +kernel) e_v_5
            have t_v_5 : v_5.toInt = x6.toInt + 1 := t_v_5
            refine lv_iinc (v := v_5) (lv' := [(6, .int v_5), (0, .ref p0), (1, .int p1), (2, .int p2), (3, .int p3), (4, .int p4), (5, .int p5), (7, .int x7)]) hx hb dX10_satSo_67 hl (k := 6) rfl e_v_5.symm (by decide) rfl (fun ls hl => ?_)
            refine lv_goto (tgt := 7) hx hb dX10_satSo_70 (by decide) ?_
            exact ih7 v_5 ws _ _ ls (by have q0 := r_v_5.1; have u0 := r_v_5.2; have o0 := r_x6.1; have p0 := r_x6.2; omega) r_p1 r_p2 (r_p3.to (by decide)) r_p4 r_p5 (r_v_5.to (by decide)) x_HD_p0_gdR hw (lv_sub hl [1, 2, 3, 4, 5, 6, 0] rfl)
          · have r_x7 : RI x7 0 7 := rc_lt1 r_x7 r_v_4 (ti_nle c_24) (by decide)
            have r_v_4 : RI v_4 1 8 := rc_lt2 r_x7 r_v_4 (ti_nle c_24) (by decide)
            refine lv_iload_n hx hb dX10_satSo_27 rfl (lv_at hl 1 rfl) ?_
            refine lv_iload hx hb dX10_satSo_28 (lv_at hl 7 rfl) ?_
            refine tk_ir (va_runS (As := [.int p1, .int x7]) (rest := []) ⟨hx, hb, hml, hown, hts⟩ (c_X10_has l D cy z H.size Ps ws hw.1 p1 x7 r_p1 r_x7) (va_cwS 2 hts (gS tw_1402 tw_1403 tw_15 tw_1404) rfl rfl rfl (by decide +kernel) ⟨Nat.le_of_ble_eq_true rfl, Nat.le_of_ble_eq_true rfl⟩) (tg_preS hw hK hSD hA) rfl rfl hl.1 rfl (lv_room (Nat.le_of_ble_eq_true rfl)) dX10_satSo_30 ⟨Nat.le_of_ble_eq_true rfl, Nat.le_of_ble_eq_true rfl⟩) hw hA (fun v_6  H locs hp_v_6 hw => ?_)
            have r_v_6 : RI v_6 0 1 := hp_v_6.1
            refine lv_if_eq (tgt := 61) hx hb dX10_satSo_33 (by decide) (fun c_33 => ?_) (fun c_33 => ?_)
            · have r_v_6 : RI v_6 0 0 := rc_eq1 r_v_6 rl_0 (ti_eq c_33) (by decide)
              obtain ⟨v_7, e_v_7⟩ : ∃ q9 : Int32, q9 = x7 + Int32.ofInt 1 := ⟨_, rfl⟩
              obtain ⟨t_v_7, r_v_7⟩ := tq_add (lo := 1) (hi := 8) r_x7 (show RI (Int32.ofInt 1) 1 1 by unfold RI; decide +kernel) (by decide +kernel) e_v_7
              have t_v_7 : v_7.toInt = x7.toInt + 1 := t_v_7
              refine lv_iinc (v := v_7) (lv' := [(7, .int v_7), (0, .ref p0), (1, .int p1), (2, .int p2), (3, .int p3), (4, .int p4), (5, .int p5), (6, .int x6)]) hx hb dX10_satSo_61 hl (k := 7) rfl e_v_7.symm (by decide) rfl (fun ls hl => ?_)
              refine lv_goto (tgt := 16) hx hb dX10_satSo_64 (by decide) ?_
              exact ih16 x6 v_7 ws _ _ ls (by have q0 := r_v_7.1; have u0 := r_v_7.2; have o0 := r_x7.1; have p0 := r_x7.2; omega) r_p1 r_p2 r_p3 r_p4 r_p5 r_x6 (r_v_7.to (by decide)) x_HD_p0_gdR (by have q0 := r_x6.1; have u0 := r_x6.2; omega) hw (lv_sub hl [1, 2, 3, 4, 5, 6, 7, 0] rfl)
            · have r_v_6 : RI v_6 1 1 := rc_neL r_v_6 rl_0 (ti_ne c_33) (by decide)
              refine lv_aload_n hx hb dX10_satSo_36 rfl (lv_at hl 0 rfl) ?_
              refine lv_iload_n hx hb dX10_satSo_37 rfl (lv_at hl 2 rfl) ?_
              refine lv_aload_n hx hb dX10_satSo_38 rfl (lv_at hl 0 rfl) ?_
              refine tg_mem (ci := 10) (C := RX10) (T := TX10) (N := 49) hx hb hts inX10 hown hK hw 14 m_u_3 rfl (by decide) (hts _ tw_1151) (fun _ h9 => h9) dX10_satSo_39 ?_
              refine lv_bipush (v := 104) hx hb dX10_satSo_42 (by decide) ?_
              refine lv_iload hx hb dX10_satSo_44 (lv_at hl 7 rfl) ?_
              refine lv_iadd hx hb dX10_satSo_46 (lv_topi (fun v_8 e_v_8 => ?_))
              obtain ⟨t_v_8, r_v_8⟩ := tq_add (lo := 104) (hi := 111) rl_104 r_x7 (by decide +kernel) e_v_8
              have t_v_8 : v_8.toInt = 104 + x7.toInt := t_v_8
              refine tg_iald (lo := 0) (hi := 5) hx hb hK hw h_vu_3 rfl 104 111 r_v_8 (by decide) (by decide +kernel) dX10_satSo_47 (fun v_9 r_v_9 m_v_9 o_v_9 => ?_)
              refine lv_aload_n hx hb dX10_satSo_48 rfl (lv_at hl 0 rfl) ?_
              refine tg_mem (ci := 10) (C := RX10) (T := TX10) (N := 49) hx hb hts inX10 hown hK hw 14 m_u_3 rfl (by decide) (hts _ tw_1151) (fun _ h9 => h9) dX10_satSo_49 ?_
              refine lv_bipush (v := 32) hx hb dX10_satSo_52 (by decide) ?_
              refine lv_iload hx hb dX10_satSo_54 (lv_at hl 7 rfl) ?_
              refine lv_iadd hx hb dX10_satSo_56 (lv_topi (fun v_10 e_v_10 => ?_))
              obtain ⟨t_v_10, r_v_10⟩ := tq_add (lo := 32) (hi := 39) rl_32 r_x7 (by decide +kernel) e_v_10
              have t_v_10 : v_10.toInt = 32 + x7.toInt := t_v_10
              refine tg_iald (lo := (-2147483648)) (hi := 2147483647) hx hb hK hw h_vu_3 rfl 32 39 r_v_10 (by decide) (by decide +kernel) dX10_satSo_57 (fun v_11 r_v_11 m_v_11 o_v_11 => ?_)
              have hw8 := hw
              refine tk_v (va_runV (As := [.int p2, .int v_9, .int v_11]) (rest := []) ⟨hx, hb, hml, hown, hts⟩ (c_X10_adds__1 l D cy z H.size Ps ws hw.1 p0 p2 v_9 v_11 (gdR) h_p0 r_p2 r_v_9 r_v_11 x_HD_p0_gdR) (cwV 3 hts (gV tw_1521 tw_1523 ts_82 tw_15 tw_1524) rfl rfl rfl (by decide +kernel) ⟨Nat.le_of_ble_eq_true rfl, Nat.le_of_ble_eq_true rfl⟩) (tg_preV hw hK hSD hA (ci := 10) (q := (RX10, TX10, 49)) rfl h_p0 rfl) rfl rfl hl.1 rfl (lv_room (Nat.le_of_ble_eq_true rfl)) dX10_satSo_58 ⟨Nat.le_of_ble_eq_true rfl, Nat.le_of_ble_eq_true rfl⟩) hw hA ⟨by decide, by decide⟩ (fun ws H locs hp_v_12 hw hF9 => ?_)
              have m_u_3 := FLD.over hF9 m_u_3 (by decide)
              obtain ⟨x_HD_p0_gdR, hp_v_12⟩ := hp_v_12
              obtain ⟨v_13, e_v_13⟩ : ∃ q9 : Int32, q9 = x7 + Int32.ofInt 1 := ⟨_, rfl⟩
              obtain ⟨t_v_13, r_v_13⟩ := tq_add (lo := 1) (hi := 8) r_x7 (show RI (Int32.ofInt 1) 1 1 by unfold RI; decide +kernel) (by decide +kernel) e_v_13
              have t_v_13 : v_13.toInt = x7.toInt + 1 := t_v_13
              refine lv_iinc (v := v_13) (lv' := [(7, .int v_13), (0, .ref p0), (1, .int p1), (2, .int p2), (3, .int p3), (4, .int p4), (5, .int p5), (6, .int x6)]) hx hb dX10_satSo_61 hl (k := 7) rfl e_v_13.symm (by decide) rfl (fun ls hl => ?_)
              refine lv_goto (tgt := 16) hx hb dX10_satSo_64 (by decide) ?_
              exact ih16 x6 v_13 ws _ _ ls (by have q0 := r_v_13.1; have u0 := r_v_13.2; have o0 := r_x7.1; have p0 := r_x7.2; omega) r_p1 r_p2 r_p3 r_p4 r_p5 r_x6 (r_v_13.to (by decide)) x_HD_p0_gdR (by have q0 := r_x6.1; have u0 := r_x6.2; omega) hw (lv_sub hl [1, 2, 3, 4, 5, 6, 7, 0] rfl)
      intro x6 ws H locs ls hn7 r_p1 r_p2 r_p3 r_p4 r_p5 r_x6 x_HD_p0_gdR hw hl
      refine lv_iload hx hb dX10_satSo_7 (lv_at hl 6 rfl) ?_
      refine lv_iload_n hx hb dX10_satSo_9 rfl (lv_at hl 3 rfl) ?_
      refine lv_icmp_ge (tgt := 73) hx hb dX10_satSo_10 (by decide) (fun c_10 => ?_) (fun c_10 => ?_)
      · refine lv_aload_n hx hb dX10_satSo_73 rfl (lv_at hl 0 rfl) ?_
        refine lv_iload_n hx hb dX10_satSo_74 rfl (lv_at hl 1 rfl) ?_
        refine tk_ir (va_runV (As := [.int p1]) (rest := []) ⟨hx, hb, hml, hown, hts⟩ (c_X10_areUnlike l D cy z H.size Ps ws hw.1 p0 p1 h_p0 r_p1) (cwV 1 hts (gV tw_1572 tw_1574 ts_87 tw_15 tw_1575) rfl rfl rfl (by decide +kernel) ⟨Nat.le_of_ble_eq_true rfl, Nat.le_of_ble_eq_true rfl⟩) (tg_preV hw hK hSD hA (ci := 10) (q := (RX10, TX10, 49)) rfl h_p0 rfl) rfl rfl hl.1 rfl (lv_room (Nat.le_of_ble_eq_true rfl)) dX10_satSo_75 ⟨Nat.le_of_ble_eq_true rfl, Nat.le_of_ble_eq_true rfl⟩) hw hA (fun v_14  H locs hp_v_14 hw => ?_)
        have r_v_14 : RI v_14 0 1 := hp_v_14.1
        refine lv_if_eq (tgt := 100) hx hb dX10_satSo_78 (by decide) (fun c_78 => ?_) (fun c_78 => ?_)
        · have r_v_14 : RI v_14 0 0 := rc_eq1 r_v_14 rl_0 (ti_eq c_78) (by decide)
          refine lv_iconst (v := 0) hx hb dX10_satSo_100 (by decide) ?_
          exact B101 x6 0 ws _ _ ls r_p1 r_p2 r_p3 r_p4 r_p5 r_x6 (rl_0.to (by decide)) x_HD_p0_gdR hw hl
        · have r_v_14 : RI v_14 1 1 := rc_neL r_v_14 rl_0 (ti_ne c_78) (by decide)
          refine lv_iload_n hx hb dX10_satSo_81 rfl (lv_at hl 3 rfl) ?_
          refine lv_bipush (v := 99) hx hb dX10_satSo_82 (by decide) ?_
          refine lv_aload_n hx hb dX10_satSo_84 rfl (lv_at hl 0 rfl) ?_
          refine tg_get (ci := 10) (ts := ty_MODEL) (C := RX10) (T := TX10) (N := 49) hx hb hts inX10 hown hK hw h_p0 rfl rfl 14 (by decide) (hts _ tw_1151) (fun _ h9 => h9) (ft := vR 34) rfl dX10_satSo_85 (fun u_15 hv_u_15 m_u_15 => ?_)
          obtain ⟨vu_15, rfl, h_vu_15⟩ := hv_u_15
          refine lv_bipush (v := 92) hx hb dX10_satSo_88 (by decide) ?_
          refine lv_iload_n hx hb dX10_satSo_90 rfl (lv_at hl 2 rfl) ?_
          refine lv_iadd hx hb dX10_satSo_91 (lv_topi (fun v_16 e_v_16 => ?_))
          obtain ⟨t_v_16, r_v_16⟩ := tq_add (lo := 92) (hi := 97) rl_92 r_p2 (by decide +kernel) e_v_16
          have t_v_16 : v_16.toInt = 92 + p2.toInt := t_v_16
          refine tg_iald (lo := (-2147483648)) (hi := 2147483647) hx hb hK hw h_vu_15 rfl 92 97 r_v_16 (by decide) (by decide +kernel) dX10_satSo_92 (fun v_17 r_v_17 m_v_17 o_v_17 => ?_)
          refine lv_isub hx hb dX10_satSo_93 (lv_topi (fun v_18 e_v_18 => ?_))
          have r_v_18 := ri_any v_18
          refine tk_ir (va_runS (As := [.int p3, .int v_18]) (rest := []) ⟨hx, hb, hml, hown, hts⟩ (c_X10_least__1 l D cy z H.size Ps ws hw.1 p3 v_18 r_p3 r_v_18) (va_cwS 2 hts (gS tw_1525 tw_1526 tw_15 tw_1527) rfl rfl rfl (by decide +kernel) ⟨Nat.le_of_ble_eq_true rfl, Nat.le_of_ble_eq_true rfl⟩) (tg_preS hw hK hSD hA) rfl rfl hl.1 rfl (lv_room (Nat.le_of_ble_eq_true rfl)) dX10_satSo_94 ⟨Nat.le_of_ble_eq_true rfl, Nat.le_of_ble_eq_true rfl⟩) hw hA (fun v_19  H locs hp_v_19 hw => ?_)
          have r_v_19 : RI v_19 (-2147483648) 2147483647 := hp_v_19.1
          refine lv_goto (tgt := 101) hx hb dX10_satSo_97 (by decide) ?_
          exact B101 x6 v_19 ws _ _ ls r_p1 r_p2 r_p3 r_p4 r_p5 r_x6 r_v_19 x_HD_p0_gdR hw hl
      · have r_x6 : RI x6 0 2147483646 := rc_lt1 r_x6 r_p3 (ti_nle c_10) (by decide)
        have r_p3 : RI p3 1 2147483647 := rc_lt2 r_x6 r_p3 (ti_nle c_10) (by decide)
        refine lv_iconst (v := 0) hx hb dX10_satSo_13 (by decide) ?_
        refine lv_istore (lv' := [(7, .int 0), (0, .ref p0), (1, .int p1), (2, .int p2), (3, .int p3), (4, .int p4), (5, .int p5), (6, .int x6)]) hx hb dX10_satSo_14 hl (by decide) rfl (fun ls hl => ?_)
        exact B16 4294967298 x6 0 ws _ _ ls (by have q0 := rl_0.1; have u0 := rl_0.2; omega) r_p1 r_p2 r_p3 r_p4 r_p5 r_x6 (rl_0.to (by decide)) x_HD_p0_gdR (by have q0 := r_x6.1; have u0 := r_x6.2; omega) hw (lv_sub hl [1, 2, 3, 4, 5, 6, 7, 0] rfl)
  refine lv_aload_n hx hb dX10_satSo_0 rfl (lv_at hl 0 rfl) ?_
  refine tk_v (va_runV (As := []) (rest := []) ⟨hx, hb, hml, hown, hts⟩ (c_X10_hold l D cy z s.heap.size Ps w0 hw.1 p0 h_p0) (cwV 0 hts (gV tw_1607 tw_1609 ts_91 tw_15 tw_1610) rfl rfl rfl (by decide +kernel) ⟨Nat.le_of_ble_eq_true rfl, Nat.le_of_ble_eq_true rfl⟩) (tg_preV hw hK hSD hA (ci := 10) (q := (RX10, TX10, 49)) rfl h_p0 rfl) rfl rfl hl.1 rfl (lv_room (Nat.le_of_ble_eq_true rfl)) dX10_satSo_1 ⟨Nat.le_of_ble_eq_true rfl, Nat.le_of_ble_eq_true rfl⟩) hw hA ⟨by decide, by decide⟩ (fun ws H locs hp_v_20 hw hF9 => ?_)
  have x_HD_p0_gdR := AX.over hF9 x_HD_p0_gdR (by decide)
  refine lv_iconst (v := 0) hx hb dX10_satSo_4 (by decide) ?_
  refine lv_istore (lv' := [(6, .int 0), (0, .ref p0), (1, .int p1), (2, .int p2), (3, .int p3), (4, .int p4), (5, .int p5)]) hx hb dX10_satSo_5 hl (by decide) rfl (fun ls hl => ?_)
  exact B7 4294967298 0 ws _ _ ls (by have q0 := rl_0.1; have u0 := rl_0.2; omega) r_p1 r_p2 r_p3 r_p4 r_p5 (rl_0.to (by decide)) x_HD_p0_gdR hw (lv_sub hl [1, 2, 3, 4, 5, 6, 0] rfl)
abbrev wr_X10_sat__2 : List (Nat × Nat) := [(10, 0), (10, 2), (10, 29), (10, 30)]
abbrev wa_X10_sat__2 : List Nat := [34, 39, 47]
set_option maxHeartbeats 4000000 in
set_option maxRecDepth 100000 in
theorem c_X10_sat__2 (l : Launch) (D : va_G) (cy : Nat → ClassId) (z : Nat → Nat) (sz : Nat) (Ps : PSI) (w0 : va_W) (hT : HT cy GG Ps w0) (p0 : Nat) (gdR : Nat → Int32) (h_p0 : (p0, 55) ∈ Ps) (x_HD_p0_gdR : AX 14 34 (HDp gdR) Ps w0 p0) : Met l yX10_sat (Cond.code yX10_sat cX10_sat 6 (some .int) :: gT) ({ frames := 4, cells := 0, slots := 0, locals := 800 } : Room) (va_Pc [.ref p0] (PRE D cy z w0 sz)) (va_Qi (fun (r : Int32) (u : va_W) => ((AX 14 34 (HDp gdR) Ps u p0) ∧ (RI r (-2147483648) 2147483647 ∧ (r = 0 → True) ∧ (¬ r = 0 → True) ∧ (TLM u p0 (0) ∧ True) ∧ (r.toInt < 0 → True) ∧ (0 ≤ r.toInt → True))) ∧ HT cy GG Ps u ∧ FR wr_X10_sat__2 wa_X10_sat__2 Ps w0 u) (BB D cy (va_A w0 sz) (fun (u : va_W) => u)) (va_A w0 sz)) 0 0 (va_A w0 sz) := by
  refine Met.ofW (cc := cX10_sat) (maxL := 6) (ret := (some .int)) (by decide) rfl ?_
  intro p e s m args below meth c s₁ B hml hv
  obtain ⟨rfl, hsz, hP, hK, hD0, hSD⟩ := hv
  have hx := B.exec
  have hb := B.bytes
  have hr := B.returns
  have hlocks := B.notSynchronized
  have hts : ∀ w ∈ gT, w.before _ s = true := fun w h => atoms_spec (ws := Cond.code yX10_sat cX10_sat 6 (some .int) :: gT) B.pre w (List.mem_cons_of_mem _ h)
  have hown : s.vm.findClass RX10 = some m.cls := findClass_of_methodNamed B.named
  subst hsz
  have hD := hD0.self (sz := s.heap.size)
  generalize hAe : va_A w0 s.heap.size = A at hD hSD ⊢
  have hA : ∀ q : Nat, s.heap.size ≤ q → A q := fun q h => by rw [← hAe]; exact Or.inr h
  have hl := lv_entry ([.ref p0]) (n := 6) (Nat.le_of_ble_eq_true rfl)
  rw [lg_entry_eq]
  generalize (lg_sl ([.ref p0]) ++ List.replicate (6 - (lg_sl ([.ref p0])).length) Slot.unset).toArray = ls at hl ⊢
  have hl : lv_has ls 6 [(0, .ref p0)] := hl
  refine nameQ (fun Q hQ => ?_)
  have hw : WD D cy GG A s wr_X10_sat__2 wa_X10_sat__2 Ps w0 Ps w0 s.heap [] := ⟨hT, hP, hD, va_S.rf, FR.rf, hT.1, [], (List.append_nil _).symm⟩
  have B258 : ∀ (nf : Nat) (x1 : Int32) (x2 : Int32) (x3 : Int32) (x4 : Int32) (z0_0 : Int32) (z0_2 : Int32) (z0_29 : Int32) (ws : va_W) (H : Heap) (locs : List Loc) (ls : Array Slot), 8 - x4.toInt < (nf : Int) → RI x1 (-1) 5 → RI x2 (-2147483648) 2147483647 → RI x3 0 255 → RI x4 0 8 → RI z0_0 0 0 → FLD ws p0 10 0 (.int z0_0) → RI z0_2 0 0 → FLD ws p0 10 2 (.int z0_2) → RI z0_29 0 255 → FLD ws p0 10 29 (.int z0_29) → AX 14 34 (HDp gdR) Ps ws p0 → AX 1 40 (fun f => (f 0).toInt ≤ 5) Ps ws p0 → TLM ws p0 (0) → WD D cy GG A s wr_X10_sat__2 wa_X10_sat__2 Ps w0 Ps ws H locs → lv_has ls 6 [(0, .ref p0), (1, .int x1), (2, .int x2), (3, .int x3), (4, .int x4)] → W p l e (headSpec (Cond.code yX10_sat cX10_sat 6 (some .int) :: gT) ({ frames := 4, cells := 0, slots := 0, locals := 800 } : Room)).room s m ([.ref p0] : List Value).toArray below meth c H locs 0 0 Q (F0 m 258 ls []) := by
    intro nf258
    induction nf258 with
    | zero =>
      intro x1 x2 x3 x4 z0_0 z0_2 z0_29 ws H locs ls hn258 r_x1 r_x2 r_x3 r_x4 r_z0_0 m_z0_0 r_z0_2 m_z0_2 r_z0_29 m_z0_29 x_HD_p0_gdR x_T0_p0 x_TLM_p0_0 hw hl
      exact absurd hn258 (by have q0 := r_x4.1; have u0 := r_x4.2; omega)
    | succ nf258 ih258 =>
      have B310 : ∀ (x1 : Int32) (x2 : Int32) (x3 : Int32) (x4 : Int32) (z0_0 : Int32) (z0_2 : Int32) (z0_29 : Int32) (ws : va_W) (H : Heap) (locs : List Loc) (ls : Array Slot), RI x1 (-1) 5 → RI x2 (-2147483648) 2147483647 → RI x3 0 255 → RI x4 0 7 → RI z0_0 0 0 → FLD ws p0 10 0 (.int z0_0) → RI z0_2 0 0 → FLD ws p0 10 2 (.int z0_2) → RI z0_29 0 255 → FLD ws p0 10 29 (.int z0_29) → AX 14 34 (HDp gdR) Ps ws p0 → AX 1 40 (fun f => (f 0).toInt ≤ 5) Ps ws p0 → TLM ws p0 (0) → 8 - x4.toInt < ((nf258 + 1 : Nat) : Int) → WD D cy GG A s wr_X10_sat__2 wa_X10_sat__2 Ps w0 Ps ws H locs → lv_has ls 6 [(0, .ref p0), (1, .int x1), (2, .int x2), (3, .int x3), (4, .int x4)] → W p l e (headSpec (Cond.code yX10_sat cX10_sat 6 (some .int) :: gT) ({ frames := 4, cells := 0, slots := 0, locals := 800 } : Room)).room s m ([.ref p0] : List Value).toArray below meth c H locs 0 0 Q (F0 m 310 ls []) := by
        intro x1 x2 x3 x4 z0_0 z0_2 z0_29 ws H locs ls r_x1 r_x2 r_x3 r_x4 r_z0_0 m_z0_0 r_z0_2 m_z0_2 r_z0_29 m_z0_29 x_HD_p0_gdR x_T0_p0 x_TLM_p0_0 hn258 hw hl
        refine lv_aload_n hx hb dX10_sat_310 rfl (lv_at hl 0 rfl) ?_
        refine lv_iload hx hb dX10_sat_311 (lv_at hl 4 rfl) ?_
        refine tg_put (ci := 10) (ts := ty_MODEL) (v := .int x4) (ty := .int) (C := RX10) (T := TX10) (N := 49) hx hb hts inX10 tyX10 tyX10_ok nmX10 hown hK hw h_p0 rfl rfl 30 (by decide) (hts _ tw_1167) (fun _ h9 => h9) rfl (by decide +kernel) rfl rfl (ft := vI (-1) 7) rfl ⟨_, rfl, (r_x4.to (by decide))⟩ (by decide) dX10_sat_313 (fun ws H locs hw n_k_1 hF9 => ?_)
        have m_z0_0 := FLD.over hF9 m_z0_0 (by decide)
        have m_z0_2 := FLD.over hF9 m_z0_2 (by decide)
        have m_z0_29 := FLD.over hF9 m_z0_29 (by decide)
        have x_HD_p0_gdR := AX.over hF9 x_HD_p0_gdR (by decide)
        have x_T0_p0 := AX.over hF9 x_T0_p0 (by decide)
        have x_TLM_p0_0 := TLM.over hF9 x_TLM_p0_0 (by decide)
        obtain ⟨v_2, e_v_2⟩ : ∃ q9 : Int32, q9 = x4 + Int32.ofInt 1 := ⟨_, rfl⟩
        obtain ⟨t_v_2, r_v_2⟩ := tq_add (lo := 1) (hi := 8) r_x4 (show RI (Int32.ofInt 1) 1 1 by unfold RI; decide +kernel) (by decide +kernel) e_v_2
        have t_v_2 : v_2.toInt = x4.toInt + 1 := t_v_2
        refine lv_iinc (v := v_2) (lv' := [(4, .int v_2), (0, .ref p0), (1, .int x1), (2, .int x2), (3, .int x3)]) hx hb dX10_sat_316 hl (k := 4) rfl e_v_2.symm (by decide) rfl (fun ls hl => ?_)
        refine lv_goto (tgt := 258) hx hb dX10_sat_319 (by decide) ?_
        exact ih258 x1 x2 x3 v_2 z0_0 z0_2 z0_29 ws _ _ ls (by have q0 := r_v_2.1; have u0 := r_v_2.2; have o0 := r_x4.1; have p0 := r_x4.2; omega) r_x1 r_x2 r_x3 (r_v_2.to (by decide)) r_z0_0 m_z0_0 r_z0_2 m_z0_2 r_z0_29 m_z0_29 x_HD_p0_gdR x_T0_p0 x_TLM_p0_0 hw (lv_sub hl [1, 2, 3, 4, 0] rfl)
      intro x1 x2 x3 x4 z0_0 z0_2 z0_29 ws H locs ls hn258 r_x1 r_x2 r_x3 r_x4 r_z0_0 m_z0_0 r_z0_2 m_z0_2 r_z0_29 m_z0_29 x_HD_p0_gdR x_T0_p0 x_TLM_p0_0 hw hl
      refine lv_iload hx hb dX10_sat_258 (lv_at hl 4 rfl) ?_
      refine lv_aload_n hx hb dX10_sat_260 rfl (lv_at hl 0 rfl) ?_
      refine tg_get (ci := 10) (ts := ty_MODEL) (C := RX10) (T := TX10) (N := 49) hx hb hts inX10 hown hK hw h_p0 rfl rfl 14 (by decide) (hts _ tw_1151) (fun _ h9 => h9) (ft := vR 34) rfl dX10_sat_261 (fun u_3 hv_u_3 m_u_3 => ?_)
      obtain ⟨vu_3, rfl, h_vu_3⟩ := hv_u_3
      refine lv_iconst (v := 3) hx hb dX10_sat_264 (by decide) ?_
      refine tg_iald (lo := 0) (hi := 8) hx hb hK hw h_vu_3 rfl 3 3 rl_3 (by decide) (by decide +kernel) dX10_sat_265 (fun v_4 r_v_4 m_v_4 o_v_4 => ?_)
      refine lv_icmp_ge (tgt := 322) hx hb dX10_sat_266 (by decide) (fun c_266 => ?_) (fun c_266 => ?_)
      · refine lv_iload_n hx hb dX10_sat_322 rfl (lv_at hl 2 rfl) ?_
        subst hQ
        exact W.iret (v := x2) hx hb hr (fun t ht hW => ⟨⟨x2, ws, rfl, ⟨⟨x_HD_p0_gdR, r_x2.to (by decide), (fun h0 => trivial), (fun h0 => trivial), ⟨x_TLM_p0_0, trivial⟩, (fun _ => trivial), (fun _ => trivial)⟩, hw.1, hw.2.2.2.2.1⟩, by rw [ht]; exact hw.2.1, va_K.moved hW.alike hK, hw.2.2.1⟩, hw.2.2.2.1.F ht⟩) hw.2.2.2.1.2.2 dX10_sat_323
      · have r_x4 : RI x4 0 7 := rc_lt1 r_x4 r_v_4 (ti_nle c_266) (by decide)
        have r_v_4 : RI v_4 1 8 := rc_lt2 r_x4 r_v_4 (ti_nle c_266) (by decide)
        refine lv_aload_n hx hb dX10_sat_269 rfl (lv_at hl 0 rfl) ?_
        refine tg_get (ci := 10) (ts := ty_MODEL) (C := RX10) (T := TX10) (N := 49) hx hb hts inX10 hown hK hw h_p0 rfl rfl 30 (by decide) (hts _ tw_1167) (fun _ h9 => h9) (ft := vI (-1) 7) rfl dX10_sat_270 (fun u_5 hv_u_5 m_u_5 => ?_)
        obtain ⟨vu_5, rfl, r_vu_5⟩ := hv_u_5
        refine lv_iconst (v := (-1)) hx hb dX10_sat_273 (by decide) ?_
        refine lv_icmp_eq (tgt := 310) hx hb dX10_sat_274 (by decide) (fun c_274 => ?_) (fun c_274 => ?_)
        · have r_vu_5 : RI vu_5 (-1) (-1) := rc_eq1 r_vu_5 rl_m1 (ti_eq c_274) (by decide)
          exact B310 x1 x2 x3 x4 z0_0 z0_2 z0_29 ws _ _ ls r_x1 r_x2 r_x3 r_x4 r_z0_0 m_z0_0 r_z0_2 m_z0_2 r_z0_29 m_z0_29 x_HD_p0_gdR x_T0_p0 x_TLM_p0_0 (by have q0 := r_x4.1; have u0 := r_x4.2; omega) hw hl
        · have r_vu_5 : RI vu_5 0 7 := rc_neL r_vu_5 rl_m1 (ti_ne c_274) (by decide)
          refine lv_iconst (v := 2) hx hb dX10_sat_277 (by decide) ?_
          refine lv_aload_n hx hb dX10_sat_278 rfl (lv_at hl 0 rfl) ?_
          refine tg_get (ci := 10) (ts := ty_MODEL) (C := RX10) (T := TX10) (N := 49) hx hb hts inX10 hown hK hw h_p0 rfl rfl 28 (by decide) (hts _ tw_1165) (fun _ h9 => h9) (ft := vR 47) rfl dX10_sat_279 (fun u_6 hv_u_6 m_u_6 => ?_)
          obtain ⟨vu_6, rfl, h_vu_6⟩ := hv_u_6
          refine lv_iload hx hb dX10_sat_282 (lv_at hl 4 rfl) ?_
          refine tg_iald (lo := (-2147483648)) (hi := 2147483647) hx hb hK hw h_vu_6 rfl 0 7 r_x4 (by decide) (by exact fun _ _ _ => ⟨Int.le_refl _, Int.le_refl _⟩) dX10_sat_284 (fun v_7 r_v_7 m_v_7 o_v_7 => ?_)
          refine lv_imul hx hb dX10_sat_285 (lv_topi (fun v_8 e_v_8 => ?_))
          have r_v_8 := ri_any v_8
          refine lv_iload_n hx hb dX10_sat_286 rfl (lv_at hl 2 rfl) ?_
          refine lv_isub hx hb dX10_sat_287 (lv_topi (fun v_9 e_v_9 => ?_))
          have r_v_9 := ri_any v_9
          refine tk_ir (va_runS (As := [.int v_9]) (rest := []) ⟨hx, hb, hml, hown, hts⟩ (c_X10_size l D cy z H.size Ps ws hw.1 v_9 r_v_9) (va_cwS 1 hts (gS tw_1615 tw_1616 tw_15 tw_1617) rfl rfl rfl (by decide +kernel) ⟨Nat.le_of_ble_eq_true rfl, Nat.le_of_ble_eq_true rfl⟩) (tg_preS hw hK hSD hA) rfl rfl hl.1 rfl (lv_room (Nat.le_of_ble_eq_true rfl)) dX10_sat_288 ⟨Nat.le_of_ble_eq_true rfl, Nat.le_of_ble_eq_true rfl⟩) hw hA (fun v_10  H locs hp_v_10 hw => ?_)
          have r_v_10 : RI v_10 (-2147483648) 2147483647 := hp_v_10.1
          refine lv_iconst (v := 2) hx hb dX10_sat_291 (by decide) ?_
          refine lv_aload_n hx hb dX10_sat_292 rfl (lv_at hl 0 rfl) ?_
          refine tg_mem (ci := 10) (C := RX10) (T := TX10) (N := 49) hx hb hts inX10 hown hK hw 28 m_u_6 rfl (by decide) (hts _ tw_1165) (fun _ h9 => h9) dX10_sat_293 ?_
          refine lv_aload_n hx hb dX10_sat_296 rfl (lv_at hl 0 rfl) ?_
          refine tg_mem (ci := 10) (C := RX10) (T := TX10) (N := 49) hx hb hts inX10 hown hK hw 30 m_u_5 rfl (by decide) (hts _ tw_1167) (fun _ h9 => h9) dX10_sat_297 ?_
          refine tg_iald (lo := (-2147483648)) (hi := 2147483647) hx hb hK hw h_vu_6 rfl 0 7 r_vu_5 (by decide) (by exact fun _ _ _ => ⟨Int.le_refl _, Int.le_refl _⟩) dX10_sat_300 (fun v_11 r_v_11 m_v_11 o_v_11 => ?_)
          refine lv_imul hx hb dX10_sat_301 (lv_topi (fun v_12 e_v_12 => ?_))
          have r_v_12 := ri_any v_12
          refine lv_iload_n hx hb dX10_sat_302 rfl (lv_at hl 2 rfl) ?_
          refine lv_isub hx hb dX10_sat_303 (lv_topi (fun v_13 e_v_13 => ?_))
          have r_v_13 := ri_any v_13
          refine tk_ir (va_runS (As := [.int v_13]) (rest := [.int v_10]) ⟨hx, hb, hml, hown, hts⟩ (c_X10_size l D cy z H.size Ps ws hw.1 v_13 r_v_13) (va_cwS 1 hts (gS tw_1615 tw_1616 tw_15 tw_1617) rfl rfl rfl (by decide +kernel) ⟨Nat.le_of_ble_eq_true rfl, Nat.le_of_ble_eq_true rfl⟩) (tg_preS hw hK hSD hA) rfl rfl hl.1 rfl (lv_room (Nat.le_of_ble_eq_true rfl)) dX10_sat_304 ⟨Nat.le_of_ble_eq_true rfl, Nat.le_of_ble_eq_true rfl⟩) hw hA (fun v_14  H locs hp_v_14 hw => ?_)
          have r_v_14 : RI v_14 (-2147483648) 2147483647 := hp_v_14.1
          refine lv_icmp_ge (tgt := 316) hx hb dX10_sat_307 (by decide) (fun c_307 => ?_) (fun c_307 => ?_)
          · obtain ⟨v_15, e_v_15⟩ : ∃ q9 : Int32, q9 = x4 + Int32.ofInt 1 := ⟨_, rfl⟩
            obtain ⟨t_v_15, r_v_15⟩ := tq_add (lo := 1) (hi := 8) r_x4 (show RI (Int32.ofInt 1) 1 1 by unfold RI; decide +kernel) (by decide +kernel) e_v_15
            have t_v_15 : v_15.toInt = x4.toInt + 1 := t_v_15
            refine lv_iinc (v := v_15) (lv' := [(4, .int v_15), (0, .ref p0), (1, .int x1), (2, .int x2), (3, .int x3)]) hx hb dX10_sat_316 hl (k := 4) rfl e_v_15.symm (by decide) rfl (fun ls hl => ?_)
            refine lv_goto (tgt := 258) hx hb dX10_sat_319 (by decide) ?_
            exact ih258 x1 x2 x3 v_15 z0_0 z0_2 z0_29 ws _ _ ls (by have q0 := r_v_15.1; have u0 := r_v_15.2; have o0 := r_x4.1; have p0 := r_x4.2; omega) r_x1 r_x2 r_x3 (r_v_15.to (by decide)) r_z0_0 m_z0_0 r_z0_2 m_z0_2 r_z0_29 m_z0_29 x_HD_p0_gdR x_T0_p0 x_TLM_p0_0 hw (lv_sub hl [1, 2, 3, 4, 0] rfl)
          · have r_v_10 : RI v_10 (-2147483648) 2147483646 := rc_lt1 r_v_10 r_v_14 (ti_nle c_307) (by decide)
            have r_v_14 : RI v_14 (-2147483647) 2147483647 := rc_lt2 r_v_10 r_v_14 (ti_nle c_307) (by decide)
            exact B310 x1 x2 x3 x4 z0_0 z0_2 z0_29 ws _ _ ls r_x1 r_x2 r_x3 r_x4 r_z0_0 m_z0_0 r_z0_2 m_z0_2 r_z0_29 m_z0_29 x_HD_p0_gdR x_T0_p0 x_TLM_p0_0 (by have q0 := r_x4.1; have u0 := r_x4.2; omega) hw hl
  have B144 : ∀ (nf : Nat) (x1 : Int32) (x2 : Int32) (x3 : Int32) (x4 : Int32) (z0_0 : Int32) (z0_2 : Int32) (ws : va_W) (H : Heap) (locs : List Loc) (ls : Array Slot), 256 - x4.toInt < (nf : Int) → RI x1 (-1) 5 → RI x2 (-2147483648) 2147483647 → RI x3 0 255 → RI x4 0 256 → RI z0_0 0 0 → FLD ws p0 10 0 (.int z0_0) → RI z0_2 0 0 → FLD ws p0 10 2 (.int z0_2) → AX 14 34 (HDp gdR) Ps ws p0 → AX 1 40 (fun f => (f 0).toInt ≤ 5) Ps ws p0 → TLM ws p0 (0) → WD D cy GG A s wr_X10_sat__2 wa_X10_sat__2 Ps w0 Ps ws H locs → lv_has ls 6 [(0, .ref p0), (1, .int x1), (2, .int x2), (3, .int x3), (4, .int x4)] → W p l e (headSpec (Cond.code yX10_sat cX10_sat 6 (some .int) :: gT) ({ frames := 4, cells := 0, slots := 0, locals := 800 } : Room)).room s m ([.ref p0] : List Value).toArray below meth c H locs 0 0 Q (F0 m 144 ls []) := by
    intro nf144
    induction nf144 with
    | zero =>
      intro x1 x2 x3 x4 z0_0 z0_2 ws H locs ls hn144 r_x1 r_x2 r_x3 r_x4 r_z0_0 m_z0_0 r_z0_2 m_z0_2 x_HD_p0_gdR x_T0_p0 x_TLM_p0_0 hw hl
      exact absurd hn144 (by have q0 := r_x4.1; have u0 := r_x4.2; omega)
    | succ nf144 ih144 =>
      have B199 : ∀ (nf : Nat) (x1 : Int32) (x2 : Int32) (x3 : Int32) (x4 : Int32) (x5 : Int32) (z0_0 : Int32) (z0_2 : Int32) (ws : va_W) (H : Heap) (locs : List Loc) (ls : Array Slot), 8 - x5.toInt < (nf : Int) → RI x1 (-1) 5 → RI x2 (-2147483648) 2147483647 → RI x3 0 255 → RI x4 0 255 → RI x5 0 8 → RI z0_0 0 0 → FLD ws p0 10 0 (.int z0_0) → RI z0_2 0 0 → FLD ws p0 10 2 (.int z0_2) → AX 14 34 (HDp gdR) Ps ws p0 → AX 1 40 (fun f => (f 0).toInt ≤ 5) Ps ws p0 → TLM ws p0 (0) → 256 - x4.toInt < ((nf144 + 1 : Nat) : Int) → WD D cy GG A s wr_X10_sat__2 wa_X10_sat__2 Ps w0 Ps ws H locs → lv_has ls 6 [(0, .ref p0), (1, .int x1), (2, .int x2), (3, .int x3), (4, .int x4), (5, .int x5)] → W p l e (headSpec (Cond.code yX10_sat cX10_sat 6 (some .int) :: gT) ({ frames := 4, cells := 0, slots := 0, locals := 800 } : Room)).room s m ([.ref p0] : List Value).toArray below meth c H locs 0 0 Q (F0 m 199 ls []) := by
        intro nf199
        induction nf199 with
        | zero =>
          intro x1 x2 x3 x4 x5 z0_0 z0_2 ws H locs ls hn199 r_x1 r_x2 r_x3 r_x4 r_x5 r_z0_0 m_z0_0 r_z0_2 m_z0_2 x_HD_p0_gdR x_T0_p0 x_TLM_p0_0 hn144 hw hl
          exact absurd hn199 (by have q0 := r_x5.1; have u0 := r_x5.2; omega)
        | succ nf199 ih199 =>
          intro x1 x2 x3 x4 x5 z0_0 z0_2 ws H locs ls hn199 r_x1 r_x2 r_x3 r_x4 r_x5 r_z0_0 m_z0_0 r_z0_2 m_z0_2 x_HD_p0_gdR x_T0_p0 x_TLM_p0_0 hn144 hw hl
          refine lv_iload hx hb dX10_sat_199 (lv_at hl 5 rfl) ?_
          refine lv_bipush (v := 8) hx hb dX10_sat_201 (by decide) ?_
          refine lv_icmp_ge (tgt := 233) hx hb dX10_sat_203 (by decide) (fun c_203 => ?_) (fun c_203 => ?_)
          · have r_x5 : RI x5 8 8 := rc_le2 rl_8 r_x5 (ti_le c_203) (by decide)
            obtain ⟨v_16, e_v_16⟩ : ∃ q9 : Int32, q9 = x4 + Int32.ofInt 1 := ⟨_, rfl⟩
            obtain ⟨t_v_16, r_v_16⟩ := tq_add (lo := 1) (hi := 256) r_x4 (show RI (Int32.ofInt 1) 1 1 by unfold RI; decide +kernel) (by decide +kernel) e_v_16
            have t_v_16 : v_16.toInt = x4.toInt + 1 := t_v_16
            refine lv_iinc (v := v_16) (lv' := [(4, .int v_16), (0, .ref p0), (1, .int x1), (2, .int x2), (3, .int x3), (5, .int x5)]) hx hb dX10_sat_233 hl (k := 4) rfl e_v_16.symm (by decide) rfl (fun ls hl => ?_)
            refine lv_goto (tgt := 144) hx hb dX10_sat_236 (by decide) ?_
            exact ih144 x1 x2 x3 v_16 z0_0 z0_2 ws _ _ ls (by have q0 := r_v_16.1; have u0 := r_v_16.2; have o0 := r_x4.1; have p0 := r_x4.2; omega) r_x1 r_x2 r_x3 (r_v_16.to (by decide)) r_z0_0 m_z0_0 r_z0_2 m_z0_2 x_HD_p0_gdR x_T0_p0 x_TLM_p0_0 hw (lv_sub hl [1, 2, 3, 4, 0] rfl)
          · have r_x5 : RI x5 0 7 := rc_lt1 r_x5 rl_8 (ti_nle c_203) (by decide)
            refine lv_iload hx hb dX10_sat_206 (lv_at hl 4 rfl) ?_
            refine lv_iload hx hb dX10_sat_208 (lv_at hl 5 rfl) ?_
            refine tk_ir (va_runS (As := [.int x4, .int x5]) (rest := []) ⟨hx, hb, hml, hown, hts⟩ (c_X10_has__3 l D cy z H.size Ps ws hw.1 x4 x5 r_x4 r_x5) (va_cwS 2 hts (gS tw_1402 tw_1403 tw_15 tw_1404) rfl rfl rfl (by decide +kernel) ⟨Nat.le_of_ble_eq_true rfl, Nat.le_of_ble_eq_true rfl⟩) (tg_preS hw hK hSD hA) rfl rfl hl.1 rfl (lv_room (Nat.le_of_ble_eq_true rfl)) dX10_sat_210 ⟨Nat.le_of_ble_eq_true rfl, Nat.le_of_ble_eq_true rfl⟩) hw hA (fun v_17  H locs hp_v_17 hw => ?_)
            have r_v_17 : RI v_17 0 1 := hp_v_17.1
            refine lv_if_eq (tgt := 227) hx hb dX10_sat_213 (by decide) (fun c_213 => ?_) (fun c_213 => ?_)
            · have r_v_17 : RI v_17 0 0 := rc_eq1 r_v_17 rl_0 (ti_eq c_213) (by decide)
              obtain ⟨v_18, e_v_18⟩ : ∃ q9 : Int32, q9 = x5 + Int32.ofInt 1 := ⟨_, rfl⟩
              obtain ⟨t_v_18, r_v_18⟩ := tq_add (lo := 1) (hi := 8) r_x5 (show RI (Int32.ofInt 1) 1 1 by unfold RI; decide +kernel) (by decide +kernel) e_v_18
              have t_v_18 : v_18.toInt = x5.toInt + 1 := t_v_18
              refine lv_iinc (v := v_18) (lv' := [(5, .int v_18), (0, .ref p0), (1, .int x1), (2, .int x2), (3, .int x3), (4, .int x4)]) hx hb dX10_sat_227 hl (k := 5) rfl e_v_18.symm (by decide) rfl (fun ls hl => ?_)
              refine lv_goto (tgt := 199) hx hb dX10_sat_230 (by decide) ?_
              exact ih199 x1 x2 x3 x4 v_18 z0_0 z0_2 ws _ _ ls (by have q0 := r_v_18.1; have u0 := r_v_18.2; have o0 := r_x5.1; have p0 := r_x5.2; omega) r_x1 r_x2 r_x3 r_x4 (r_v_18.to (by decide)) r_z0_0 m_z0_0 r_z0_2 m_z0_2 x_HD_p0_gdR x_T0_p0 x_TLM_p0_0 (by have q0 := r_x4.1; have u0 := r_x4.2; omega) hw (lv_sub hl [1, 2, 3, 4, 5, 0] rfl)
            · have r_v_17 : RI v_17 1 1 := rc_neL r_v_17 rl_0 (ti_ne c_213) (by decide)
              refine lv_aload_n hx hb dX10_sat_216 rfl (lv_at hl 0 rfl) ?_
              refine tg_get (ci := 10) (ts := ty_MODEL) (C := RX10) (T := TX10) (N := 49) hx hb hts inX10 hown hK hw h_p0 rfl rfl 28 (by decide) (hts _ tw_1165) (fun _ h9 => h9) (ft := vR 47) rfl dX10_sat_217 (fun u_19 hv_u_19 m_u_19 => ?_)
              obtain ⟨vu_19, rfl, h_vu_19⟩ := hv_u_19
              refine lv_iload hx hb dX10_sat_220 (lv_at hl 5 rfl) ?_
              refine lv_dup2_11 hx hb dX10_sat_222 rfl rfl ?_
              refine tg_iald (lo := (-2147483648)) (hi := 2147483647) hx hb hK hw h_vu_19 rfl 0 7 r_x5 (by decide) (by exact fun _ _ _ => ⟨Int.le_refl _, Int.le_refl _⟩) dX10_sat_223 (fun v_20 r_v_20 m_v_20 o_v_20 => ?_)
              refine lv_iconst (v := 1) hx hb dX10_sat_224 (by decide) ?_
              refine lv_iadd hx hb dX10_sat_225 (lv_topi (fun v_21 e_v_21 => ?_))
              have r_v_21 := ri_any v_21
              have hw8 := hw
              refine tg_iast hx hb hK hw h_vu_19 rfl 0 7 r_x5 (by decide) r_v_21 (by exact fun _ _ _ => by decide) (fun _ _ _ _ _ => trivial) (by decide) dX10_sat_226 (fun ws H locs hw hF9 hU9 => ?_)
              have x_HD_p0_gdR := AX.over hF9 x_HD_p0_gdR (by decide)
              have x_T0_p0 := AX.over hF9 x_T0_p0 (by decide)
              have x_TLM_p0_0 := TLM.over hF9 x_TLM_p0_0 (by decide)
              have m_z0_0 := FLD.over hF9 m_z0_0 (by decide)
              have m_z0_2 := FLD.over hF9 m_z0_2 (by decide)
              have m_u_19 := FLD.over hF9 m_u_19 (by decide)
              obtain ⟨v_22, e_v_22⟩ : ∃ q9 : Int32, q9 = x5 + Int32.ofInt 1 := ⟨_, rfl⟩
              obtain ⟨t_v_22, r_v_22⟩ := tq_add (lo := 1) (hi := 8) r_x5 (show RI (Int32.ofInt 1) 1 1 by unfold RI; decide +kernel) (by decide +kernel) e_v_22
              have t_v_22 : v_22.toInt = x5.toInt + 1 := t_v_22
              refine lv_iinc (v := v_22) (lv' := [(5, .int v_22), (0, .ref p0), (1, .int x1), (2, .int x2), (3, .int x3), (4, .int x4)]) hx hb dX10_sat_227 hl (k := 5) rfl e_v_22.symm (by decide) rfl (fun ls hl => ?_)
              refine lv_goto (tgt := 199) hx hb dX10_sat_230 (by decide) ?_
              exact ih199 x1 x2 x3 x4 v_22 z0_0 z0_2 ws _ _ ls (by have q0 := r_v_22.1; have u0 := r_v_22.2; have o0 := r_x5.1; have p0 := r_x5.2; omega) r_x1 r_x2 r_x3 r_x4 (r_v_22.to (by decide)) r_z0_0 m_z0_0 r_z0_2 m_z0_2 x_HD_p0_gdR x_T0_p0 x_TLM_p0_0 (by have q0 := r_x4.1; have u0 := r_x4.2; omega) hw (lv_sub hl [1, 2, 3, 4, 5, 0] rfl)
      intro x1 x2 x3 x4 z0_0 z0_2 ws H locs ls hn144 r_x1 r_x2 r_x3 r_x4 r_z0_0 m_z0_0 r_z0_2 m_z0_2 x_HD_p0_gdR x_T0_p0 x_TLM_p0_0 hw hl
      refine lv_iload hx hb dX10_sat_144 (lv_at hl 4 rfl) ?_
      refine lv_iconst (v := 1) hx hb dX10_sat_146 (by decide) ?_
      refine lv_aload_n hx hb dX10_sat_147 rfl (lv_at hl 0 rfl) ?_
      refine tg_get (ci := 10) (ts := ty_MODEL) (C := RX10) (T := TX10) (N := 49) hx hb hts inX10 hown hK hw h_p0 rfl rfl 14 (by decide) (hts _ tw_1151) (fun _ h9 => h9) (ft := vR 34) rfl dX10_sat_148 (fun u_23 hv_u_23 m_u_23 => ?_)
      obtain ⟨vu_23, rfl, h_vu_23⟩ := hv_u_23
      refine lv_iconst (v := 3) hx hb dX10_sat_151 (by decide) ?_
      refine tg_iald (lo := 0) (hi := 8) hx hb hK hw h_vu_23 rfl 3 3 rl_3 (by decide) (by decide +kernel) dX10_sat_152 (fun v_24 r_v_24 m_v_24 o_v_24 => ?_)
      refine lv_ishl hx hb dX10_sat_153 (lv_topi (fun v_25 e_v_25 => ?_))
      have r_v_25 : RI v_25 1 256 := by rw [e_v_25]; exact ri_shl1 (r_v_24.to (c := 0) (d := 8) (by decide)) (by decide)
      refine lv_icmp_ge (tgt := 239) hx hb dX10_sat_154 (by decide) (fun c_154 => ?_) (fun c_154 => ?_)
      · have r_x4 : RI x4 1 256 := rc_le2 r_v_25 r_x4 (ti_le c_154) (by decide)
        refine lv_iload_n hx hb dX10_sat_239 rfl (lv_at hl 2 rfl) ?_
        refine lv_if_ne (tgt := 245) hx hb dX10_sat_240 (by decide) (fun c_240 => ?_) (fun c_240 => ?_)
        · refine lv_aload_n hx hb dX10_sat_245 rfl (lv_at hl 0 rfl) ?_
          refine lv_iload_n hx hb dX10_sat_246 rfl (lv_at hl 3 rfl) ?_
          have hw8 := hw
          refine tg_put (ci := 10) (ts := ty_MODEL) (v := .int x3) (ty := .int) (C := RX10) (T := TX10) (N := 49) hx hb hts inX10 tyX10 tyX10_ok nmX10 hown hK hw h_p0 rfl rfl 29 (by decide) (hts _ tw_1166) (fun _ h9 => h9) rfl (by decide +kernel) rfl rfl (ft := vI (-2147483648) 2147483647) rfl ⟨_, rfl, (r_x3.to (by decide))⟩ (by decide) dX10_sat_247 (fun ws H locs hw n_k_26 hF9 => ?_)
          have m_v_24 := AEL.over hw8 hF9 h_vu_23 m_v_24 (by decide)
          have m_z0_0 := FLD.over hF9 m_z0_0 (by decide)
          have m_z0_2 := FLD.over hF9 m_z0_2 (by decide)
          have m_u_23 := FLD.over hF9 m_u_23 (by decide)
          have x_HD_p0_gdR := AX.over hF9 x_HD_p0_gdR (by decide)
          have x_T0_p0 := AX.over hF9 x_T0_p0 (by decide)
          have x_TLM_p0_0 := TLM.over hF9 x_TLM_p0_0 (by decide)
          refine lv_aload_n hx hb dX10_sat_250 rfl (lv_at hl 0 rfl) ?_
          refine lv_iconst (v := (-1)) hx hb dX10_sat_251 (by decide) ?_
          have hw8 := hw
          refine tg_put (ci := 10) (ts := ty_MODEL) (v := .int (-1)) (ty := .int) (C := RX10) (T := TX10) (N := 49) hx hb hts inX10 tyX10 tyX10_ok nmX10 hown hK hw h_p0 rfl rfl 30 (by decide) (hts _ tw_1167) (fun _ h9 => h9) rfl (by decide +kernel) rfl rfl (ft := vI (-1) 7) rfl ⟨_, rfl, (rl_m1.to (by decide))⟩ (by decide) dX10_sat_252 (fun ws H locs hw n_k_27 hF9 => ?_)
          have m_v_24 := AEL.over hw8 hF9 h_vu_23 m_v_24 (by decide)
          have m_z0_0 := FLD.over hF9 m_z0_0 (by decide)
          have m_z0_2 := FLD.over hF9 m_z0_2 (by decide)
          have m_u_23 := FLD.over hF9 m_u_23 (by decide)
          have n_k_26 := FLD.over hF9 n_k_26 (by decide)
          have x_HD_p0_gdR := AX.over hF9 x_HD_p0_gdR (by decide)
          have x_T0_p0 := AX.over hF9 x_T0_p0 (by decide)
          have x_TLM_p0_0 := TLM.over hF9 x_TLM_p0_0 (by decide)
          refine lv_iconst (v := 0) hx hb dX10_sat_255 (by decide) ?_
          refine lv_istore (lv' := [(4, .int 0), (0, .ref p0), (1, .int x1), (2, .int x2), (3, .int x3)]) hx hb dX10_sat_256 hl (by decide) rfl (fun ls hl => ?_)
          exact B258 4294967298 x1 x2 x3 0 z0_0 z0_2 x3 ws _ _ ls (by have q0 := rl_0.1; have u0 := rl_0.2; omega) r_x1 r_x2 r_x3 (rl_0.to (by decide)) r_z0_0 m_z0_0 r_z0_2 m_z0_2 r_x3 n_k_26 x_HD_p0_gdR x_T0_p0 x_TLM_p0_0 hw (lv_sub hl [1, 2, 3, 4, 0] rfl)
        · have r_x2 : RI x2 0 0 := rc_eq1 r_x2 rl_0 (ti_eq c_240) (by decide)
          refine lv_iconst (v := 0) hx hb dX10_sat_243 (by decide) ?_
          subst hQ
          exact W.iret (v := 0) hx hb hr (fun t ht hW => ⟨⟨0, ws, rfl, ⟨⟨x_HD_p0_gdR, rl_0.to (by decide), (fun h0 => trivial), (fun _ => trivial), ⟨x_TLM_p0_0, trivial⟩, (fun _ => trivial), (fun _ => trivial)⟩, hw.1, hw.2.2.2.2.1⟩, by rw [ht]; exact hw.2.1, va_K.moved hW.alike hK, hw.2.2.1⟩, hw.2.2.2.1.F ht⟩) hw.2.2.2.1.2.2 dX10_sat_244
      · have r_x4 : RI x4 0 255 := rc_lt1 r_x4 r_v_25 (ti_nle c_154) (by decide)
        refine lv_aload_n hx hb dX10_sat_157 rfl (lv_at hl 0 rfl) ?_
        refine lv_iload hx hb dX10_sat_158 (lv_at hl 4 rfl) ?_
        refine lv_aload_n hx hb dX10_sat_160 rfl (lv_at hl 0 rfl) ?_
        refine tg_get (ci := 10) (ts := ty_MODEL) (C := RX10) (T := TX10) (N := 49) hx hb hts inX10 hown hK hw h_p0 rfl rfl 1 (by decide) (hts _ tw_1138) (fun _ h9 => h9) (ft := vR 40) rfl dX10_sat_161 (fun u_28 hv_u_28 m_u_28 => ?_)
        obtain ⟨vu_28, rfl, h_vu_28⟩ := hv_u_28
        refine lv_iconst (v := 0) hx hb dX10_sat_164 (by decide) ?_
        refine tg_iald (lo := 0) (hi := 255) hx hb hK hw h_vu_28 rfl 0 0 rl_0 (by decide) (by exact fun _ _ _ => ⟨Int.le_refl _, Int.le_refl _⟩) dX10_sat_165 (fun v_29 r_v_29 m_v_29 o_v_29 => ?_)
        have r_v_29 : RI v_29 0 5 := by obtain ⟨f9, h9, q9, g9⟩ := AX.use hw x_T0_p0 h_vu_28 rfl m_u_28; have e9 := g9 _ _ m_v_29; have j9 : Int32.toNatClampNeg 0 = 0 := (by decide); rw [j9] at e9; rw [e9] at h9; exact ⟨r_v_29.1, h9⟩
        refine lv_aload_n hx hb dX10_sat_166 rfl (lv_at hl 0 rfl) ?_
        refine tg_mem (ci := 10) (C := RX10) (T := TX10) (N := 49) hx hb hts inX10 hown hK hw 1 m_u_28 rfl (by decide) (hts _ tw_1138) (fun _ h9 => h9) dX10_sat_167 ?_
        refine lv_iconst (v := 1) hx hb dX10_sat_170 (by decide) ?_
        refine tg_iald (lo := 0) (hi := 255) hx hb hK hw h_vu_28 rfl 1 1 rl_1 (by decide) (by exact fun _ _ _ => ⟨Int.le_refl _, Int.le_refl _⟩) dX10_sat_171 (fun v_30 r_v_30 m_v_30 o_v_30 => ?_)
        refine lv_iload_n hx hb dX10_sat_172 rfl (lv_at hl 1 rfl) ?_
        refine lv_aload_n hx hb dX10_sat_173 rfl (lv_at hl 0 rfl) ?_
        refine tg_mem (ci := 10) (C := RX10) (T := TX10) (N := 49) hx hb hts inX10 hown hK hw 1 m_u_28 rfl (by decide) (hts _ tw_1138) (fun _ h9 => h9) dX10_sat_174 ?_
        refine lv_iconst (v := 3) hx hb dX10_sat_177 (by decide) ?_
        refine tg_iald (lo := 0) (hi := 255) hx hb hK hw h_vu_28 rfl 3 3 rl_3 (by decide) (by exact fun _ _ _ => ⟨Int.le_refl _, Int.le_refl _⟩) dX10_sat_178 (fun v_31 r_v_31 m_v_31 o_v_31 => ?_)
        have hw8 := hw
        refine tk_i (va_runV (As := [.int x4, .int v_29, .int v_30, .int x1, .int v_31]) (rest := []) ⟨hx, hb, hml, hown, hts⟩ (c_X10_satSo__1 l D cy z H.size Ps ws hw.1 p0 x4 v_29 v_30 x1 v_31 (gdR) h_p0 (r_x4.to (by decide)) r_v_29 (r_v_30.to (by decide)) (r_x1.to (by decide)) (r_v_31.to (by decide)) x_HD_p0_gdR) (cwV 5 hts (gV tw_1603 tw_1605 ts_90 tw_15 tw_1606) rfl rfl rfl (by decide +kernel) ⟨Nat.le_of_ble_eq_true rfl, Nat.le_of_ble_eq_true rfl⟩) (tg_preV hw hK hSD hA (ci := 10) (q := (RX10, TX10, 49)) rfl h_p0 rfl) rfl rfl hl.1 rfl (lv_room (Nat.le_of_ble_eq_true rfl)) dX10_sat_179 ⟨Nat.le_of_ble_eq_true rfl, Nat.le_of_ble_eq_true rfl⟩) hw hA ⟨by decide, by decide⟩ (fun v_32 ws H locs hp_v_32 hw hF9 => ?_)
        have m_v_29 := AEL.over hw8 hF9 h_vu_28 m_v_29 (by decide)
        have m_v_30 := AEL.over hw8 hF9 h_vu_28 m_v_30 (by decide)
        have m_v_31 := AEL.over hw8 hF9 h_vu_28 m_v_31 (by decide)
        have m_z0_0 := FLD.over hF9 m_z0_0 (by decide)
        have m_z0_2 := FLD.over hF9 m_z0_2 (by decide)
        have m_u_23 := FLD.over hF9 m_u_23 (by decide)
        have m_u_28 := FLD.over hF9 m_u_28 (by decide)
        have x_T0_p0 := AX.over hF9 x_T0_p0 (by decide)
        have x_TLM_p0_0 := TLM.over hF9 x_TLM_p0_0 (by decide)
        obtain ⟨x_HD_p0_gdR, hp_v_32⟩ := hp_v_32
        have r_v_32 : RI v_32 0 1 := hp_v_32.1
        refine lv_if_ne (tgt := 188) hx hb dX10_sat_182 (by decide) (fun c_182 => ?_) (fun c_182 => ?_)
        · have r_v_32 : RI v_32 1 1 := rc_neL r_v_32 rl_0 (ti_ne c_182) (by decide)
          obtain ⟨v_33, e_v_33⟩ : ∃ q9 : Int32, q9 = x2 + Int32.ofInt 1 := ⟨_, rfl⟩
          have r_v_33 := ri_any v_33
          refine lv_iinc (v := v_33) (lv' := [(2, .int v_33), (0, .ref p0), (1, .int x1), (3, .int x3), (4, .int x4)]) hx hb dX10_sat_188 hl (k := 2) rfl e_v_33.symm (by decide) rfl (fun ls hl => ?_)
          refine lv_iload_n hx hb dX10_sat_191 rfl (lv_at hl 3 rfl) ?_
          refine lv_iload hx hb dX10_sat_192 (lv_at hl 4 rfl) ?_
          refine lv_iand hx hb dX10_sat_194 (lv_topi (fun v_34 e_v_34 => ?_))
          have r_v_34 : RI v_34 0 255 := by rw [e_v_34]; exact ri_and (d := 255) (r_x4.to (by decide)) (by decide)
          refine lv_istore_n (lv' := [(3, .int v_34), (2, .int v_33), (0, .ref p0), (1, .int x1), (4, .int x4)]) hx hb dX10_sat_195 rfl hl (by decide) rfl (fun ls hl => ?_)
          refine lv_iconst (v := 0) hx hb dX10_sat_196 (by decide) ?_
          refine lv_istore (lv' := [(5, .int 0), (3, .int v_34), (2, .int v_33), (0, .ref p0), (1, .int x1), (4, .int x4)]) hx hb dX10_sat_197 hl (by decide) rfl (fun ls hl => ?_)
          exact B199 4294967298 x1 v_33 v_34 x4 0 z0_0 z0_2 ws _ _ ls (by have q0 := rl_0.1; have u0 := rl_0.2; omega) r_x1 r_v_33 r_v_34 r_x4 (rl_0.to (by decide)) r_z0_0 m_z0_0 r_z0_2 m_z0_2 x_HD_p0_gdR x_T0_p0 x_TLM_p0_0 (by have q0 := r_x4.1; have u0 := r_x4.2; omega) hw (lv_sub hl [3, 4, 2, 1, 5, 0] rfl)
        · have r_v_32 : RI v_32 0 0 := rc_eq1 r_v_32 rl_0 (ti_eq c_182) (by decide)
          refine lv_goto (tgt := 233) hx hb dX10_sat_185 (by decide) ?_
          obtain ⟨v_35, e_v_35⟩ : ∃ q9 : Int32, q9 = x4 + Int32.ofInt 1 := ⟨_, rfl⟩
          obtain ⟨t_v_35, r_v_35⟩ := tq_add (lo := 1) (hi := 256) r_x4 (show RI (Int32.ofInt 1) 1 1 by unfold RI; decide +kernel) (by decide +kernel) e_v_35
          have t_v_35 : v_35.toInt = x4.toInt + 1 := t_v_35
          refine lv_iinc (v := v_35) (lv' := [(4, .int v_35), (0, .ref p0), (1, .int x1), (2, .int x2), (3, .int x3)]) hx hb dX10_sat_233 hl (k := 4) rfl e_v_35.symm (by decide) rfl (fun ls hl => ?_)
          refine lv_goto (tgt := 144) hx hb dX10_sat_236 (by decide) ?_
          exact ih144 x1 x2 x3 v_35 z0_0 z0_2 ws _ _ ls (by have q0 := r_v_35.1; have u0 := r_v_35.2; have o0 := r_x4.1; have p0 := r_x4.2; omega) r_x1 r_x2 r_x3 (r_v_35.to (by decide)) r_z0_0 m_z0_0 r_z0_2 m_z0_2 x_HD_p0_gdR x_T0_p0 x_TLM_p0_0 hw (lv_sub hl [1, 2, 3, 4, 0] rfl)
  have B120 : ∀ (nf : Nat) (x1 : Int32) (x2 : Int32) (x3 : Int32) (x4 : Int32) (z0_0 : Int32) (z0_2 : Int32) (ws : va_W) (H : Heap) (locs : List Loc) (ls : Array Slot), 8 - x4.toInt < (nf : Int) → RI x1 (-1) 5 → RI x2 0 0 → RI x3 0 255 → RI x4 0 8 → RI z0_0 0 0 → FLD ws p0 10 0 (.int z0_0) → RI z0_2 0 0 → FLD ws p0 10 2 (.int z0_2) → AX 14 34 (HDp gdR) Ps ws p0 → AX 1 40 (fun f => (f 0).toInt ≤ 5) Ps ws p0 → TLM ws p0 (0) → WD D cy GG A s wr_X10_sat__2 wa_X10_sat__2 Ps w0 Ps ws H locs → lv_has ls 6 [(0, .ref p0), (1, .int x1), (2, .int x2), (3, .int x3), (4, .int x4)] → W p l e (headSpec (Cond.code yX10_sat cX10_sat 6 (some .int) :: gT) ({ frames := 4, cells := 0, slots := 0, locals := 800 } : Room)).room s m ([.ref p0] : List Value).toArray below meth c H locs 0 0 Q (F0 m 120 ls []) := by
    intro nf120
    induction nf120 with
    | zero =>
      intro x1 x2 x3 x4 z0_0 z0_2 ws H locs ls hn120 r_x1 r_x2 r_x3 r_x4 r_z0_0 m_z0_0 r_z0_2 m_z0_2 x_HD_p0_gdR x_T0_p0 x_TLM_p0_0 hw hl
      exact absurd hn120 (by have q0 := r_x4.1; have u0 := r_x4.2; omega)
    | succ nf120 ih120 =>
      intro x1 x2 x3 x4 z0_0 z0_2 ws H locs ls hn120 r_x1 r_x2 r_x3 r_x4 r_z0_0 m_z0_0 r_z0_2 m_z0_2 x_HD_p0_gdR x_T0_p0 x_TLM_p0_0 hw hl
      refine lv_iload hx hb dX10_sat_120 (lv_at hl 4 rfl) ?_
      refine lv_bipush (v := 8) hx hb dX10_sat_122 (by decide) ?_
      refine lv_icmp_ge (tgt := 141) hx hb dX10_sat_124 (by decide) (fun c_124 => ?_) (fun c_124 => ?_)
      · have r_x4 : RI x4 8 8 := rc_le2 rl_8 r_x4 (ti_le c_124) (by decide)
        refine lv_iconst (v := 0) hx hb dX10_sat_141 (by decide) ?_
        refine lv_istore (lv' := [(4, .int 0), (0, .ref p0), (1, .int x1), (2, .int x2), (3, .int x3)]) hx hb dX10_sat_142 hl (by decide) rfl (fun ls hl => ?_)
        exact B144 4294967298 x1 x2 x3 0 z0_0 z0_2 ws _ _ ls (by have q0 := rl_0.1; have u0 := rl_0.2; omega) r_x1 (r_x2.to (by decide)) r_x3 (rl_0.to (by decide)) r_z0_0 m_z0_0 r_z0_2 m_z0_2 x_HD_p0_gdR x_T0_p0 x_TLM_p0_0 hw (lv_sub hl [1, 2, 3, 4, 0] rfl)
      · have r_x4 : RI x4 0 7 := rc_lt1 r_x4 rl_8 (ti_nle c_124) (by decide)
        refine lv_aload_n hx hb dX10_sat_127 rfl (lv_at hl 0 rfl) ?_
        refine tg_get (ci := 10) (ts := ty_MODEL) (C := RX10) (T := TX10) (N := 49) hx hb hts inX10 hown hK hw h_p0 rfl rfl 28 (by decide) (hts _ tw_1165) (fun _ h9 => h9) (ft := vR 47) rfl dX10_sat_128 (fun u_36 hv_u_36 m_u_36 => ?_)
        obtain ⟨vu_36, rfl, h_vu_36⟩ := hv_u_36
        refine lv_iload hx hb dX10_sat_131 (lv_at hl 4 rfl) ?_
        refine lv_iconst (v := 0) hx hb dX10_sat_133 (by decide) ?_
        refine tg_iast hx hb hK hw h_vu_36 rfl 0 7 r_x4 (by decide) rl_0 (by exact fun _ _ _ => by decide) (fun _ _ _ _ _ => trivial) (by decide) dX10_sat_134 (fun ws H locs hw hF9 hU9 => ?_)
        have x_HD_p0_gdR := AX.over hF9 x_HD_p0_gdR (by decide)
        have x_T0_p0 := AX.over hF9 x_T0_p0 (by decide)
        have x_TLM_p0_0 := TLM.over hF9 x_TLM_p0_0 (by decide)
        have m_z0_0 := FLD.over hF9 m_z0_0 (by decide)
        have m_z0_2 := FLD.over hF9 m_z0_2 (by decide)
        have m_u_36 := FLD.over hF9 m_u_36 (by decide)
        obtain ⟨v_37, e_v_37⟩ : ∃ q9 : Int32, q9 = x4 + Int32.ofInt 1 := ⟨_, rfl⟩
        obtain ⟨t_v_37, r_v_37⟩ := tq_add (lo := 1) (hi := 8) r_x4 (show RI (Int32.ofInt 1) 1 1 by unfold RI; decide +kernel) (by decide +kernel) e_v_37
        have t_v_37 : v_37.toInt = x4.toInt + 1 := t_v_37
        refine lv_iinc (v := v_37) (lv' := [(4, .int v_37), (0, .ref p0), (1, .int x1), (2, .int x2), (3, .int x3)]) hx hb dX10_sat_135 hl (k := 4) rfl e_v_37.symm (by decide) rfl (fun ls hl => ?_)
        refine lv_goto (tgt := 120) hx hb dX10_sat_138 (by decide) ?_
        exact ih120 x1 x2 x3 v_37 z0_0 z0_2 ws _ _ ls (by have q0 := r_v_37.1; have u0 := r_v_37.2; have o0 := r_x4.1; have p0 := r_x4.2; omega) r_x1 r_x2 r_x3 (r_v_37.to (by decide)) r_z0_0 m_z0_0 r_z0_2 m_z0_2 x_HD_p0_gdR x_T0_p0 x_TLM_p0_0 hw (lv_sub hl [1, 2, 3, 4, 0] rfl)
  have B103 : ∀ (y0 : Int32) (z0_0 : Int32) (z0_2 : Int32) (ws : va_W) (H : Heap) (locs : List Loc) (ls : Array Slot), RI y0 (-1) 5 → RI z0_0 0 0 → FLD ws p0 10 0 (.int z0_0) → RI z0_2 0 0 → FLD ws p0 10 2 (.int z0_2) → AX 14 34 (HDp gdR) Ps ws p0 → AX 1 40 (fun f => (f 0).toInt ≤ 5) Ps ws p0 → TLM ws p0 (0) → WD D cy GG A s wr_X10_sat__2 wa_X10_sat__2 Ps w0 Ps ws H locs → lv_has ls 6 [(0, .ref p0)] → W p l e (headSpec (Cond.code yX10_sat cX10_sat 6 (some .int) :: gT) ({ frames := 4, cells := 0, slots := 0, locals := 800 } : Room)).room s m ([.ref p0] : List Value).toArray below meth c H locs 0 0 Q (F0 m 103 ls [.int y0]) := by
    intro y0 z0_0 z0_2 ws H locs ls r_y0 r_z0_0 m_z0_0 r_z0_2 m_z0_2 x_HD_p0_gdR x_T0_p0 x_TLM_p0_0 hw hl
    refine lv_istore_n (lv' := [(1, .int y0), (0, .ref p0)]) hx hb dX10_sat_103 rfl hl (by decide) rfl (fun ls hl => ?_)
    refine lv_iconst (v := 0) hx hb dX10_sat_104 (by decide) ?_
    refine lv_istore_n (lv' := [(2, .int 0), (1, .int y0), (0, .ref p0)]) hx hb dX10_sat_105 rfl hl (by decide) rfl (fun ls hl => ?_)
    refine lv_iconst (v := 1) hx hb dX10_sat_106 (by decide) ?_
    refine lv_aload_n hx hb dX10_sat_107 rfl (lv_at hl 2 rfl) ?_
    refine tg_get (ci := 10) (ts := ty_MODEL) (C := RX10) (T := TX10) (N := 49) hx hb hts inX10 hown hK hw h_p0 rfl rfl 14 (by decide) (hts _ tw_1151) (fun _ h9 => h9) (ft := vR 34) rfl dX10_sat_108 (fun u_38 hv_u_38 m_u_38 => ?_)
    obtain ⟨vu_38, rfl, h_vu_38⟩ := hv_u_38
    refine lv_iconst (v := 3) hx hb dX10_sat_111 (by decide) ?_
    refine tg_iald (lo := 0) (hi := 8) hx hb hK hw h_vu_38 rfl 3 3 rl_3 (by decide) (by decide +kernel) dX10_sat_112 (fun v_39 r_v_39 m_v_39 o_v_39 => ?_)
    refine lv_ishl hx hb dX10_sat_113 (lv_topi (fun v_40 e_v_40 => ?_))
    have r_v_40 : RI v_40 1 256 := by rw [e_v_40]; exact ri_shl1 (r_v_39.to (c := 0) (d := 8) (by decide)) (by decide)
    refine lv_iconst (v := 1) hx hb dX10_sat_114 (by decide) ?_
    refine lv_isub hx hb dX10_sat_115 (lv_topi (fun v_41 e_v_41 => ?_))
    obtain ⟨t_v_41, r_v_41⟩ := tq_sub (lo := 0) (hi := 255) r_v_40 rl_1 (by decide +kernel) e_v_41
    have t_v_41 : v_41.toInt = v_40.toInt - 1 := t_v_41
    refine lv_istore_n (lv' := [(3, .int v_41), (2, .int 0), (1, .int y0), (0, .ref p0)]) hx hb dX10_sat_116 rfl hl (by decide) rfl (fun ls hl => ?_)
    refine lv_iconst (v := 0) hx hb dX10_sat_117 (by decide) ?_
    refine lv_istore (lv' := [(4, .int 0), (3, .int v_41), (2, .int 0), (1, .int y0), (0, .ref p0)]) hx hb dX10_sat_118 hl (by decide) rfl (fun ls hl => ?_)
    exact B120 4294967298 y0 0 v_41 0 z0_0 z0_2 ws _ _ ls (by have q0 := rl_0.1; have u0 := rl_0.2; omega) r_y0 rl_0 r_v_41 (rl_0.to (by decide)) r_z0_0 m_z0_0 r_z0_2 m_z0_2 x_HD_p0_gdR x_T0_p0 x_TLM_p0_0 hw (lv_sub hl [4, 3, 2, 1, 0] rfl)
  refine lv_aload_n hx hb dX10_sat_0 rfl (lv_at hl 0 rfl) ?_
  refine lv_iconst (v := 0) hx hb dX10_sat_1 (by decide) ?_
  refine tg_put (ci := 10) (ts := ty_MODEL) (v := .int 0) (ty := .int) (C := RX10) (T := TX10) (N := 49) hx hb hts inX10 tyX10 tyX10_ok nmX10 hown hK hw h_p0 rfl rfl 0 (by decide) (hts _ tw_1137) (fun _ h9 => h9) rfl (by decide +kernel) rfl rfl (ft := vI (-2147483648) 2147483647) rfl ⟨_, rfl, (rl_0.to (by decide))⟩ (by decide) dX10_sat_2 (fun ws H locs hw n_k_42 hF9 => ?_)
  have x_HD_p0_gdR := AX.over hF9 x_HD_p0_gdR (by decide)
  refine lv_aload_n hx hb dX10_sat_5 rfl (lv_at hl 0 rfl) ?_
  refine tk_i (va_runV (As := []) (rest := []) ⟨hx, hb, hml, hown, hts⟩ (c_X10_take__3 l D cy z H.size Ps ws hw.1 p0 h_p0) (cwV 0 hts (gV tw_1294 tw_1296 ts_39 tw_15 tw_1297) rfl rfl rfl (by decide +kernel) ⟨Nat.le_of_ble_eq_true rfl, Nat.le_of_ble_eq_true rfl⟩) (tg_preV hw hK hSD hA (ci := 10) (q := (RX10, TX10, 49)) rfl h_p0 rfl) rfl rfl hl.1 rfl (lv_room (Nat.le_of_ble_eq_true rfl)) dX10_sat_6 ⟨Nat.le_of_ble_eq_true rfl, Nat.le_of_ble_eq_true rfl⟩) hw hA ⟨by decide, by decide⟩ (fun v_43 ws H locs hp_v_43 hw hF9 => ?_)
  have n_k_42 := FLD.over hF9 n_k_42 (by decide)
  have x_HD_p0_gdR := AX.over hF9 x_HD_p0_gdR (by decide)
  have r_v_43 : RI v_43 0 940 := hp_v_43.1
  by_cases c9_v_43 : v_43 = 0
  · have r_v_43 : RI v_43 0 0 := by rw [c9_v_43]; exact rl_0
    obtain ⟨v_44, m_v_44, r_v_44⟩ := ((hp_v_43.2.1 c9_v_43).1)
    have x_TLM_p0_0 := ((hp_v_43.2.1 c9_v_43).2.1)
    refine lv_iconst (v := 4) hx hb dX10_sat_9 (by decide) ?_
    refine lv_icmp_ne (tgt := 79) hx hb dX10_sat_10 (by decide) (fun c_10 => ?_) (fun c_10 => ?_)
    · refine lv_iconst (v := (-1)) hx hb dX10_sat_79 (by decide) ?_
      subst hQ
      exact W.iret (v := (-1)) hx hb hr (fun t ht hW => ⟨⟨(-1), ws, rfl, ⟨⟨x_HD_p0_gdR, rl_m1.to (by decide), (fun _ => trivial), (fun h0 => trivial), ⟨x_TLM_p0_0, trivial⟩, (fun _ => trivial), (fun _ => trivial)⟩, hw.1, hw.2.2.2.2.1⟩, by rw [ht]; exact hw.2.1, va_K.moved hW.alike hK, hw.2.2.1⟩, hw.2.2.2.1.F ht⟩) hw.2.2.2.1.2.2 dX10_sat_80
    · have r_v_43 : RI v_43 4 0 := rc_eq1 r_v_43 rl_4 (ti_eq c_10) (by decide)
      exact (r_v_43.no (by decide)).elim
  · have r_v_43 : RI v_43 1 940 := rc_neL r_v_43 rl_0 (ti_ne c9_v_43) (by decide)
    obtain ⟨v_45, m_v_45, r_v_45⟩ := ((hp_v_43.2.2 c9_v_43).1)
    have x_TLM_p0_0 := ((hp_v_43.2.2 c9_v_43).2.1)
    refine lv_iconst (v := 4) hx hb dX10_sat_9 (by decide) ?_
    refine lv_icmp_ne (tgt := 79) hx hb dX10_sat_10 (by decide) (fun c_10 => ?_) (fun c_10 => ?_)
    · refine lv_iconst (v := (-1)) hx hb dX10_sat_79 (by decide) ?_
      subst hQ
      exact W.iret (v := (-1)) hx hb hr (fun t ht hW => ⟨⟨(-1), ws, rfl, ⟨⟨x_HD_p0_gdR, rl_m1.to (by decide), (fun _ => trivial), (fun h0 => trivial), ⟨x_TLM_p0_0, trivial⟩, (fun _ => trivial), (fun _ => trivial)⟩, hw.1, hw.2.2.2.2.1⟩, by rw [ht]; exact hw.2.1, va_K.moved hW.alike hK, hw.2.2.1⟩, hw.2.2.2.1.F ht⟩) hw.2.2.2.1.2.2 dX10_sat_80
    · have r_v_43 : RI v_43 4 4 := rc_eq1 r_v_43 rl_4 (ti_eq c_10) (by decide)
      refine lv_aload_n hx hb dX10_sat_13 rfl (lv_at hl 0 rfl) ?_
      refine lv_aload_n hx hb dX10_sat_14 rfl (lv_at hl 0 rfl) ?_
      refine tg_get (ci := 10) (ts := ty_MODEL) (C := RX10) (T := TX10) (N := 49) hx hb hts inX10 hown hK hw h_p0 rfl rfl 1 (by decide) (hts _ tw_1138) (fun _ h9 => h9) (ft := vR 40) rfl dX10_sat_15 (fun u_46 hv_u_46 m_u_46 => ?_)
      obtain ⟨vu_46, rfl, h_vu_46⟩ := hv_u_46
      refine lv_iconst (v := 0) hx hb dX10_sat_18 (by decide) ?_
      refine tg_iald (lo := 0) (hi := 255) hx hb hK hw h_vu_46 rfl 0 0 rl_0 (by decide) (by exact fun _ _ _ => ⟨Int.le_refl _, Int.le_refl _⟩) dX10_sat_19 (fun v_47 r_v_47 m_v_47 o_v_47 => ?_)
      refine tk_ir (va_runV (As := [.int v_47]) (rest := []) ⟨hx, hb, hml, hown, hts⟩ (c_X10_isParcel l D cy z H.size Ps ws hw.1 p0 v_47 h_p0 (r_v_47.to (by decide))) (cwV 1 hts (gV tw_1429 tw_1431 ts_65 tw_15 tw_1432) rfl rfl rfl (by decide +kernel) ⟨Nat.le_of_ble_eq_true rfl, Nat.le_of_ble_eq_true rfl⟩) (tg_preV hw hK hSD hA (ci := 10) (q := (RX10, TX10, 49)) rfl h_p0 rfl) rfl rfl hl.1 rfl (lv_room (Nat.le_of_ble_eq_true rfl)) dX10_sat_20 ⟨Nat.le_of_ble_eq_true rfl, Nat.le_of_ble_eq_true rfl⟩) hw hA (fun v_48  H locs hp_v_48 hw => ?_)
      have r_v_48 : RI v_48 0 1 := hp_v_48.1
      refine lv_if_eq (tgt := 79) hx hb dX10_sat_23 (by decide) (fun c_23 => ?_) (fun c_23 => ?_)
      · have r_v_48 : RI v_48 0 0 := rc_eq1 r_v_48 rl_0 (ti_eq c_23) (by decide)
        refine lv_iconst (v := (-1)) hx hb dX10_sat_79 (by decide) ?_
        subst hQ
        exact W.iret (v := (-1)) hx hb hr (fun t ht hW => ⟨⟨(-1), ws, rfl, ⟨⟨x_HD_p0_gdR, rl_m1.to (by decide), (fun _ => trivial), (fun h0 => trivial), ⟨x_TLM_p0_0, trivial⟩, (fun _ => trivial), (fun _ => trivial)⟩, hw.1, hw.2.2.2.2.1⟩, by rw [ht]; exact hw.2.1, va_K.moved hW.alike hK, hw.2.2.1⟩, hw.2.2.2.1.F ht⟩) hw.2.2.2.1.2.2 dX10_sat_80
      · have r_v_48 : RI v_48 1 1 := rc_neL r_v_48 rl_0 (ti_ne c_23) (by decide)
        have r_v_47 : RI v_47 0 5 := ((hp_v_48.2.2 c_23).1)
        refine lv_aload_n hx hb dX10_sat_26 rfl (lv_at hl 0 rfl) ?_
        refine tg_mem (ci := 10) (C := RX10) (T := TX10) (N := 49) hx hb hts inX10 hown hK hw 1 m_u_46 rfl (by decide) (hts _ tw_1138) (fun _ h9 => h9) dX10_sat_27 ?_
        refine lv_iconst (v := 1) hx hb dX10_sat_30 (by decide) ?_
        refine tg_iald (lo := 0) (hi := 255) hx hb hK hw h_vu_46 rfl 1 1 rl_1 (by decide) (by exact fun _ _ _ => ⟨Int.le_refl _, Int.le_refl _⟩) dX10_sat_31 (fun v_49 r_v_49 m_v_49 o_v_49 => ?_)
        refine lv_iconst (v := 1) hx hb dX10_sat_32 (by decide) ?_
        refine lv_bipush (v := 30) hx hb dX10_sat_33 (by decide) ?_
        refine tk_ir (va_runS (As := [.int v_49, .int 1, .int 30]) (rest := []) ⟨hx, hb, hml, hown, hts⟩ (c_X10_isIn__11 l D cy z H.size Ps ws hw.1 v_49 1 30 r_v_49 rl_1 rl_30) (va_cwS 3 hts (gS tw_1359 tw_1360 tw_15 tw_1361) rfl rfl rfl (by decide +kernel) ⟨Nat.le_of_ble_eq_true rfl, Nat.le_of_ble_eq_true rfl⟩) (tg_preS hw hK hSD hA) rfl rfl hl.1 rfl (lv_room (Nat.le_of_ble_eq_true rfl)) dX10_sat_35 ⟨Nat.le_of_ble_eq_true rfl, Nat.le_of_ble_eq_true rfl⟩) hw hA (fun v_50  H locs hp_v_50 hw => ?_)
        have r_v_50 : RI v_50 0 1 := hp_v_50.1
        refine lv_if_eq (tgt := 79) hx hb dX10_sat_38 (by decide) (fun c_38 => ?_) (fun c_38 => ?_)
        · have r_v_50 : RI v_50 0 0 := rc_eq1 r_v_50 rl_0 (ti_eq c_38) (by decide)
          refine lv_iconst (v := (-1)) hx hb dX10_sat_79 (by decide) ?_
          subst hQ
          exact W.iret (v := (-1)) hx hb hr (fun t ht hW => ⟨⟨(-1), ws, rfl, ⟨⟨x_HD_p0_gdR, rl_m1.to (by decide), (fun _ => trivial), (fun h0 => trivial), ⟨x_TLM_p0_0, trivial⟩, (fun _ => trivial), (fun _ => trivial)⟩, hw.1, hw.2.2.2.2.1⟩, by rw [ht]; exact hw.2.1, va_K.moved hW.alike hK, hw.2.2.1⟩, hw.2.2.2.1.F ht⟩) hw.2.2.2.1.2.2 dX10_sat_80
        · have r_v_50 : RI v_50 1 1 := rc_neL r_v_50 rl_0 (ti_ne c_38) (by decide)
          have r_v_49 : RI v_49 1 30 := ((hp_v_50.2.2 c_38).1)
          refine lv_aload_n hx hb dX10_sat_41 rfl (lv_at hl 0 rfl) ?_
          refine tg_mem (ci := 10) (C := RX10) (T := TX10) (N := 49) hx hb hts inX10 hown hK hw 1 m_u_46 rfl (by decide) (hts _ tw_1138) (fun _ h9 => h9) dX10_sat_42 ?_
          refine lv_iconst (v := 2) hx hb dX10_sat_45 (by decide) ?_
          refine tg_iald (lo := 0) (hi := 255) hx hb hK hw h_vu_46 rfl 2 2 rl_2 (by decide) (by exact fun _ _ _ => ⟨Int.le_refl _, Int.le_refl _⟩) dX10_sat_46 (fun v_51 r_v_51 m_v_51 o_v_51 => ?_)
          refine lv_sipush (v := 255) hx hb dX10_sat_47 (by decide) ?_
          refine lv_icmp_eq (tgt := 66) hx hb dX10_sat_50 (by decide) (fun c_50 => ?_) (fun c_50 => ?_)
          · have r_v_51 : RI v_51 255 255 := rc_eq1 r_v_51 rl_255 (ti_eq c_50) (by decide)
            refine lv_aload_n hx hb dX10_sat_66 rfl (lv_at hl 0 rfl) ?_
            refine lv_aload_n hx hb dX10_sat_67 rfl (lv_at hl 0 rfl) ?_
            refine tg_mem (ci := 10) (C := RX10) (T := TX10) (N := 49) hx hb hts inX10 hown hK hw 1 m_u_46 rfl (by decide) (hts _ tw_1138) (fun _ h9 => h9) dX10_sat_68 ?_
            refine lv_iconst (v := 0) hx hb dX10_sat_71 (by decide) ?_
            refine tg_imem hx hb hK hw h_vu_46 rfl rl_0 (by decide) m_v_47 dX10_sat_72 ?_
            refine tk_ir (va_runV (As := [.int v_47]) (rest := []) ⟨hx, hb, hml, hown, hts⟩ (c_X10_isOpen l D cy z H.size Ps ws hw.1 p0 v_47 h_p0 (r_v_47.to (by decide))) (cwV 1 hts (gV tw_1457 tw_1459 ts_71 tw_15 tw_1460) rfl rfl rfl (by decide +kernel) ⟨Nat.le_of_ble_eq_true rfl, Nat.le_of_ble_eq_true rfl⟩) (tg_preV hw hK hSD hA (ci := 10) (q := (RX10, TX10, 49)) rfl h_p0 rfl) rfl rfl hl.1 rfl (lv_room (Nat.le_of_ble_eq_true rfl)) dX10_sat_73 ⟨Nat.le_of_ble_eq_true rfl, Nat.le_of_ble_eq_true rfl⟩) hw hA (fun v_53  H locs hp_v_53 hw => ?_)
            have r_v_53 : RI v_53 0 1 := hp_v_53.1
            refine lv_if_eq (tgt := 81) hx hb dX10_sat_76 (by decide) (fun c_76 => ?_) (fun c_76 => ?_)
            · have r_v_53 : RI v_53 0 0 := rc_eq1 r_v_53 rl_0 (ti_eq c_76) (by decide)
              have x_T0_p0 : AX 1 40 (fun f => (f 0).toInt ≤ 5) Ps ws p0 := AX.mk hw h_vu_46 rfl m_u_46 (fun f9 g9 _ => by have e9 := g9 _ _ m_v_47; have j9 : Int32.toNatClampNeg 0 = 0 := (by decide); rw [j9] at e9; show _; rw [e9]; exact r_v_47.2)
              refine lv_aload_n hx hb dX10_sat_81 rfl (lv_at hl 0 rfl) ?_
              refine tg_mem (ci := 10) (C := RX10) (T := TX10) (N := 49) hx hb hts inX10 hown hK hw 1 m_u_46 rfl (by decide) (hts _ tw_1138) (fun _ h9 => h9) dX10_sat_82 ?_
              refine lv_iconst (v := 2) hx hb dX10_sat_85 (by decide) ?_
              refine tg_imem hx hb hK hw h_vu_46 rfl rl_2 (by decide) m_v_51 dX10_sat_86 ?_
              refine lv_sipush (v := 255) hx hb dX10_sat_87 (by decide) ?_
              refine lv_icmp_ne (tgt := 97) hx hb dX10_sat_90 (by decide) (fun c_90 => ?_) (fun c_90 => ?_)
              · exact absurd (r_v_51.eq.trans rl_255.eq.symm) ((ti_ne c_90))
              · refine lv_iconst (v := (-1)) hx hb dX10_sat_93 (by decide) ?_
                refine lv_goto (tgt := 103) hx hb dX10_sat_94 (by decide) ?_
                exact B103 (-1) 0 v_45 ws _ _ ls (rl_m1.to (by decide)) rl_0 n_k_42 r_v_45 m_v_45 x_HD_p0_gdR x_T0_p0 x_TLM_p0_0 hw hl
            · have r_v_53 : RI v_53 1 1 := rc_neL r_v_53 rl_0 (ti_ne c_76) (by decide)
              refine lv_iconst (v := (-1)) hx hb dX10_sat_79 (by decide) ?_
              subst hQ
              exact W.iret (v := (-1)) hx hb hr (fun t ht hW => ⟨⟨(-1), ws, rfl, ⟨⟨x_HD_p0_gdR, rl_m1.to (by decide), (fun _ => trivial), (fun h0 => trivial), ⟨x_TLM_p0_0, trivial⟩, (fun _ => trivial), (fun _ => trivial)⟩, hw.1, hw.2.2.2.2.1⟩, by rw [ht]; exact hw.2.1, va_K.moved hW.alike hK, hw.2.2.1⟩, hw.2.2.2.1.F ht⟩) hw.2.2.2.1.2.2 dX10_sat_80
          · have r_v_51 : RI v_51 0 254 := rc_neU r_v_51 rl_255 (ti_ne c_50) (by decide)
            refine lv_aload_n hx hb dX10_sat_53 rfl (lv_at hl 0 rfl) ?_
            refine lv_aload_n hx hb dX10_sat_54 rfl (lv_at hl 0 rfl) ?_
            refine tg_mem (ci := 10) (C := RX10) (T := TX10) (N := 49) hx hb hts inX10 hown hK hw 1 m_u_46 rfl (by decide) (hts _ tw_1138) (fun _ h9 => h9) dX10_sat_55 ?_
            refine lv_iconst (v := 2) hx hb dX10_sat_58 (by decide) ?_
            refine tg_imem hx hb hK hw h_vu_46 rfl rl_2 (by decide) m_v_51 dX10_sat_59 ?_
            refine tk_ir (va_runV (As := [.int v_51]) (rest := []) ⟨hx, hb, hml, hown, hts⟩ (c_X10_isIdea l D cy z H.size Ps ws hw.1 p0 v_51 h_p0 (r_v_51.to (by decide))) (cwV 1 hts (gV tw_1433 tw_1435 ts_66 tw_15 tw_1436) rfl rfl rfl (by decide +kernel) ⟨Nat.le_of_ble_eq_true rfl, Nat.le_of_ble_eq_true rfl⟩) (tg_preV hw hK hSD hA (ci := 10) (q := (RX10, TX10, 49)) rfl h_p0 rfl) rfl rfl hl.1 rfl (lv_room (Nat.le_of_ble_eq_true rfl)) dX10_sat_60 ⟨Nat.le_of_ble_eq_true rfl, Nat.le_of_ble_eq_true rfl⟩) hw hA (fun v_56  H locs hp_v_56 hw => ?_)
            have r_v_56 : RI v_56 0 1 := hp_v_56.1
            refine lv_if_eq (tgt := 79) hx hb dX10_sat_63 (by decide) (fun c_63 => ?_) (fun c_63 => ?_)
            · have r_v_56 : RI v_56 0 0 := rc_eq1 r_v_56 rl_0 (ti_eq c_63) (by decide)
              refine lv_iconst (v := (-1)) hx hb dX10_sat_79 (by decide) ?_
              subst hQ
              exact W.iret (v := (-1)) hx hb hr (fun t ht hW => ⟨⟨(-1), ws, rfl, ⟨⟨x_HD_p0_gdR, rl_m1.to (by decide), (fun _ => trivial), (fun h0 => trivial), ⟨x_TLM_p0_0, trivial⟩, (fun _ => trivial), (fun _ => trivial)⟩, hw.1, hw.2.2.2.2.1⟩, by rw [ht]; exact hw.2.1, va_K.moved hW.alike hK, hw.2.2.1⟩, hw.2.2.2.1.F ht⟩) hw.2.2.2.1.2.2 dX10_sat_80
            · have r_v_56 : RI v_56 1 1 := rc_neL r_v_56 rl_0 (ti_ne c_63) (by decide)
              have r_v_51 : RI v_51 0 5 := ((hp_v_56.2.2 c_63).1)
              refine lv_aload_n hx hb dX10_sat_66 rfl (lv_at hl 0 rfl) ?_
              refine lv_aload_n hx hb dX10_sat_67 rfl (lv_at hl 0 rfl) ?_
              refine tg_mem (ci := 10) (C := RX10) (T := TX10) (N := 49) hx hb hts inX10 hown hK hw 1 m_u_46 rfl (by decide) (hts _ tw_1138) (fun _ h9 => h9) dX10_sat_68 ?_
              refine lv_iconst (v := 0) hx hb dX10_sat_71 (by decide) ?_
              refine tg_imem hx hb hK hw h_vu_46 rfl rl_0 (by decide) m_v_47 dX10_sat_72 ?_
              refine tk_ir (va_runV (As := [.int v_47]) (rest := []) ⟨hx, hb, hml, hown, hts⟩ (c_X10_isOpen l D cy z H.size Ps ws hw.1 p0 v_47 h_p0 (r_v_47.to (by decide))) (cwV 1 hts (gV tw_1457 tw_1459 ts_71 tw_15 tw_1460) rfl rfl rfl (by decide +kernel) ⟨Nat.le_of_ble_eq_true rfl, Nat.le_of_ble_eq_true rfl⟩) (tg_preV hw hK hSD hA (ci := 10) (q := (RX10, TX10, 49)) rfl h_p0 rfl) rfl rfl hl.1 rfl (lv_room (Nat.le_of_ble_eq_true rfl)) dX10_sat_73 ⟨Nat.le_of_ble_eq_true rfl, Nat.le_of_ble_eq_true rfl⟩) hw hA (fun v_58  H locs hp_v_58 hw => ?_)
              have r_v_58 : RI v_58 0 1 := hp_v_58.1
              refine lv_if_eq (tgt := 81) hx hb dX10_sat_76 (by decide) (fun c_76 => ?_) (fun c_76 => ?_)
              · have r_v_58 : RI v_58 0 0 := rc_eq1 r_v_58 rl_0 (ti_eq c_76) (by decide)
                have x_T0_p0 : AX 1 40 (fun f => (f 0).toInt ≤ 5) Ps ws p0 := AX.mk hw h_vu_46 rfl m_u_46 (fun f9 g9 _ => by have e9 := g9 _ _ m_v_47; have j9 : Int32.toNatClampNeg 0 = 0 := (by decide); rw [j9] at e9; show _; rw [e9]; exact r_v_47.2)
                refine lv_aload_n hx hb dX10_sat_81 rfl (lv_at hl 0 rfl) ?_
                refine tg_mem (ci := 10) (C := RX10) (T := TX10) (N := 49) hx hb hts inX10 hown hK hw 1 m_u_46 rfl (by decide) (hts _ tw_1138) (fun _ h9 => h9) dX10_sat_82 ?_
                refine lv_iconst (v := 2) hx hb dX10_sat_85 (by decide) ?_
                refine tg_imem hx hb hK hw h_vu_46 rfl rl_2 (by decide) m_v_51 dX10_sat_86 ?_
                refine lv_sipush (v := 255) hx hb dX10_sat_87 (by decide) ?_
                refine lv_icmp_ne (tgt := 97) hx hb dX10_sat_90 (by decide) (fun c_90 => ?_) (fun c_90 => ?_)
                · refine lv_aload_n hx hb dX10_sat_97 rfl (lv_at hl 0 rfl) ?_
                  refine tg_mem (ci := 10) (C := RX10) (T := TX10) (N := 49) hx hb hts inX10 hown hK hw 1 m_u_46 rfl (by decide) (hts _ tw_1138) (fun _ h9 => h9) dX10_sat_98 ?_
                  refine lv_iconst (v := 2) hx hb dX10_sat_101 (by decide) ?_
                  refine tg_imem hx hb hK hw h_vu_46 rfl rl_2 (by decide) m_v_51 dX10_sat_102 ?_
                  exact B103 v_51 0 v_45 ws _ _ ls (r_v_51.to (by decide)) rl_0 n_k_42 r_v_45 m_v_45 x_HD_p0_gdR x_T0_p0 x_TLM_p0_0 hw hl
                · have r_v_51 : RI v_51 255 5 := rc_eq1 r_v_51 rl_255 (ti_eq c_90) (by decide)
                  exact (r_v_51.no (by decide)).elim
              · have r_v_58 : RI v_58 1 1 := rc_neL r_v_58 rl_0 (ti_ne c_76) (by decide)
                refine lv_iconst (v := (-1)) hx hb dX10_sat_79 (by decide) ?_
                subst hQ
                exact W.iret (v := (-1)) hx hb hr (fun t ht hW => ⟨⟨(-1), ws, rfl, ⟨⟨x_HD_p0_gdR, rl_m1.to (by decide), (fun _ => trivial), (fun h0 => trivial), ⟨x_TLM_p0_0, trivial⟩, (fun _ => trivial), (fun _ => trivial)⟩, hw.1, hw.2.2.2.2.1⟩, by rw [ht]; exact hw.2.1, va_K.moved hW.alike hK, hw.2.2.1⟩, hw.2.2.2.1.F ht⟩) hw.2.2.2.1.2.2 dX10_sat_80
abbrev wr_X10_sentence__2 : List (Nat × Nat) := [(10, 0), (10, 2), (10, 3), (10, 4), (10, 5), (10, 6), (10, 7), (10, 8), (10, 9), (10, 10), (10, 11), (10, 12), (10, 13), (10, 45), (10, 46), (10, 47), (10, 48)]
abbrev wa_X10_sentence__2 : List Nat := [34, 54]
set_option maxHeartbeats 4000000 in
set_option maxRecDepth 100000 in
theorem c_X10_sentence__2 (l : Launch) (D : va_G) (cy : Nat → ClassId) (z : Nat → Nat) (sz : Nat) (Ps : PSI) (w0 : va_W) (hT : HT cy GG Ps w0) (p0 : Nat) (gdR : Nat → Int32) (h_p0 : (p0, 55) ∈ Ps) (x_HD_p0_gdR : AX 14 34 (HDp gdR) Ps w0 p0) : Met l yX10_sentence (Cond.code yX10_sentence cX10_sentence 2 (some .int) :: gT) ({ frames := 39, cells := 0, slots := 0, locals := 7800 } : Room) (va_Pc [.ref p0] (PRE D cy z w0 sz)) (va_Qi (fun (r : Int32) (u : va_W) => ((AX 14 34 (HDp gdR) Ps u p0) ∧ (RI r (-2147483648) 2147483647 ∧ (r = 0 → True) ∧ (¬ r = 0 → True) ∧ (TLM u p0 (0) ∧ True) ∧ (r.toInt < 0 → True) ∧ (0 ≤ r.toInt → True))) ∧ HT cy GG Ps u ∧ FR wr_X10_sentence__2 wa_X10_sentence__2 Ps w0 u) (BB D cy (va_A w0 sz) (fun (u : va_W) => u)) (va_A w0 sz)) 0 0 (va_A w0 sz) := by
  refine Met.ofW (cc := cX10_sentence) (maxL := 2) (ret := (some .int)) (by decide) rfl ?_
  intro p e s m args below meth c s₁ B hml hv
  obtain ⟨rfl, hsz, hP, hK, hD0, hSD⟩ := hv
  have hx := B.exec
  have hb := B.bytes
  have hr := B.returns
  have hlocks := B.notSynchronized
  have hts : ∀ w ∈ gT, w.before _ s = true := fun w h => atoms_spec (ws := Cond.code yX10_sentence cX10_sentence 2 (some .int) :: gT) B.pre w (List.mem_cons_of_mem _ h)
  have hown : s.vm.findClass RX10 = some m.cls := findClass_of_methodNamed B.named
  subst hsz
  have hD := hD0.self (sz := s.heap.size)
  generalize hAe : va_A w0 s.heap.size = A at hD hSD ⊢
  have hA : ∀ q : Nat, s.heap.size ≤ q → A q := fun q h => by rw [← hAe]; exact Or.inr h
  have hl := lv_entry ([.ref p0]) (n := 2) (Nat.le_of_ble_eq_true rfl)
  rw [lg_entry_eq]
  generalize (lg_sl ([.ref p0]) ++ List.replicate (2 - (lg_sl ([.ref p0])).length) Slot.unset).toArray = ls at hl ⊢
  have hl : lv_has ls 2 [(0, .ref p0)] := hl
  refine nameQ (fun Q hQ => ?_)
  have hw : WD D cy GG A s wr_X10_sentence__2 wa_X10_sentence__2 Ps w0 Ps w0 s.heap [] := ⟨hT, hP, hD, va_S.rf, FR.rf, hT.1, [], (List.append_nil _).symm⟩
  have B79 : ∀ (nf : Nat) (x1 : Int32) (z0_2 : Int32) (z0_7 : Int32) (z0_46 : Int32) (z0_47 : Int32) (z0_48 : Int32) (za14 : Nat) (za44 : Nat) (ws : va_W) (H : Heap) (locs : List Loc) (ls : Array Slot), 240 - x1.toInt < (nf : Int) → RI x1 0 240 → RI z0_2 0 0 → FLD ws p0 10 2 (.int z0_2) → RI z0_7 0 0 → FLD ws p0 10 7 (.int z0_7) → RI z0_46 1 20 → FLD ws p0 10 46 (.int z0_46) → RI z0_47 0 0 → FLD ws p0 10 47 (.int z0_47) → RI z0_48 0 39 → FLD ws p0 10 48 (.int z0_48) → AX 14 34 (HDp gdR) Ps ws p0 → SNT ws p0 (1) (1) (0) → TLM ws p0 (0) → (za14, 34) ∈ Ps → FLD ws p0 10 14 (.ref za14) → (za44, 54) ∈ Ps → FLD ws p0 10 44 (.ref za44) → AX2 14 34 44 54 (fun f g => CNp x1 f g) Ps ws p0 → WD D cy (GX za14) A s wr_X10_sentence__2 wa_X10_sentence__2 Ps w0 Ps ws H locs → lv_has ls 2 [(0, .ref p0), (1, .int x1)] → W p l e (headSpec (Cond.code yX10_sentence cX10_sentence 2 (some .int) :: gT) ({ frames := 39, cells := 0, slots := 0, locals := 7800 } : Room)).room s m ([.ref p0] : List Value).toArray below meth c H locs 0 0 Q (F0 m 79 ls []) := by
    intro nf79
    induction nf79 with
    | zero =>
      intro x1 z0_2 z0_7 z0_46 z0_47 z0_48 za14 za44 ws H locs ls hn79 r_x1 r_z0_2 m_z0_2 r_z0_7 m_z0_7 r_z0_46 m_z0_46 r_z0_47 m_z0_47 r_z0_48 m_z0_48 x_HD_p0_gdR x_SNT_p0_1_1_0 x_TLM_p0_0 h_za14 m_za14 h_za44 m_za44 x_CSE_p0__1 hw hl
      exact absurd hn79 (by have q0 := r_x1.1; have u0 := r_x1.2; omega)
    | succ nf79 ih79 =>
      intro x1 z0_2 z0_7 z0_46 z0_47 z0_48 za14 za44 ws H locs ls hn79 r_x1 r_z0_2 m_z0_2 r_z0_7 m_z0_7 r_z0_46 m_z0_46 r_z0_47 m_z0_47 r_z0_48 m_z0_48 x_HD_p0_gdR x_SNT_p0_1_1_0 x_TLM_p0_0 h_za14 m_za14 h_za44 m_za44 x_CSE_p0__1 hw hl
      refine lv_iload_n hx hb dX10_sentence_79 rfl (lv_at hl 1 rfl) ?_
      refine lv_sipush (v := 240) hx hb dX10_sentence_80 (by decide) ?_
      refine lv_icmp_ge (tgt := 108) hx hb dX10_sentence_83 (by decide) (fun c_83 => ?_) (fun c_83 => ?_)
      · have r_x1 : RI x1 240 240 := rc_le2 rl_240 r_x1 (ti_le c_83) (by decide)
        have hw := WD.back hw h_za14 rfl (fun f9 q9 => by obtain ⟨g9, e9⟩ := AX2.arr hw x_CSE_p0__1 m_za14 f9 q9; exact CN_end e9 (r_x1.to (by decide)))
        refine lv_aload_n hx hb dX10_sentence_108 rfl (lv_at hl 0 rfl) ?_
        refine tg_mem (ci := 10) (C := RX10) (T := TX10) (N := 49) hx hb hts inX10 hown hK hw 46 m_z0_46 rfl (by decide) (hts _ tw_1183) (fun _ h9 => h9) dX10_sentence_109 ?_
        subst hQ
        exact W.iret (v := z0_46) hx hb hr (fun t ht hW => ⟨⟨z0_46, ws, rfl, ⟨⟨x_HD_p0_gdR, r_z0_46.to (by decide), (fun _ => trivial), (fun h0 => trivial), ⟨x_TLM_p0_0, trivial⟩, (fun _ => trivial), (fun _ => trivial)⟩, hw.1, hw.2.2.2.2.1⟩, by rw [ht]; exact hw.2.1, va_K.moved hW.alike hK, hw.2.2.1⟩, hw.2.2.2.1.F ht⟩) hw.2.2.2.1.2.2 dX10_sentence_112
      · have r_x1 : RI x1 0 239 := rc_lt1 r_x1 rl_240 (ti_nle c_83) (by decide)
        refine lv_aload_n hx hb dX10_sentence_86 rfl (lv_at hl 0 rfl) ?_
        refine tg_mem (ci := 10) (C := RX10) (T := TX10) (N := 49) hx hb hts inX10 hown hK hw 14 m_za14 rfl (by decide) (hts _ tw_1151) (fun _ h9 => h9) dX10_sentence_87 ?_
        refine lv_sipush (v := 174) hx hb dX10_sentence_90 (by decide) ?_
        refine lv_iload_n hx hb dX10_sentence_93 rfl (lv_at hl 1 rfl) ?_
        refine lv_iadd hx hb dX10_sentence_94 (lv_topi (fun v_1 e_v_1 => ?_))
        obtain ⟨t_v_1, r_v_1⟩ := tq_add (lo := 174) (hi := 413) rl_174 r_x1 (by decide +kernel) e_v_1
        have t_v_1 : v_1.toInt = 174 + x1.toInt := t_v_1
        refine lv_aload_n hx hb dX10_sentence_95 rfl (lv_at hl 0 rfl) ?_
        refine tg_mem (ci := 10) (C := RX10) (T := TX10) (N := 49) hx hb hts inX10 hown hK hw 44 m_za44 rfl (by decide) (hts _ tw_1181) (fun _ h9 => h9) dX10_sentence_96 ?_
        refine lv_iload_n hx hb dX10_sentence_99 rfl (lv_at hl 1 rfl) ?_
        refine tg_iald (lo := (-2147483648)) (hi := 2147483647) hx hb hK hw h_za44 rfl 0 239 r_x1 (by decide) (by exact fun _ _ _ => ⟨Int.le_refl _, Int.le_refl _⟩) dX10_sentence_100 (fun v_2 r_v_2 m_v_2 o_v_2 => ?_)
        have x_CSEV_p0_x1_x1_v_2 : AX2 14 34 44 54 (fun f g => CNp x1 f g ∧ g (Int32.toNatClampNeg x1) = v_2) Ps ws p0 := AX2.el hw x_CSE_p0__1 m_za44 m_v_2
        have hw8 := hw
        refine tg_iast hx hb hK hw h_za14 rfl 174 413 r_v_1 (by decide) r_v_2 (by decide +kernel) (fun _ _ _ _ _ => Or.inl rfl) (by decide) dX10_sentence_101 (fun ws H locs hw hF9 hU9 => ?_)
        have x_HD_p0_gdR : AX 14 34 (HDp gdR) Ps ws p0 := AX.ast hF9 hU9 x_HD_p0_gdR m_za14 (fun f9 h9 => HDp.upd h9 (by have k1 := r_v_1.cl (by decide); have k2 := r_v_1.1; omega))
        have x_CSET_p0_x1 : AX2 14 34 44 54 (fun f g => ∀ k9 : Int32, k9.toInt = Int32.toInt x1 + 1 → CNp  k9 f g) Ps ws p0 := AX2.ast hF9 hU9 x_CSEV_p0_x1_x1_v_2 m_za14 (by decide) (fun f9 g9 h9 => fun k9 e9 => CN_step h9 (r_x1.to (by decide)) rfl e9 (by have k1 := t_v_1; omega))
        have m_v_2 := AEL.over hw8 hF9 h_za44 m_v_2 (by decide)
        have x_SNT_p0_1_1_0 := SNT.over hF9 x_SNT_p0_1_1_0 (by decide)
        have x_TLM_p0_0 := TLM.over hF9 x_TLM_p0_0 (by decide)
        have m_z0_2 := FLD.over hF9 m_z0_2 (by decide)
        have m_z0_7 := FLD.over hF9 m_z0_7 (by decide)
        have m_z0_46 := FLD.over hF9 m_z0_46 (by decide)
        have m_z0_47 := FLD.over hF9 m_z0_47 (by decide)
        have m_z0_48 := FLD.over hF9 m_z0_48 (by decide)
        have m_za14 := FLD.over hF9 m_za14 (by decide)
        have m_za44 := FLD.over hF9 m_za44 (by decide)
        obtain ⟨v_3, e_v_3⟩ : ∃ q9 : Int32, q9 = x1 + Int32.ofInt 1 := ⟨_, rfl⟩
        obtain ⟨t_v_3, r_v_3⟩ := tq_add (lo := 1) (hi := 240) r_x1 (show RI (Int32.ofInt 1) 1 1 by unfold RI; decide +kernel) (by decide +kernel) e_v_3
        have t_v_3 : v_3.toInt = x1.toInt + 1 := t_v_3
        refine lv_iinc (v := v_3) (lv' := [(1, .int v_3), (0, .ref p0)]) hx hb dX10_sentence_102 hl (k := 1) rfl e_v_3.symm (by decide) rfl (fun ls hl => ?_)
        refine lv_goto (tgt := 79) hx hb dX10_sentence_105 (by decide) ?_
        have x_CSE_p0_v_3 : AX2 14 34 44 54 (fun f g => CNp v_3 f g) Ps ws p0 := AX2.imp x_CSET_p0_x1 (fun f9 g9 h9 => h9 _ t_v_3)
        exact ih79 v_3 z0_2 z0_7 z0_46 z0_47 z0_48 za14 za44 ws _ _ ls (by have q0 := r_v_3.1; have u0 := r_v_3.2; have o0 := r_x1.1; have p0 := r_x1.2; omega) (r_v_3.to (by decide)) r_z0_2 m_z0_2 r_z0_7 m_z0_7 r_z0_46 m_z0_46 r_z0_47 m_z0_47 r_z0_48 m_z0_48 x_HD_p0_gdR x_SNT_p0_1_1_0 x_TLM_p0_0 h_za14 m_za14 h_za44 m_za44 x_CSE_p0_v_3 hw (lv_sub hl [1, 0] rfl)
  refine lv_aload_n hx hb dX10_sentence_0 rfl (lv_at hl 0 rfl) ?_
  refine lv_sipush (v := 200) hx hb dX10_sentence_1 (by decide) ?_
  refine tk_v (va_runV (As := [.int 200]) (rest := []) ⟨hx, hb, hml, hown, hts⟩ (c_X10_begin__7 l D cy z s.heap.size Ps w0 hw.1 p0 200 h_p0 rl_200) (cwV 1 hts (gV tw_1290 tw_1292 ts_38 tw_15 tw_1293) rfl rfl rfl (by decide +kernel) ⟨Nat.le_of_ble_eq_true rfl, Nat.le_of_ble_eq_true rfl⟩) (tg_preV hw hK hSD hA (ci := 10) (q := (RX10, TX10, 49)) rfl h_p0 rfl) rfl rfl hl.1 rfl (lv_room (Nat.le_of_ble_eq_true rfl)) dX10_sentence_4 ⟨Nat.le_of_ble_eq_true rfl, Nat.le_of_ble_eq_true rfl⟩) hw hA ⟨by decide, by decide⟩ (fun ws H locs hp_v_4 hw hF9 => ?_)
  have x_HD_p0_gdR := AX.over hF9 x_HD_p0_gdR (by decide)
  obtain ⟨v_5, m_v_5, r_v_5⟩ := (hp_v_4.1)
  have x_TLM_p0_0 := (hp_v_4.2.1)
  have x_TLM_p0_0 : TLM ws p0 (0) := by obtain ⟨v9, a9, b9⟩ := x_TLM_p0_0; exact ⟨v9, a9, (by omega)⟩
  refine lv_aload_n hx hb dX10_sentence_7 rfl (lv_at hl 0 rfl) ?_
  refine lv_iconst (v := 0) hx hb dX10_sentence_8 (by decide) ?_
  refine tg_put (ci := 10) (ts := ty_MODEL) (v := .int 0) (ty := .int) (C := RX10) (T := TX10) (N := 49) hx hb hts inX10 tyX10 tyX10_ok nmX10 hown hK hw h_p0 rfl rfl 45 (by decide) (hts _ tw_1182) (fun _ h9 => h9) rfl (by decide +kernel) rfl rfl (ft := vI (-2147483648) 2147483647) rfl ⟨_, rfl, (rl_0.to (by decide))⟩ (by decide) dX10_sentence_9 (fun ws H locs hw n_k_6 hF9 => ?_)
  have m_v_5 := FLD.over hF9 m_v_5 (by decide)
  have x_HD_p0_gdR := AX.over hF9 x_HD_p0_gdR (by decide)
  have x_TLM_p0_0 := TLM.over hF9 x_TLM_p0_0 (by decide)
  refine lv_aload_n hx hb dX10_sentence_12 rfl (lv_at hl 0 rfl) ?_
  refine lv_iconst (v := 0) hx hb dX10_sentence_13 (by decide) ?_
  refine tg_put (ci := 10) (ts := ty_MODEL) (v := .int 0) (ty := .int) (C := RX10) (T := TX10) (N := 49) hx hb hts inX10 tyX10 tyX10_ok nmX10 hown hK hw h_p0 rfl rfl 46 (by decide) (hts _ tw_1183) (fun _ h9 => h9) rfl (by decide +kernel) rfl rfl (ft := vI (-2147483648) 2147483647) rfl ⟨_, rfl, (rl_0.to (by decide))⟩ (by decide) dX10_sentence_14 (fun ws H locs hw n_k_7 hF9 => ?_)
  have m_v_5 := FLD.over hF9 m_v_5 (by decide)
  have n_k_6 := FLD.over hF9 n_k_6 (by decide)
  have x_HD_p0_gdR := AX.over hF9 x_HD_p0_gdR (by decide)
  have x_TLM_p0_0 := TLM.over hF9 x_TLM_p0_0 (by decide)
  refine lv_aload_n hx hb dX10_sentence_17 rfl (lv_at hl 0 rfl) ?_
  refine lv_iconst (v := 0) hx hb dX10_sentence_18 (by decide) ?_
  refine tg_put (ci := 10) (ts := ty_MODEL) (v := .int 0) (ty := .int) (C := RX10) (T := TX10) (N := 49) hx hb hts inX10 tyX10 tyX10_ok nmX10 hown hK hw h_p0 rfl rfl 47 (by decide) (hts _ tw_1184) (fun _ h9 => h9) rfl (by decide +kernel) rfl rfl (ft := vI (-2147483648) 2147483647) rfl ⟨_, rfl, (rl_0.to (by decide))⟩ (by decide) dX10_sentence_19 (fun ws H locs hw n_k_8 hF9 => ?_)
  have m_v_5 := FLD.over hF9 m_v_5 (by decide)
  have n_k_6 := FLD.over hF9 n_k_6 (by decide)
  have n_k_7 := FLD.over hF9 n_k_7 (by decide)
  have x_HD_p0_gdR := AX.over hF9 x_HD_p0_gdR (by decide)
  have x_TLM_p0_0 := TLM.over hF9 x_TLM_p0_0 (by decide)
  refine lv_aload_n hx hb dX10_sentence_22 rfl (lv_at hl 0 rfl) ?_
  have x_SN_p0_0_0_0 : SNp ws p0 (0) (0) (0) := ⟨0, 0, n_k_6, n_k_7, by decide⟩
  refine tk_i (va_runV (As := []) (rest := []) ⟨hx, hb, hml, hown, hts⟩ (c_X10_readOr l D cy z H.size Ps ws hw.1 p0 0 (0) (0) (0) h_p0 rl_0 n_k_8 x_SN_p0_0_0_0) (cwV 0 hts (gV tw_1751 tw_1753 ts_111 tw_15 tw_1754) rfl rfl rfl (by decide +kernel) ⟨Nat.le_of_ble_eq_true rfl, Nat.le_of_ble_eq_true rfl⟩) (tg_preV hw hK hSD hA (ci := 10) (q := (RX10, TX10, 49)) rfl h_p0 rfl) rfl rfl hl.1 rfl (lv_room (Nat.le_of_ble_eq_true rfl)) dX10_sentence_23 ⟨Nat.le_of_ble_eq_true rfl, Nat.le_of_ble_eq_true rfl⟩) hw hA ⟨by decide, by decide⟩ (fun v_9 ws H locs hp_v_9 hw hF9 => ?_)
  have m_v_5 := FLD.over hF9 m_v_5 (by decide)
  have x_HD_p0_gdR := AX.over hF9 x_HD_p0_gdR (by decide)
  have x_TLM_p0_0 := TLM.over hF9 x_TLM_p0_0 (by decide)
  have r_v_9 : RI v_9 0 1 := hp_v_9.1
  by_cases c9_v_9 : v_9 = 0
  · have r_v_9 : RI v_9 0 0 := by rw [c9_v_9]; exact rl_0
    obtain ⟨v_10, m_v_10, r_v_10⟩ := ((hp_v_9.2.1 c9_v_9).1)
    refine lv_if_ne (tgt := 36) hx hb dX10_sentence_26 (by decide) (fun c_26 => ?_) (fun c_26 => ?_)
    · exact absurd (r_v_9.eq.trans rl_0.eq.symm) ((ti_ne c_26))
    · refine lv_iconst (v := (-1)) hx hb dX10_sentence_29 (by decide) ?_
      refine lv_aload_n hx hb dX10_sentence_30 rfl (lv_at hl 0 rfl) ?_
      refine tg_get (ci := 10) (ts := ty_MODEL) (C := RX10) (T := TX10) (N := 49) hx hb hts inX10 hown hK hw h_p0 rfl rfl 11 (by decide) (hts _ tw_1148) (fun _ h9 => h9) (ft := vI (-2147483648) 2147483647) rfl dX10_sentence_31 (fun u_11 hv_u_11 m_u_11 => ?_)
      obtain ⟨vu_11, rfl, r_vu_11⟩ := hv_u_11
      refine lv_isub hx hb dX10_sentence_34 (lv_topi (fun v_12 e_v_12 => ?_))
      obtain ⟨t_v_12, r_v_12⟩ := tq_sub (lo := (-2147483648)) (hi := 2147483647) rl_m1 r_vu_11 (by decide +kernel) e_v_12
      have t_v_12 : v_12.toInt = (-1) - vu_11.toInt := t_v_12
      subst hQ
      exact W.iret (v := v_12) hx hb hr (fun t ht hW => ⟨⟨v_12, ws, rfl, ⟨⟨x_HD_p0_gdR, r_v_12.to (by decide), (fun h0 => trivial), (fun h0 => trivial), ⟨x_TLM_p0_0, trivial⟩, (fun _ => trivial), (fun _ => trivial)⟩, hw.1, hw.2.2.2.2.1⟩, by rw [ht]; exact hw.2.1, va_K.moved hW.alike hK, hw.2.2.1⟩, hw.2.2.2.1.F ht⟩) hw.2.2.2.1.2.2 dX10_sentence_35
  · have r_v_9 : RI v_9 1 1 := rc_neL r_v_9 rl_0 (ti_ne c9_v_9) (by decide)
    obtain ⟨v_13, m_v_13, r_v_13⟩ := ((hp_v_9.2.2 c9_v_9).1)
    obtain ⟨v_14, m_v_14, r_v_14⟩ := ((hp_v_9.2.2 c9_v_9).2.1)
    obtain ⟨v_15, m_v_15, r_v_15⟩ := ((hp_v_9.2.2 c9_v_9).2.2.1)
    have x_SNT_p0_1_1_0 := ((hp_v_9.2.2 c9_v_9).2.2.2.1)
    refine lv_if_ne (tgt := 36) hx hb dX10_sentence_26 (by decide) (fun c_26 => ?_) (fun c_26 => ?_)
    · refine lv_aload_n hx hb dX10_sentence_36 rfl (lv_at hl 0 rfl) ?_
      refine tg_get (ci := 10) (ts := ty_MODEL) (C := RX10) (T := TX10) (N := 49) hx hb hts inX10 hown hK hw h_p0 rfl rfl 7 (by decide) (hts _ tw_1144) (fun _ h9 => h9) (ft := vI (-2147483648) 2147483647) rfl dX10_sentence_37 (fun u_16 hv_u_16 m_u_16 => ?_)
      obtain ⟨vu_16, rfl, r_vu_16⟩ := hv_u_16
      refine lv_if_eq (tgt := 56) hx hb dX10_sentence_40 (by decide) (fun c_40 => ?_) (fun c_40 => ?_)
      · have r_vu_16 : RI vu_16 0 0 := rc_eq1 r_vu_16 rl_0 (ti_eq c_40) (by decide)
        refine lv_aload_n hx hb dX10_sentence_56 rfl (lv_at hl 0 rfl) ?_
        refine tg_get (ci := 10) (ts := ty_MODEL) (C := RX10) (T := TX10) (N := 49) hx hb hts inX10 hown hK hw h_p0 rfl rfl 14 (by decide) (hts _ tw_1151) (fun _ h9 => h9) (ft := vR 34) rfl dX10_sentence_57 (fun u_17 hv_u_17 m_u_17 => ?_)
        obtain ⟨vu_17, rfl, h_vu_17⟩ := hv_u_17
        refine lv_sipush (v := 172) hx hb dX10_sentence_60 (by decide) ?_
        refine lv_iconst (v := 1) hx hb dX10_sentence_63 (by decide) ?_
        refine tg_iast hx hb hK hw h_vu_17 rfl 172 172 rl_172 (by decide) rl_1 (by decide +kernel) (RN_upd (by decide) (by decide)) (by decide) dX10_sentence_64 (fun ws H locs hw hF9 hU9 => ?_)
        have x_HD_p0_gdR : AX 14 34 (HDp gdR) Ps ws p0 := AX.ast hF9 hU9 x_HD_p0_gdR m_u_17 (fun f9 h9 => HDp.upd h9 (by have k1 := rl_172.cl (by decide); have k2 := rl_172.1; omega))
        have x_TLM_p0_0 := TLM.over hF9 x_TLM_p0_0 (by decide)
        have x_SNT_p0_1_1_0 := SNT.over hF9 x_SNT_p0_1_1_0 (by decide)
        have m_v_5 := FLD.over hF9 m_v_5 (by decide)
        have m_v_13 := FLD.over hF9 m_v_13 (by decide)
        have m_v_14 := FLD.over hF9 m_v_14 (by decide)
        have m_v_15 := FLD.over hF9 m_v_15 (by decide)
        have m_u_16 := FLD.over hF9 m_u_16 (by decide)
        have m_u_17 := FLD.over hF9 m_u_17 (by decide)
        refine lv_aload_n hx hb dX10_sentence_65 rfl (lv_at hl 0 rfl) ?_
        refine tg_mem (ci := 10) (C := RX10) (T := TX10) (N := 49) hx hb hts inX10 hown hK hw 14 m_u_17 rfl (by decide) (hts _ tw_1151) (fun _ h9 => h9) dX10_sentence_66 ?_
        refine lv_sipush (v := 173) hx hb dX10_sentence_69 (by decide) ?_
        refine lv_aload_n hx hb dX10_sentence_72 rfl (lv_at hl 0 rfl) ?_
        refine tg_mem (ci := 10) (C := RX10) (T := TX10) (N := 49) hx hb hts inX10 hown hK hw 48 m_v_15 rfl (by decide) (hts _ tw_1185) (fun _ h9 => h9) dX10_sentence_73 ?_
        have r_v_15 : RI v_15 0 39 := SNL.rng (SNT.top hw x_SNT_p0_1_1_0 m_v_15) (by decide)
        refine tg_iast hx hb hK hw h_vu_17 rfl 173 173 rl_173 (by decide) r_v_15 (by decide +kernel) (RN_upd (by decide) (by decide)) (by decide) dX10_sentence_76 (fun ws H locs hw hF9 hU9 => ?_)
        have x_HD_p0_gdR : AX 14 34 (HDp gdR) Ps ws p0 := AX.ast hF9 hU9 x_HD_p0_gdR m_u_17 (fun f9 h9 => HDp.upd h9 (by have k1 := rl_173.cl (by decide); have k2 := rl_173.1; omega))
        have x_TLM_p0_0 := TLM.over hF9 x_TLM_p0_0 (by decide)
        have x_SNT_p0_1_1_0 := SNT.over hF9 x_SNT_p0_1_1_0 (by decide)
        have m_v_5 := FLD.over hF9 m_v_5 (by decide)
        have m_v_13 := FLD.over hF9 m_v_13 (by decide)
        have m_v_14 := FLD.over hF9 m_v_14 (by decide)
        have m_v_15 := FLD.over hF9 m_v_15 (by decide)
        have m_u_16 := FLD.over hF9 m_u_16 (by decide)
        have m_u_17 := FLD.over hF9 m_u_17 (by decide)
        refine lv_iconst (v := 0) hx hb dX10_sentence_77 (by decide) ?_
        refine lv_istore_n (lv' := [(1, .int 0), (0, .ref p0)]) hx hb dX10_sentence_78 rfl hl (by decide) rfl (fun ls hl => ?_)
        obtain ⟨b_18, m_b_18, h_b_18⟩ := tg_fldR (k := 44) (ci := 10) (ts := ty_MODEL) (u := 54) hw h_p0 rfl rfl
        have x_CSE_p0_0 : AX2 14 34 44 54 (fun f g => CNp 0 f g) Ps ws p0 := AX2.imp (AX.two (ax_of (k := 14) (t := 34) hw h_p0 rfl (fun _ => rfl)) (ax_of (k := 44) (t := 54) hw h_p0 rfl (fun _ => rfl))) (fun f9 g9 h9 => ⟨h9.1.1.1, h9.2.1, fun j9 q9 => absurd q9 (by rw [Int32.toInt_zero]; omega)⟩)
        have hw := WD.weak vu_17 hw
        exact B79 4294967298 0 v_5 vu_16 v_13 v_14 v_15 vu_17 b_18 ws _ _ ls (by have q0 := rl_0.1; have u0 := rl_0.2; omega) (rl_0.to (by decide)) r_v_5 m_v_5 r_vu_16 m_u_16 r_v_13 m_v_13 r_v_14 m_v_14 r_v_15 m_v_15 x_HD_p0_gdR x_SNT_p0_1_1_0 x_TLM_p0_0 h_vu_17 m_u_17 h_b_18 m_b_18 x_CSE_p0_0 hw (lv_sub hl [1, 0] rfl)
      · refine lv_aload_n hx hb dX10_sentence_43 rfl (lv_at hl 0 rfl) ?_
        refine lv_iconst (v := 1) hx hb dX10_sentence_44 (by decide) ?_
        refine tk_i (va_runV (As := [.int 1]) (rest := []) ⟨hx, hb, hml, hown, hts⟩ (c_X10_bad l D cy z H.size Ps ws hw.1 p0 1 h_p0 (rl_1.to (by decide))) (cwV 1 hts (gV tw_1336 tw_1338 ts_46 tw_15 tw_1339) rfl rfl rfl (by decide +kernel) ⟨Nat.le_of_ble_eq_true rfl, Nat.le_of_ble_eq_true rfl⟩) (tg_preV hw hK hSD hA (ci := 10) (q := (RX10, TX10, 49)) rfl h_p0 rfl) rfl rfl hl.1 rfl (lv_room (Nat.le_of_ble_eq_true rfl)) dX10_sentence_45 ⟨Nat.le_of_ble_eq_true rfl, Nat.le_of_ble_eq_true rfl⟩) hw hA ⟨by decide, by decide⟩ (fun v_19 ws H locs hp_v_19 hw hF9 => ?_)
        have m_v_5 := FLD.over hF9 m_v_5 (by decide)
        have m_v_13 := FLD.over hF9 m_v_13 (by decide)
        have m_v_14 := FLD.over hF9 m_v_14 (by decide)
        have m_v_15 := FLD.over hF9 m_v_15 (by decide)
        have m_u_16 := FLD.over hF9 m_u_16 (by decide)
        have x_HD_p0_gdR := AX.over hF9 x_HD_p0_gdR (by decide)
        have x_TLM_p0_0 := TLM.over hF9 x_TLM_p0_0 (by decide)
        have x_SNT_p0_1_1_0 := SNT.over hF9 x_SNT_p0_1_1_0 (by decide)
        have r_v_19 : RI v_19 0 0 := hp_v_19.1
        refine lv_pop hx hb dX10_sentence_48 rfl ?_
        refine lv_iconst (v := (-1)) hx hb dX10_sentence_49 (by decide) ?_
        refine lv_aload_n hx hb dX10_sentence_50 rfl (lv_at hl 0 rfl) ?_
        refine tg_get (ci := 10) (ts := ty_MODEL) (C := RX10) (T := TX10) (N := 49) hx hb hts inX10 hown hK hw h_p0 rfl rfl 11 (by decide) (hts _ tw_1148) (fun _ h9 => h9) (ft := vI (-2147483648) 2147483647) rfl dX10_sentence_51 (fun u_20 hv_u_20 m_u_20 => ?_)
        obtain ⟨vu_20, rfl, r_vu_20⟩ := hv_u_20
        refine lv_isub hx hb dX10_sentence_54 (lv_topi (fun v_21 e_v_21 => ?_))
        obtain ⟨t_v_21, r_v_21⟩ := tq_sub (lo := (-2147483648)) (hi := 2147483647) rl_m1 r_vu_20 (by decide +kernel) e_v_21
        have t_v_21 : v_21.toInt = (-1) - vu_20.toInt := t_v_21
        subst hQ
        exact W.iret (v := v_21) hx hb hr (fun t ht hW => ⟨⟨v_21, ws, rfl, ⟨⟨x_HD_p0_gdR, r_v_21.to (by decide), (fun h0 => trivial), (fun h0 => trivial), ⟨x_TLM_p0_0, trivial⟩, (fun _ => trivial), (fun _ => trivial)⟩, hw.1, hw.2.2.2.2.1⟩, by rw [ht]; exact hw.2.1, va_K.moved hW.alike hK, hw.2.2.1⟩, hw.2.2.2.1.F ht⟩) hw.2.2.2.1.2.2 dX10_sentence_55
    · have r_v_9 : RI v_9 1 0 := rc_eq1 r_v_9 rl_0 (ti_eq c_26) (by decide)
      exact (r_v_9.no (by decide)).elim
abbrev wr_X10_act__9 : List (Nat × Nat) := [(10, 25)]
abbrev wa_X10_act__9 : List Nat := [34, 37]
set_option maxHeartbeats 4000000 in
set_option maxRecDepth 100000 in
theorem c_X10_act__9 (l : Launch) (D : va_G) (cy : Nat → ClassId) (z : Nat → Nat) (sz : Nat) (Ps : PSI) (w0 : va_W) (hT : HT cy GG Ps w0) (p0 : Nat) (p1 : Int32) (p2 : Int32) (p3 : Int32) (gdR : Nat → Int32) (h_p0 : (p0, 55) ∈ Ps) (r_p1 : RI p1 0 0) (r_p2 : RI p2 0 7) (r_p3 : RI p3 0 5) (x_HD_p0_gdR : AX 14 34 (HDp gdR) Ps w0 p0) : Met l yX10_act (Cond.code yX10_act cX10_act 5 (some .int) :: gT) ({ frames := 2, cells := 0, slots := 0, locals := 400 } : Room) (va_Pc [.ref p0, .int p1, .int p2, .int p3] (PRE D cy z w0 sz)) (va_Qi (fun (r : Int32) (u : va_W) => ((AX 14 34 (HDp gdR) Ps u p0) ∧ (RI r 0 1 ∧ (r = 0 → (∃ v9 : Int32, FLD u p0 10 25 (.int v9) ∧ RI v9 1 8) ∧ True) ∧ (¬ r = 0 → True))) ∧ HT cy GG Ps u ∧ FR wr_X10_act__9 wa_X10_act__9 Ps w0 u) (BB D cy (va_A w0 sz) (fun (u : va_W) => u)) (va_A w0 sz)) 0 0 (va_A w0 sz) := by
  refine Met.ofW (cc := cX10_act) (maxL := 5) (ret := (some .int)) (by decide) rfl ?_
  intro p e s m args below meth c s₁ B hml hv
  obtain ⟨rfl, hsz, hP, hK, hD0, hSD⟩ := hv
  have hx := B.exec
  have hb := B.bytes
  have hr := B.returns
  have hlocks := B.notSynchronized
  have hts : ∀ w ∈ gT, w.before _ s = true := fun w h => atoms_spec (ws := Cond.code yX10_act cX10_act 5 (some .int) :: gT) B.pre w (List.mem_cons_of_mem _ h)
  have hown : s.vm.findClass RX10 = some m.cls := findClass_of_methodNamed B.named
  subst hsz
  have hD := hD0.self (sz := s.heap.size)
  generalize hAe : va_A w0 s.heap.size = A at hD hSD ⊢
  have hA : ∀ q : Nat, s.heap.size ≤ q → A q := fun q h => by rw [← hAe]; exact Or.inr h
  have hl := lv_entry ([.ref p0, .int p1, .int p2, .int p3]) (n := 5) (Nat.le_of_ble_eq_true rfl)
  rw [lg_entry_eq]
  generalize (lg_sl ([.ref p0, .int p1, .int p2, .int p3]) ++ List.replicate (5 - (lg_sl ([.ref p0, .int p1, .int p2, .int p3])).length) Slot.unset).toArray = ls at hl ⊢
  have hl : lv_has ls 5 [(0, .ref p0), (1, .int p1), (2, .int p2), (3, .int p3)] := hl
  refine nameQ (fun Q hQ => ?_)
  have hw : WD D cy GG A s wr_X10_act__9 wa_X10_act__9 Ps w0 Ps w0 s.heap [] := ⟨hT, hP, hD, va_S.rf, FR.rf, hT.1, [], (List.append_nil _).symm⟩
  refine lv_aload_n hx hb dX10_act_0 rfl (lv_at hl 0 rfl) ?_
  refine lv_iload_n hx hb dX10_act_1 rfl (lv_at hl 1 rfl) ?_
  refine lv_iload_n hx hb dX10_act_2 rfl (lv_at hl 2 rfl) ?_
  refine lv_iload_n hx hb dX10_act_3 rfl (lv_at hl 3 rfl) ?_
  refine tk_ir (va_runV (As := [.int p1, .int p2, .int p3]) (rest := []) ⟨hx, hb, hml, hown, hts⟩ (c_X10_why__3 l D cy z s.heap.size Ps w0 hw.1 p0 p1 p2 p3 h_p0 r_p1 r_p2 r_p3) (cwV 3 hts (gV tw_1501 tw_1503 ts_77 tw_15 tw_1504) rfl rfl rfl (by decide +kernel) ⟨Nat.le_of_ble_eq_true rfl, Nat.le_of_ble_eq_true rfl⟩) (tg_preV hw hK hSD hA (ci := 10) (q := (RX10, TX10, 49)) rfl h_p0 rfl) rfl rfl hl.1 rfl (lv_room (Nat.le_of_ble_eq_true rfl)) dX10_act_4 ⟨Nat.le_of_ble_eq_true rfl, Nat.le_of_ble_eq_true rfl⟩) hw hA (fun v_1  H locs hp_v_1 hw => ?_)
  have r_v_1 : RI v_1 0 1 := hp_v_1.1
  refine lv_istore (lv' := [(4, .int v_1), (0, .ref p0), (1, .int p1), (2, .int p2), (3, .int p3)]) hx hb dX10_act_7 hl (by decide) rfl (fun ls hl => ?_)
  refine lv_iload hx hb dX10_act_9 (lv_at hl 0 rfl) ?_
  refine lv_if_eq (tgt := 17) hx hb dX10_act_11 (by decide) (fun c_11 => ?_) (fun c_11 => ?_)
  · have r_v_1 : RI v_1 0 0 := rc_eq1 r_v_1 rl_0 (ti_eq c_11) (by decide)
    refine lv_aload_n hx hb dX10_act_17 rfl (lv_at hl 1 rfl) ?_
    refine tk_v (va_runV (As := []) (rest := []) ⟨hx, hb, hml, hown, hts⟩ (c_X10_snap l D cy z H.size Ps w0 hw.1 p0 h_p0) (cwV 0 hts (gV tw_1505 tw_1507 ts_78 tw_15 tw_1508) rfl rfl rfl (by decide +kernel) ⟨Nat.le_of_ble_eq_true rfl, Nat.le_of_ble_eq_true rfl⟩) (tg_preV hw hK hSD hA (ci := 10) (q := (RX10, TX10, 49)) rfl h_p0 rfl) rfl rfl hl.1 rfl (lv_room (Nat.le_of_ble_eq_true rfl)) dX10_act_18 ⟨Nat.le_of_ble_eq_true rfl, Nat.le_of_ble_eq_true rfl⟩) hw hA ⟨by decide, by decide⟩ (fun ws H locs hp_v_2 hw hF9 => ?_)
    have x_HD_p0_gdR := AX.over hF9 x_HD_p0_gdR (by decide)
    obtain ⟨v_3, m_v_3, r_v_3⟩ := (hp_v_2.1)
    refine lv_aload_n hx hb dX10_act_21 rfl (lv_at hl 1 rfl) ?_
    refine lv_iload_n hx hb dX10_act_22 rfl (lv_at hl 2 rfl) ?_
    refine lv_iload_n hx hb dX10_act_23 rfl (lv_at hl 3 rfl) ?_
    refine lv_iload_n hx hb dX10_act_24 rfl (lv_at hl 4 rfl) ?_
    refine tk_v (va_runV (As := [.int p1, .int p2, .int p3]) (rest := []) ⟨hx, hb, hml, hown, hts⟩ (c_X10_live__9 l D cy z H.size Ps ws hw.1 p0 p1 p2 p3 (gdR) h_p0 r_p1 r_p2 r_p3 x_HD_p0_gdR) (cwV 3 hts (gV tw_1509 tw_1511 ts_79 tw_15 tw_1512) rfl rfl rfl (by decide +kernel) ⟨Nat.le_of_ble_eq_true rfl, Nat.le_of_ble_eq_true rfl⟩) (tg_preV hw hK hSD hA (ci := 10) (q := (RX10, TX10, 49)) rfl h_p0 rfl) rfl rfl hl.1 rfl (lv_room (Nat.le_of_ble_eq_true rfl)) dX10_act_25 ⟨Nat.le_of_ble_eq_true rfl, Nat.le_of_ble_eq_true rfl⟩) hw hA ⟨by decide, by decide⟩ (fun ws H locs hp_v_4 hw hF9 => ?_)
    have m_v_3 := FLD.over hF9 m_v_3 (by decide)
    obtain ⟨x_HD_p0_gdR, hp_v_4⟩ := hp_v_4
    refine lv_iconst (v := 0) hx hb dX10_act_28 (by decide) ?_
    subst hQ
    exact W.iret (v := 0) hx hb hr (fun t ht hW => ⟨⟨0, ws, rfl, ⟨⟨x_HD_p0_gdR, rl_0.to (by decide), (fun h0 => ⟨⟨_, m_v_3, r_v_3⟩, trivial⟩), (fun _ => trivial)⟩, hw.1, hw.2.2.2.2.1⟩, by rw [ht]; exact hw.2.1, va_K.moved hW.alike hK, hw.2.2.1⟩, hw.2.2.2.1.F ht⟩) hw.2.2.2.1.2.2 dX10_act_29
  · have r_v_1 : RI v_1 1 1 := rc_neL r_v_1 rl_0 (ti_ne c_11) (by decide)
    refine lv_iload hx hb dX10_act_14 (lv_at hl 0 rfl) ?_
    subst hQ
    exact W.iret (v := v_1) hx hb hr (fun t ht hW => ⟨⟨v_1, w0, rfl, ⟨⟨x_HD_p0_gdR, r_v_1.to (by decide), (fun h0 => absurd (ti_eq h0) (by have h8 := r_v_1; unfold RI at h8; rw [Int32.toInt_zero]; omega)), (fun h0 => trivial)⟩, hw.1, hw.2.2.2.2.1⟩, by rw [ht]; exact hw.2.1, va_K.moved hW.alike hK, hw.2.2.1⟩, hw.2.2.2.1.F ht⟩) hw.2.2.2.1.2.2 dX10_act_16
abbrev wr_X10_sit__1 : List (Nat × Nat) := [(10, 0), (10, 25)]
abbrev wa_X10_sit__1 : List Nat := [34, 37]
set_option maxHeartbeats 4000000 in
set_option maxRecDepth 100000 in
theorem c_X10_sit__1 (l : Launch) (D : va_G) (cy : Nat → ClassId) (z : Nat → Nat) (sz : Nat) (Ps : PSI) (w0 : va_W) (hT : HT cy GG Ps w0) (p0 : Nat) (p1 : Int32) (p2 : Int32) (gdR : Nat → Int32) (h_p0 : (p0, 55) ∈ Ps) (r_p1 : RI p1 (-2147483648) 2147483647) (r_p2 : RI p2 (-2147483648) 2147483647) (x_HD_p0_gdR : AX 14 34 (HDp gdR) Ps w0 p0) : Met l yX10_sit (Cond.code yX10_sit cX10_sit 3 (some .int) :: gT) ({ frames := 3, cells := 0, slots := 0, locals := 600 } : Room) (va_Pc [.ref p0, .int p1, .int p2] (PRE D cy z w0 sz)) (va_Qi (fun (r : Int32) (u : va_W) => ((AX 14 34 (HDp gdR) Ps u p0) ∧ (RI r (-1) 1 ∧ (r = 0 → True) ∧ (¬ r = 0 → True))) ∧ HT cy GG Ps u ∧ FR wr_X10_sit__1 wa_X10_sit__1 Ps w0 u) (BB D cy (va_A w0 sz) (fun (u : va_W) => u)) (va_A w0 sz)) 0 0 (va_A w0 sz) := by
  refine Met.ofW (cc := cX10_sit) (maxL := 3) (ret := (some .int)) (by decide) rfl ?_
  intro p e s m args below meth c s₁ B hml hv
  obtain ⟨rfl, hsz, hP, hK, hD0, hSD⟩ := hv
  have hx := B.exec
  have hb := B.bytes
  have hr := B.returns
  have hlocks := B.notSynchronized
  have hts : ∀ w ∈ gT, w.before _ s = true := fun w h => atoms_spec (ws := Cond.code yX10_sit cX10_sit 3 (some .int) :: gT) B.pre w (List.mem_cons_of_mem _ h)
  have hown : s.vm.findClass RX10 = some m.cls := findClass_of_methodNamed B.named
  subst hsz
  have hD := hD0.self (sz := s.heap.size)
  generalize hAe : va_A w0 s.heap.size = A at hD hSD ⊢
  have hA : ∀ q : Nat, s.heap.size ≤ q → A q := fun q h => by rw [← hAe]; exact Or.inr h
  have hl := lv_entry ([.ref p0, .int p1, .int p2]) (n := 3) (Nat.le_of_ble_eq_true rfl)
  rw [lg_entry_eq]
  generalize (lg_sl ([.ref p0, .int p1, .int p2]) ++ List.replicate (3 - (lg_sl ([.ref p0, .int p1, .int p2])).length) Slot.unset).toArray = ls at hl ⊢
  have hl : lv_has ls 3 [(0, .ref p0), (1, .int p1), (2, .int p2)] := hl
  refine nameQ (fun Q hQ => ?_)
  have hw : WD D cy GG A s wr_X10_sit__1 wa_X10_sit__1 Ps w0 Ps w0 s.heap [] := ⟨hT, hP, hD, va_S.rf, FR.rf, hT.1, [], (List.append_nil _).symm⟩
  refine lv_aload_n hx hb dX10_sit_0 rfl (lv_at hl 0 rfl) ?_
  refine lv_iconst (v := 0) hx hb dX10_sit_1 (by decide) ?_
  refine tg_put (ci := 10) (ts := ty_MODEL) (v := .int 0) (ty := .int) (C := RX10) (T := TX10) (N := 49) hx hb hts inX10 tyX10 tyX10_ok nmX10 hown hK hw h_p0 rfl rfl 0 (by decide) (hts _ tw_1137) (fun _ h9 => h9) rfl (by decide +kernel) rfl rfl (ft := vI (-2147483648) 2147483647) rfl ⟨_, rfl, (rl_0.to (by decide))⟩ (by decide) dX10_sit_2 (fun ws H locs hw n_k_1 hF9 => ?_)
  have x_HD_p0_gdR := AX.over hF9 x_HD_p0_gdR (by decide)
  refine lv_aload_n hx hb dX10_sit_5 rfl (lv_at hl 0 rfl) ?_
  refine lv_iload_n hx hb dX10_sit_6 rfl (lv_at hl 1 rfl) ?_
  refine tk_ir (va_runV (As := [.int p1]) (rest := []) ⟨hx, hb, hml, hown, hts⟩ (c_X10_isPerson l D cy z H.size Ps ws hw.1 p0 p1 h_p0 r_p1) (cwV 1 hts (gV tw_1469 tw_1471 ts_73 tw_15 tw_1472) rfl rfl rfl (by decide +kernel) ⟨Nat.le_of_ble_eq_true rfl, Nat.le_of_ble_eq_true rfl⟩) (tg_preV hw hK hSD hA (ci := 10) (q := (RX10, TX10, 49)) rfl h_p0 rfl) rfl rfl hl.1 rfl (lv_room (Nat.le_of_ble_eq_true rfl)) dX10_sit_7 ⟨Nat.le_of_ble_eq_true rfl, Nat.le_of_ble_eq_true rfl⟩) hw hA (fun v_2  H locs hp_v_2 hw => ?_)
  have r_v_2 : RI v_2 0 1 := hp_v_2.1
  refine lv_if_eq (tgt := 31) hx hb dX10_sit_10 (by decide) (fun c_10 => ?_) (fun c_10 => ?_)
  · have r_v_2 : RI v_2 0 0 := rc_eq1 r_v_2 rl_0 (ti_eq c_10) (by decide)
    refine lv_iconst (v := (-1)) hx hb dX10_sit_31 (by decide) ?_
    subst hQ
    exact W.iret (v := (-1)) hx hb hr (fun t ht hW => ⟨⟨(-1), ws, rfl, ⟨⟨x_HD_p0_gdR, rl_m1.to (by decide), (fun _ => trivial), (fun h0 => trivial)⟩, hw.1, hw.2.2.2.2.1⟩, by rw [ht]; exact hw.2.1, va_K.moved hW.alike hK, hw.2.2.1⟩, hw.2.2.2.1.F ht⟩) hw.2.2.2.1.2.2 dX10_sit_32
  · have r_v_2 : RI v_2 1 1 := rc_neL r_v_2 rl_0 (ti_ne c_10) (by decide)
    have r_p1 : RI p1 0 7 := ((hp_v_2.2.2 c_10).1)
    refine lv_aload_n hx hb dX10_sit_13 rfl (lv_at hl 0 rfl) ?_
    refine lv_iload_n hx hb dX10_sit_14 rfl (lv_at hl 2 rfl) ?_
    refine tk_ir (va_runV (As := [.int p2]) (rest := []) ⟨hx, hb, hml, hown, hts⟩ (c_X10_isParcel l D cy z H.size Ps ws hw.1 p0 p2 h_p0 r_p2) (cwV 1 hts (gV tw_1429 tw_1431 ts_65 tw_15 tw_1432) rfl rfl rfl (by decide +kernel) ⟨Nat.le_of_ble_eq_true rfl, Nat.le_of_ble_eq_true rfl⟩) (tg_preV hw hK hSD hA (ci := 10) (q := (RX10, TX10, 49)) rfl h_p0 rfl) rfl rfl hl.1 rfl (lv_room (Nat.le_of_ble_eq_true rfl)) dX10_sit_15 ⟨Nat.le_of_ble_eq_true rfl, Nat.le_of_ble_eq_true rfl⟩) hw hA (fun v_3  H locs hp_v_3 hw => ?_)
    have r_v_3 : RI v_3 0 1 := hp_v_3.1
    refine lv_if_eq (tgt := 31) hx hb dX10_sit_18 (by decide) (fun c_18 => ?_) (fun c_18 => ?_)
    · have r_v_3 : RI v_3 0 0 := rc_eq1 r_v_3 rl_0 (ti_eq c_18) (by decide)
      refine lv_iconst (v := (-1)) hx hb dX10_sit_31 (by decide) ?_
      subst hQ
      exact W.iret (v := (-1)) hx hb hr (fun t ht hW => ⟨⟨(-1), ws, rfl, ⟨⟨x_HD_p0_gdR, rl_m1.to (by decide), (fun _ => trivial), (fun h0 => trivial)⟩, hw.1, hw.2.2.2.2.1⟩, by rw [ht]; exact hw.2.1, va_K.moved hW.alike hK, hw.2.2.1⟩, hw.2.2.2.1.F ht⟩) hw.2.2.2.1.2.2 dX10_sit_32
    · have r_v_3 : RI v_3 1 1 := rc_neL r_v_3 rl_0 (ti_ne c_18) (by decide)
      have r_p2 : RI p2 0 5 := ((hp_v_3.2.2 c_18).1)
      refine lv_aload_n hx hb dX10_sit_21 rfl (lv_at hl 0 rfl) ?_
      refine lv_iconst (v := 0) hx hb dX10_sit_22 (by decide) ?_
      refine lv_iload_n hx hb dX10_sit_23 rfl (lv_at hl 1 rfl) ?_
      refine lv_iload_n hx hb dX10_sit_24 rfl (lv_at hl 2 rfl) ?_
      refine tk_i (va_runV (As := [.int 0, .int p1, .int p2]) (rest := []) ⟨hx, hb, hml, hown, hts⟩ (c_X10_act__9 l D cy z H.size Ps ws hw.1 p0 0 p1 p2 (gdR) h_p0 rl_0 r_p1 r_p2 x_HD_p0_gdR) (cwV 3 hts (gV tw_1497 tw_1499 ts_76 tw_15 tw_1500) rfl rfl rfl (by decide +kernel) ⟨Nat.le_of_ble_eq_true rfl, Nat.le_of_ble_eq_true rfl⟩) (tg_preV hw hK hSD hA (ci := 10) (q := (RX10, TX10, 49)) rfl h_p0 rfl) rfl rfl hl.1 rfl (lv_room (Nat.le_of_ble_eq_true rfl)) dX10_sit_25 ⟨Nat.le_of_ble_eq_true rfl, Nat.le_of_ble_eq_true rfl⟩) hw hA ⟨by decide, by decide⟩ (fun v_4 ws H locs hp_v_4 hw hF9 => ?_)
      have n_k_1 := FLD.over hF9 n_k_1 (by decide)
      obtain ⟨x_HD_p0_gdR, hp_v_4⟩ := hp_v_4
      have r_v_4 : RI v_4 0 1 := hp_v_4.1
      by_cases c9_v_4 : v_4 = 0
      · have r_v_4 : RI v_4 0 0 := by rw [c9_v_4]; exact rl_0
        obtain ⟨v_5, m_v_5, r_v_5⟩ := ((hp_v_4.2.1 c9_v_4).1)
        refine lv_goto (tgt := 32) hx hb dX10_sit_28 (by decide) ?_
        subst hQ
        exact W.iret (v := v_4) hx hb hr (fun t ht hW => ⟨⟨v_4, ws, rfl, ⟨⟨x_HD_p0_gdR, r_v_4.to (by decide), (fun h0 => trivial), (fun _ => trivial)⟩, hw.1, hw.2.2.2.2.1⟩, by rw [ht]; exact hw.2.1, va_K.moved hW.alike hK, hw.2.2.1⟩, hw.2.2.2.1.F ht⟩) hw.2.2.2.1.2.2 dX10_sit_32
      · have r_v_4 : RI v_4 1 1 := rc_neL r_v_4 rl_0 (ti_ne c9_v_4) (by decide)
        refine lv_goto (tgt := 32) hx hb dX10_sit_28 (by decide) ?_
        subst hQ
        exact W.iret (v := v_4) hx hb hr (fun t ht hW => ⟨⟨v_4, ws, rfl, ⟨⟨x_HD_p0_gdR, r_v_4.to (by decide), (fun _ => trivial), (fun h0 => trivial)⟩, hw.1, hw.2.2.2.2.1⟩, by rw [ht]; exact hw.2.1, va_K.moved hW.alike hK, hw.2.2.1⟩, hw.2.2.2.1.F ht⟩) hw.2.2.2.1.2.2 dX10_sit_32
abbrev wr_X10_sitters__1 : List (Nat × Nat) := [(10, 0), (10, 27)]
abbrev wa_X10_sitters__1 : List Nat := [34, 38, 46]
set_option maxHeartbeats 4000000 in
set_option maxRecDepth 100000 in
theorem c_X10_sitters__1 (l : Launch) (D : va_G) (cy : Nat → ClassId) (z : Nat → Nat) (sz : Nat) (Ps : PSI) (w0 : va_W) (hT : HT cy GG Ps w0) (p0 : Nat) (p1 : Int32) (p2 : Int32) (p3 : Int32) (gdR : Nat → Int32) (h_p0 : (p0, 55) ∈ Ps) (r_p1 : RI p1 (-2147483648) 2147483647) (r_p2 : RI p2 (-2147483648) 2147483647) (r_p3 : RI p3 (-2147483648) 2147483647) (x_HD_p0_gdR : AX 14 34 (HDp gdR) Ps w0 p0) : Met l yX10_sitters (Cond.code yX10_sitters cX10_sitters 7 (some .int) :: gT) ({ frames := 6, cells := 0, slots := 0, locals := 1200 } : Room) (va_Pc [.ref p0, .int p1, .int p2, .int p3] (PRE D cy z w0 sz)) (va_Qi (fun (r : Int32) (u : va_W) => ((AX 14 34 (HDp gdR) Ps u p0) ∧ (RI r (-2147483648) 2147483647 ∧ (r = 0 → True) ∧ (¬ r = 0 → True))) ∧ HT cy GG Ps u ∧ FR wr_X10_sitters__1 wa_X10_sitters__1 Ps w0 u) (BB D cy (va_A w0 sz) (fun (u : va_W) => u)) (va_A w0 sz)) 0 0 (va_A w0 sz) := by
  refine Met.ofW (cc := cX10_sitters) (maxL := 7) (ret := (some .int)) (by decide) rfl ?_
  intro p e s m args below meth c s₁ B hml hv
  obtain ⟨rfl, hsz, hP, hK, hD0, hSD⟩ := hv
  have hx := B.exec
  have hb := B.bytes
  have hr := B.returns
  have hlocks := B.notSynchronized
  have hts : ∀ w ∈ gT, w.before _ s = true := fun w h => atoms_spec (ws := Cond.code yX10_sitters cX10_sitters 7 (some .int) :: gT) B.pre w (List.mem_cons_of_mem _ h)
  have hown : s.vm.findClass RX10 = some m.cls := findClass_of_methodNamed B.named
  subst hsz
  have hD := hD0.self (sz := s.heap.size)
  generalize hAe : va_A w0 s.heap.size = A at hD hSD ⊢
  have hA : ∀ q : Nat, s.heap.size ≤ q → A q := fun q h => by rw [← hAe]; exact Or.inr h
  have hl := lv_entry ([.ref p0, .int p1, .int p2, .int p3]) (n := 7) (Nat.le_of_ble_eq_true rfl)
  rw [lg_entry_eq]
  generalize (lg_sl ([.ref p0, .int p1, .int p2, .int p3]) ++ List.replicate (7 - (lg_sl ([.ref p0, .int p1, .int p2, .int p3])).length) Slot.unset).toArray = ls at hl ⊢
  have hl : lv_has ls 7 [(0, .ref p0), (1, .int p1), (2, .int p2), (3, .int p3)] := hl
  refine nameQ (fun Q hQ => ?_)
  have hw : WD D cy GG A s wr_X10_sitters__1 wa_X10_sitters__1 Ps w0 Ps w0 s.heap [] := ⟨hT, hP, hD, va_S.rf, FR.rf, hT.1, [], (List.append_nil _).symm⟩
  have B66 : ∀ (nf : Nat) (x4 : Int32) (x5 : Int32) (z0_0 : Int32) (ws : va_W) (H : Heap) (locs : List Loc) (ls : Array Slot), 256 - x5.toInt < (nf : Int) → RI p1 0 5 → RI p2 0 5 → RI p3 1 30 → RI x4 (-1) 255 → RI x5 0 256 → RI z0_0 0 0 → FLD ws p0 10 0 (.int z0_0) → AX 14 34 (HDp gdR) Ps ws p0 → WD D cy GG A s wr_X10_sitters__1 wa_X10_sitters__1 Ps w0 Ps ws H locs → lv_has ls 7 [(0, .ref p0), (1, .int p1), (2, .int p2), (3, .int p3), (4, .int x4), (5, .int x5)] → W p l e (headSpec (Cond.code yX10_sitters cX10_sitters 7 (some .int) :: gT) ({ frames := 6, cells := 0, slots := 0, locals := 1200 } : Room)).room s m ([.ref p0, .int p1, .int p2, .int p3] : List Value).toArray below meth c H locs 0 0 Q (F0 m 66 ls []) := by
    intro nf66
    induction nf66 with
    | zero =>
      intro x4 x5 z0_0 ws H locs ls hn66 r_p1 r_p2 r_p3 r_x4 r_x5 r_z0_0 m_z0_0 x_HD_p0_gdR hw hl
      exact absurd hn66 (by have q0 := r_x5.1; have u0 := r_x5.2; omega)
    | succ nf66 ih66 =>
      have B189 : ∀ (x4 : Int32) (x5 : Int32) (x6 : Int32) (z0_0 : Int32) (ws : va_W) (H : Heap) (locs : List Loc) (ls : Array Slot), RI p1 0 5 → RI p2 0 5 → RI p3 1 30 → RI x4 (-1) 255 → RI x5 0 255 → RI x6 0 8 → RI z0_0 0 0 → FLD ws p0 10 0 (.int z0_0) → AX 14 34 (HDp gdR) Ps ws p0 → 256 - x5.toInt < ((nf66 + 1 : Nat) : Int) → WD D cy GG A s wr_X10_sitters__1 wa_X10_sitters__1 Ps w0 Ps ws H locs → lv_has ls 7 [(0, .ref p0), (1, .int p1), (2, .int p2), (3, .int p3), (4, .int x4), (5, .int x5), (6, .int x6)] → W p l e (headSpec (Cond.code yX10_sitters cX10_sitters 7 (some .int) :: gT) ({ frames := 6, cells := 0, slots := 0, locals := 1200 } : Room)).room s m ([.ref p0, .int p1, .int p2, .int p3] : List Value).toArray below meth c H locs 0 0 Q (F0 m 189 ls []) := by
        intro x4 x5 x6 z0_0 ws H locs ls r_p1 r_p2 r_p3 r_x4 r_x5 r_x6 r_z0_0 m_z0_0 x_HD_p0_gdR hn66 hw hl
        refine lv_aload_n hx hb dX10_sitters_189 rfl (lv_at hl 0 rfl) ?_
        refine tk_v (va_runV (As := []) (rest := []) ⟨hx, hb, hml, hown, hts⟩ (c_X10_takeBack__1 l D cy z H.size Ps ws hw.1 p0 (gdR) h_p0 x_HD_p0_gdR) (cwV 0 hts (gV tw_1587 tw_1589 ts_89 tw_15 tw_1590) rfl rfl rfl (by decide +kernel) ⟨Nat.le_of_ble_eq_true rfl, Nat.le_of_ble_eq_true rfl⟩) (tg_preV hw hK hSD hA (ci := 10) (q := (RX10, TX10, 49)) rfl h_p0 rfl) rfl rfl hl.1 rfl (lv_room (Nat.le_of_ble_eq_true rfl)) dX10_sitters_190 ⟨Nat.le_of_ble_eq_true rfl, Nat.le_of_ble_eq_true rfl⟩) hw hA ⟨by decide, by decide⟩ (fun ws H locs hp_v_1 hw hF9 => ?_)
        have m_z0_0 := FLD.over hF9 m_z0_0 (by decide)
        obtain ⟨x_HD_p0_gdR, hp_v_1⟩ := hp_v_1
        obtain ⟨v_2, e_v_2⟩ : ∃ q9 : Int32, q9 = x5 + Int32.ofInt 1 := ⟨_, rfl⟩
        obtain ⟨t_v_2, r_v_2⟩ := tq_add (lo := 1) (hi := 256) r_x5 (show RI (Int32.ofInt 1) 1 1 by unfold RI; decide +kernel) (by decide +kernel) e_v_2
        have t_v_2 : v_2.toInt = x5.toInt + 1 := t_v_2
        refine lv_iinc (v := v_2) (lv' := [(5, .int v_2), (0, .ref p0), (1, .int p1), (2, .int p2), (3, .int p3), (4, .int x4), (6, .int x6)]) hx hb dX10_sitters_193 hl (k := 5) rfl e_v_2.symm (by decide) rfl (fun ls hl => ?_)
        refine lv_goto (tgt := 66) hx hb dX10_sitters_196 (by decide) ?_
        exact ih66 x4 v_2 z0_0 ws _ _ ls (by have q0 := r_v_2.1; have u0 := r_v_2.2; have o0 := r_x5.1; have p0 := r_x5.2; omega) r_p1 r_p2 r_p3 r_x4 (r_v_2.to (by decide)) r_z0_0 m_z0_0 x_HD_p0_gdR hw (lv_sub hl [1, 2, 3, 4, 5, 0] rfl)
      have B104 : ∀ (nf : Nat) (x4 : Int32) (x5 : Int32) (x6 : Int32) (z0_0 : Int32) (ws : va_W) (H : Heap) (locs : List Loc) (ls : Array Slot), 8 - x6.toInt < (nf : Int) → RI p1 0 5 → RI p2 0 5 → RI p3 1 30 → RI x4 (-1) 255 → RI x5 0 255 → RI x6 0 8 → RI z0_0 0 0 → FLD ws p0 10 0 (.int z0_0) → AX 14 34 (HDp gdR) Ps ws p0 → 256 - x5.toInt < ((nf66 + 1 : Nat) : Int) → WD D cy GG A s wr_X10_sitters__1 wa_X10_sitters__1 Ps w0 Ps ws H locs → lv_has ls 7 [(0, .ref p0), (1, .int p1), (2, .int p2), (3, .int p3), (4, .int x4), (5, .int x5), (6, .int x6)] → W p l e (headSpec (Cond.code yX10_sitters cX10_sitters 7 (some .int) :: gT) ({ frames := 6, cells := 0, slots := 0, locals := 1200 } : Room)).room s m ([.ref p0, .int p1, .int p2, .int p3] : List Value).toArray below meth c H locs 0 0 Q (F0 m 104 ls []) := by
        intro nf104
        induction nf104 with
        | zero =>
          intro x4 x5 x6 z0_0 ws H locs ls hn104 r_p1 r_p2 r_p3 r_x4 r_x5 r_x6 r_z0_0 m_z0_0 x_HD_p0_gdR hn66 hw hl
          exact absurd hn104 (by have q0 := r_x6.1; have u0 := r_x6.2; omega)
        | succ nf104 ih104 =>
          intro x4 x5 x6 z0_0 ws H locs ls hn104 r_p1 r_p2 r_p3 r_x4 r_x5 r_x6 r_z0_0 m_z0_0 x_HD_p0_gdR hn66 hw hl
          refine lv_iload hx hb dX10_sitters_104 (lv_at hl 6 rfl) ?_
          refine lv_aload_n hx hb dX10_sitters_106 rfl (lv_at hl 0 rfl) ?_
          refine tg_get (ci := 10) (ts := ty_MODEL) (C := RX10) (T := TX10) (N := 49) hx hb hts inX10 hown hK hw h_p0 rfl rfl 14 (by decide) (hts _ tw_1151) (fun _ h9 => h9) (ft := vR 34) rfl dX10_sitters_107 (fun u_3 hv_u_3 m_u_3 => ?_)
          obtain ⟨vu_3, rfl, h_vu_3⟩ := hv_u_3
          refine lv_iconst (v := 3) hx hb dX10_sitters_110 (by decide) ?_
          refine tg_iald (lo := 0) (hi := 8) hx hb hK hw h_vu_3 rfl 3 3 rl_3 (by decide) (by decide +kernel) dX10_sitters_111 (fun v_4 r_v_4 m_v_4 o_v_4 => ?_)
          refine lv_icmp_ge (tgt := 170) hx hb dX10_sitters_112 (by decide) (fun c_112 => ?_) (fun c_112 => ?_)
          · refine lv_aload_n hx hb dX10_sitters_170 rfl (lv_at hl 0 rfl) ?_
            refine lv_iload_n hx hb dX10_sitters_171 rfl (lv_at hl 3 rfl) ?_
            have hw8 := hw
            refine tk_i (va_runV (As := [.int p3]) (rest := []) ⟨hx, hb, hml, hown, hts⟩ (c_X10_passDays__1 l D cy z H.size Ps ws hw.1 p0 p3 (gdR) h_p0 (r_p3.to (by decide)) x_HD_p0_gdR) (cwV 1 hts (gV tw_1560 tw_1562 ts_84 tw_15 tw_1563) rfl rfl rfl (by decide +kernel) ⟨Nat.le_of_ble_eq_true rfl, Nat.le_of_ble_eq_true rfl⟩) (tg_preV hw hK hSD hA (ci := 10) (q := (RX10, TX10, 49)) rfl h_p0 rfl) rfl rfl hl.1 rfl (lv_room (Nat.le_of_ble_eq_true rfl)) dX10_sitters_172 ⟨Nat.le_of_ble_eq_true rfl, Nat.le_of_ble_eq_true rfl⟩) hw hA ⟨by decide, by decide⟩ (fun v_5 ws H locs hp_v_5 hw hF9 => ?_)
            have m_z0_0 := FLD.over hF9 m_z0_0 (by decide)
            have m_u_3 := FLD.over hF9 m_u_3 (by decide)
            obtain ⟨x_HD_p0_gdR, hp_v_5⟩ := hp_v_5
            have r_v_5 : RI v_5 (-2147483648) 2147483647 := hp_v_5.1
            refine lv_pop hx hb dX10_sitters_175 rfl ?_
            refine lv_aload_n hx hb dX10_sitters_176 rfl (lv_at hl 0 rfl) ?_
            refine lv_iload_n hx hb dX10_sitters_177 rfl (lv_at hl 1 rfl) ?_
            refine tk_ir (va_runV (As := [.int p1]) (rest := []) ⟨hx, hb, hml, hown, hts⟩ (c_X10_whatIs l D cy z H.size Ps ws hw.1 p0 p1 h_p0 r_p1) (cwV 1 hts (gV tw_1449 tw_1451 ts_69 tw_15 tw_1452) rfl rfl rfl (by decide +kernel) ⟨Nat.le_of_ble_eq_true rfl, Nat.le_of_ble_eq_true rfl⟩) (tg_preV hw hK hSD hA (ci := 10) (q := (RX10, TX10, 49)) rfl h_p0 rfl) rfl rfl hl.1 rfl (lv_room (Nat.le_of_ble_eq_true rfl)) dX10_sitters_178 ⟨Nat.le_of_ble_eq_true rfl, Nat.le_of_ble_eq_true rfl⟩) hw hA (fun v_6  H locs hp_v_6 hw => ?_)
            have r_v_6 : RI v_6 (-1) 5 := hp_v_6.1
            by_cases c9_v_6 : v_6.toInt < 0
            · have r_v_6 : RI v_6 (-1) (-1) := by unfold RI at r_v_6 ⊢; omega
              have x_NB_p0_p1 := (hp_v_6.2.2.2.2.1 (by omega)).1
              refine lv_iload_n hx hb dX10_sitters_181 rfl (lv_at hl 2 rfl) ?_
              refine lv_icmp_ne (tgt := 189) hx hb dX10_sitters_182 (by decide) (fun c_182 => ?_) (fun c_182 => ?_)
              · exact B189 x4 x5 x6 z0_0 ws _ _ ls r_p1 r_p2 r_p3 r_x4 r_x5 r_x6 r_z0_0 m_z0_0 x_HD_p0_gdR (by have q0 := r_x5.1; have u0 := r_x5.2; omega) hw hl
              · have r_v_6 : RI v_6 0 (-1) := rc_eq1 r_v_6 r_p2 (ti_eq c_182) (by decide)
                have r_p2 : RI p2 0 (-1) := rc_eq2 r_v_6 r_p2 (ti_eq c_182) (by decide)
                exact (r_v_6.no (by decide)).elim
            · have r_v_6 : RI v_6 0 5 := by unfold RI at r_v_6 ⊢; omega
              have x_WB_p0_p1_v_6 := (hp_v_6.2.2.2.2.2 (by omega)).1
              refine lv_iload_n hx hb dX10_sitters_181 rfl (lv_at hl 2 rfl) ?_
              refine lv_icmp_ne (tgt := 189) hx hb dX10_sitters_182 (by decide) (fun c_182 => ?_) (fun c_182 => ?_)
              · exact B189 x4 x5 x6 z0_0 ws _ _ ls r_p1 r_p2 r_p3 r_x4 r_x5 r_x6 r_z0_0 m_z0_0 x_HD_p0_gdR (by have q0 := r_x5.1; have u0 := r_x5.2; omega) hw hl
              · refine lv_iload hx hb dX10_sitters_185 (lv_at hl 5 rfl) ?_
                refine lv_istore (lv' := [(4, .int x5), (0, .ref p0), (1, .int p1), (2, .int p2), (3, .int p3), (5, .int x5), (6, .int x6)]) hx hb dX10_sitters_187 hl (by decide) rfl (fun ls hl => ?_)
                exact B189 x5 x5 x6 z0_0 ws _ _ ls r_p1 r_p2 r_p3 (r_x5.to (by decide)) r_x5 r_x6 r_z0_0 m_z0_0 x_HD_p0_gdR (by have q0 := r_x5.1; have u0 := r_x5.2; omega) hw (lv_sub hl [1, 2, 3, 4, 0, 5, 6] rfl)
          · have r_x6 : RI x6 0 7 := rc_lt1 r_x6 r_v_4 (ti_nle c_112) (by decide)
            have r_v_4 : RI v_4 1 8 := rc_lt2 r_x6 r_v_4 (ti_nle c_112) (by decide)
            refine lv_iload hx hb dX10_sitters_115 (lv_at hl 5 rfl) ?_
            refine lv_iload hx hb dX10_sitters_117 (lv_at hl 6 rfl) ?_
            refine tk_ir (va_runS (As := [.int x5, .int x6]) (rest := []) ⟨hx, hb, hml, hown, hts⟩ (c_X10_has__3 l D cy z H.size Ps ws hw.1 x5 x6 r_x5 r_x6) (va_cwS 2 hts (gS tw_1402 tw_1403 tw_15 tw_1404) rfl rfl rfl (by decide +kernel) ⟨Nat.le_of_ble_eq_true rfl, Nat.le_of_ble_eq_true rfl⟩) (tg_preS hw hK hSD hA) rfl rfl hl.1 rfl (lv_room (Nat.le_of_ble_eq_true rfl)) dX10_sitters_119 ⟨Nat.le_of_ble_eq_true rfl, Nat.le_of_ble_eq_true rfl⟩) hw hA (fun v_7  H locs hp_v_7 hw => ?_)
            have r_v_7 : RI v_7 0 1 := hp_v_7.1
            refine lv_if_eq (tgt := 139) hx hb dX10_sitters_122 (by decide) (fun c_122 => ?_) (fun c_122 => ?_)
            · have r_v_7 : RI v_7 0 0 := rc_eq1 r_v_7 rl_0 (ti_eq c_122) (by decide)
              refine lv_aload_n hx hb dX10_sitters_139 rfl (lv_at hl 0 rfl) ?_
              refine tg_mem (ci := 10) (C := RX10) (T := TX10) (N := 49) hx hb hts inX10 hown hK hw 14 m_u_3 rfl (by decide) (hts _ tw_1151) (fun _ h9 => h9) dX10_sitters_140 ?_
              refine lv_bipush (v := 112) hx hb dX10_sitters_143 (by decide) ?_
              refine lv_iload hx hb dX10_sitters_145 (lv_at hl 6 rfl) ?_
              refine lv_iadd hx hb dX10_sitters_147 (lv_topi (fun v_8 e_v_8 => ?_))
              obtain ⟨t_v_8, r_v_8⟩ := tq_add (lo := 112) (hi := 119) rl_112 r_x6 (by decide +kernel) e_v_8
              have t_v_8 : v_8.toInt = 112 + x6.toInt := t_v_8
              refine tg_iald (lo := (-1)) (hi := 5) hx hb hK hw h_vu_3 rfl 112 119 r_v_8 (by decide) (by decide +kernel) dX10_sitters_148 (fun v_9 r_v_9 m_v_9 o_v_9 => ?_)
              refine lv_iload_n hx hb dX10_sitters_149 rfl (lv_at hl 1 rfl) ?_
              refine lv_icmp_ne (tgt := 164) hx hb dX10_sitters_150 (by decide) (fun c_150 => ?_) (fun c_150 => ?_)
              · obtain ⟨v_10, e_v_10⟩ : ∃ q9 : Int32, q9 = x6 + Int32.ofInt 1 := ⟨_, rfl⟩
                obtain ⟨t_v_10, r_v_10⟩ := tq_add (lo := 1) (hi := 8) r_x6 (show RI (Int32.ofInt 1) 1 1 by unfold RI; decide +kernel) (by decide +kernel) e_v_10
                have t_v_10 : v_10.toInt = x6.toInt + 1 := t_v_10
                refine lv_iinc (v := v_10) (lv' := [(6, .int v_10), (0, .ref p0), (1, .int p1), (2, .int p2), (3, .int p3), (4, .int x4), (5, .int x5)]) hx hb dX10_sitters_164 hl (k := 6) rfl e_v_10.symm (by decide) rfl (fun ls hl => ?_)
                refine lv_goto (tgt := 104) hx hb dX10_sitters_167 (by decide) ?_
                exact ih104 x4 x5 v_10 z0_0 ws _ _ ls (by have q0 := r_v_10.1; have u0 := r_v_10.2; have o0 := r_x6.1; have p0 := r_x6.2; omega) r_p1 r_p2 r_p3 r_x4 r_x5 (r_v_10.to (by decide)) r_z0_0 m_z0_0 x_HD_p0_gdR (by have q0 := r_x5.1; have u0 := r_x5.2; omega) hw (lv_sub hl [1, 2, 3, 4, 5, 6, 0] rfl)
              · have r_v_9 : RI v_9 0 5 := rc_eq1 r_v_9 r_p1 (ti_eq c_150) (by decide)
                refine lv_aload_n hx hb dX10_sitters_153 rfl (lv_at hl 0 rfl) ?_
                refine tg_mem (ci := 10) (C := RX10) (T := TX10) (N := 49) hx hb hts inX10 hown hK hw 14 m_u_3 rfl (by decide) (hts _ tw_1151) (fun _ h9 => h9) dX10_sitters_154 ?_
                refine lv_bipush (v := 112) hx hb dX10_sitters_157 (by decide) ?_
                refine lv_iload hx hb dX10_sitters_159 (lv_at hl 6 rfl) ?_
                refine lv_iadd hx hb dX10_sitters_161 (lv_topi (fun v_11 e_v_11 => ?_))
                obtain ⟨t_v_11, r_v_11⟩ := tq_add (lo := 112) (hi := 119) rl_112 r_x6 (by decide +kernel) e_v_11
                have t_v_11 : v_11.toInt = 112 + x6.toInt := t_v_11
                refine lv_iconst (v := (-1)) hx hb dX10_sitters_162 (by decide) ?_
                have hw8 := hw
                refine tg_iast hx hb hK hw h_vu_3 rfl 112 119 r_v_11 (by decide) rl_m1 (by decide +kernel) (RN_upd (by decide) (by decide)) (by decide) dX10_sitters_163 (fun ws H locs hw hF9 hU9 => ?_)
                have x_HD_p0_gdR : AX 14 34 (HDp gdR) Ps ws p0 := AX.ast hF9 hU9 x_HD_p0_gdR m_u_3 (fun f9 h9 => HDp.upd h9 (by have k1 := r_v_11.cl (by decide); have k2 := r_v_11.1; omega))
                have m_z0_0 := FLD.over hF9 m_z0_0 (by decide)
                have m_u_3 := FLD.over hF9 m_u_3 (by decide)
                obtain ⟨v_12, e_v_12⟩ : ∃ q9 : Int32, q9 = x6 + Int32.ofInt 1 := ⟨_, rfl⟩
                obtain ⟨t_v_12, r_v_12⟩ := tq_add (lo := 1) (hi := 8) r_x6 (show RI (Int32.ofInt 1) 1 1 by unfold RI; decide +kernel) (by decide +kernel) e_v_12
                have t_v_12 : v_12.toInt = x6.toInt + 1 := t_v_12
                refine lv_iinc (v := v_12) (lv' := [(6, .int v_12), (0, .ref p0), (1, .int p1), (2, .int p2), (3, .int p3), (4, .int x4), (5, .int x5)]) hx hb dX10_sitters_164 hl (k := 6) rfl e_v_12.symm (by decide) rfl (fun ls hl => ?_)
                refine lv_goto (tgt := 104) hx hb dX10_sitters_167 (by decide) ?_
                exact ih104 x4 x5 v_12 z0_0 ws _ _ ls (by have q0 := r_v_12.1; have u0 := r_v_12.2; have o0 := r_x6.1; have p0 := r_x6.2; omega) r_p1 r_p2 r_p3 r_x4 r_x5 (r_v_12.to (by decide)) r_z0_0 m_z0_0 x_HD_p0_gdR (by have q0 := r_x5.1; have u0 := r_x5.2; omega) hw (lv_sub hl [1, 2, 3, 4, 5, 6, 0] rfl)
            · have r_v_7 : RI v_7 1 1 := rc_neL r_v_7 rl_0 (ti_ne c_122) (by decide)
              refine lv_aload_n hx hb dX10_sitters_125 rfl (lv_at hl 0 rfl) ?_
              refine tg_mem (ci := 10) (C := RX10) (T := TX10) (N := 49) hx hb hts inX10 hown hK hw 14 m_u_3 rfl (by decide) (hts _ tw_1151) (fun _ h9 => h9) dX10_sitters_126 ?_
              refine lv_bipush (v := 112) hx hb dX10_sitters_129 (by decide) ?_
              refine lv_iload hx hb dX10_sitters_131 (lv_at hl 6 rfl) ?_
              refine lv_iadd hx hb dX10_sitters_133 (lv_topi (fun v_13 e_v_13 => ?_))
              obtain ⟨t_v_13, r_v_13⟩ := tq_add (lo := 112) (hi := 119) rl_112 r_x6 (by decide +kernel) e_v_13
              have t_v_13 : v_13.toInt = 112 + x6.toInt := t_v_13
              refine lv_iload_n hx hb dX10_sitters_134 rfl (lv_at hl 1 rfl) ?_
              have hw8 := hw
              refine tg_iast hx hb hK hw h_vu_3 rfl 112 119 r_v_13 (by decide) r_p1 (by decide +kernel) (RN_upd (by decide) (by decide)) (by decide) dX10_sitters_135 (fun ws H locs hw hF9 hU9 => ?_)
              have x_HD_p0_gdR : AX 14 34 (HDp gdR) Ps ws p0 := AX.ast hF9 hU9 x_HD_p0_gdR m_u_3 (fun f9 h9 => HDp.upd h9 (by have k1 := r_v_13.cl (by decide); have k2 := r_v_13.1; omega))
              have m_z0_0 := FLD.over hF9 m_z0_0 (by decide)
              have m_u_3 := FLD.over hF9 m_u_3 (by decide)
              refine lv_goto (tgt := 164) hx hb dX10_sitters_136 (by decide) ?_
              obtain ⟨v_14, e_v_14⟩ : ∃ q9 : Int32, q9 = x6 + Int32.ofInt 1 := ⟨_, rfl⟩
              obtain ⟨t_v_14, r_v_14⟩ := tq_add (lo := 1) (hi := 8) r_x6 (show RI (Int32.ofInt 1) 1 1 by unfold RI; decide +kernel) (by decide +kernel) e_v_14
              have t_v_14 : v_14.toInt = x6.toInt + 1 := t_v_14
              refine lv_iinc (v := v_14) (lv' := [(6, .int v_14), (0, .ref p0), (1, .int p1), (2, .int p2), (3, .int p3), (4, .int x4), (5, .int x5)]) hx hb dX10_sitters_164 hl (k := 6) rfl e_v_14.symm (by decide) rfl (fun ls hl => ?_)
              refine lv_goto (tgt := 104) hx hb dX10_sitters_167 (by decide) ?_
              exact ih104 x4 x5 v_14 z0_0 ws _ _ ls (by have q0 := r_v_14.1; have u0 := r_v_14.2; have o0 := r_x6.1; have p0 := r_x6.2; omega) r_p1 r_p2 r_p3 r_x4 r_x5 (r_v_14.to (by decide)) r_z0_0 m_z0_0 x_HD_p0_gdR (by have q0 := r_x5.1; have u0 := r_x5.2; omega) hw (lv_sub hl [1, 2, 3, 4, 5, 6, 0] rfl)
      have B101 : ∀ (x4 : Int32) (x5 : Int32) (z0_0 : Int32) (ws : va_W) (H : Heap) (locs : List Loc) (ls : Array Slot), RI p1 0 5 → RI p2 0 5 → RI p3 1 30 → RI x4 (-1) 255 → RI x5 0 255 → RI z0_0 0 0 → FLD ws p0 10 0 (.int z0_0) → AX 14 34 (HDp gdR) Ps ws p0 → 256 - x5.toInt < ((nf66 + 1 : Nat) : Int) → WD D cy GG A s wr_X10_sitters__1 wa_X10_sitters__1 Ps w0 Ps ws H locs → lv_has ls 7 [(0, .ref p0), (1, .int p1), (2, .int p2), (3, .int p3), (4, .int x4), (5, .int x5)] → W p l e (headSpec (Cond.code yX10_sitters cX10_sitters 7 (some .int) :: gT) ({ frames := 6, cells := 0, slots := 0, locals := 1200 } : Room)).room s m ([.ref p0, .int p1, .int p2, .int p3] : List Value).toArray below meth c H locs 0 0 Q (F0 m 101 ls []) := by
        intro x4 x5 z0_0 ws H locs ls r_p1 r_p2 r_p3 r_x4 r_x5 r_z0_0 m_z0_0 x_HD_p0_gdR hn66 hw hl
        refine lv_iconst (v := 0) hx hb dX10_sitters_101 (by decide) ?_
        refine lv_istore (lv' := [(6, .int 0), (0, .ref p0), (1, .int p1), (2, .int p2), (3, .int p3), (4, .int x4), (5, .int x5)]) hx hb dX10_sitters_102 hl (by decide) rfl (fun ls hl => ?_)
        exact B104 4294967298 x4 x5 0 z0_0 ws _ _ ls (by have q0 := rl_0.1; have u0 := rl_0.2; omega) r_p1 r_p2 r_p3 r_x4 r_x5 (rl_0.to (by decide)) r_z0_0 m_z0_0 x_HD_p0_gdR (by have q0 := r_x5.1; have u0 := r_x5.2; omega) hw (lv_sub hl [1, 2, 3, 4, 5, 6, 0] rfl)
      intro x4 x5 z0_0 ws H locs ls hn66 r_p1 r_p2 r_p3 r_x4 r_x5 r_z0_0 m_z0_0 x_HD_p0_gdR hw hl
      refine lv_iload hx hb dX10_sitters_66 (lv_at hl 5 rfl) ?_
      refine lv_iconst (v := 1) hx hb dX10_sitters_68 (by decide) ?_
      refine lv_aload_n hx hb dX10_sitters_69 rfl (lv_at hl 0 rfl) ?_
      refine tg_get (ci := 10) (ts := ty_MODEL) (C := RX10) (T := TX10) (N := 49) hx hb hts inX10 hown hK hw h_p0 rfl rfl 14 (by decide) (hts _ tw_1151) (fun _ h9 => h9) (ft := vR 34) rfl dX10_sitters_70 (fun u_15 hv_u_15 m_u_15 => ?_)
      obtain ⟨vu_15, rfl, h_vu_15⟩ := hv_u_15
      refine lv_iconst (v := 3) hx hb dX10_sitters_73 (by decide) ?_
      refine tg_iald (lo := 0) (hi := 8) hx hb hK hw h_vu_15 rfl 3 3 rl_3 (by decide) (by decide +kernel) dX10_sitters_74 (fun v_16 r_v_16 m_v_16 o_v_16 => ?_)
      refine lv_ishl hx hb dX10_sitters_75 (lv_topi (fun v_17 e_v_17 => ?_))
      have r_v_17 : RI v_17 1 256 := by rw [e_v_17]; exact ri_shl1 (r_v_16.to (c := 0) (d := 8) (by decide)) (by decide)
      refine lv_icmp_ge (tgt := 199) hx hb dX10_sitters_76 (by decide) (fun c_76 => ?_) (fun c_76 => ?_)
      · have r_x5 : RI x5 1 256 := rc_le2 r_v_17 r_x5 (ti_le c_76) (by decide)
        refine lv_iload hx hb dX10_sitters_199 (lv_at hl 4 rfl) ?_
        refine lv_iconst (v := (-1)) hx hb dX10_sitters_201 (by decide) ?_
        refine lv_icmp_ne (tgt := 207) hx hb dX10_sitters_202 (by decide) (fun c_202 => ?_) (fun c_202 => ?_)
        · have r_x4 : RI x4 0 255 := rc_neL r_x4 rl_m1 (ti_ne c_202) (by decide)
          refine lv_aload_n hx hb dX10_sitters_207 rfl (lv_at hl 0 rfl) ?_
          refine lv_iload hx hb dX10_sitters_208 (lv_at hl 4 rfl) ?_
          have hw8 := hw
          refine tg_put (ci := 10) (ts := ty_MODEL) (v := .int x4) (ty := .int) (C := RX10) (T := TX10) (N := 49) hx hb hts inX10 tyX10 tyX10_ok nmX10 hown hK hw h_p0 rfl rfl 27 (by decide) (hts _ tw_1164) (fun _ h9 => h9) rfl (by decide +kernel) rfl rfl (ft := vI (-2147483648) 2147483647) rfl ⟨_, rfl, (r_x4.to (by decide))⟩ (by decide) dX10_sitters_210 (fun ws H locs hw n_k_18 hF9 => ?_)
          have m_v_16 := AEL.over hw8 hF9 h_vu_15 m_v_16 (by decide)
          have m_z0_0 := FLD.over hF9 m_z0_0 (by decide)
          have m_u_15 := FLD.over hF9 m_u_15 (by decide)
          have x_HD_p0_gdR := AX.over hF9 x_HD_p0_gdR (by decide)
          refine lv_iload hx hb dX10_sitters_213 (lv_at hl 4 rfl) ?_
          refine tk_ir (va_runS (As := [.int x4]) (rest := []) ⟨hx, hb, hml, hown, hts⟩ (c_X10_bits l D cy z H.size Ps ws hw.1 x4 (r_x4.to (by decide))) (va_cwS 1 hts (gS tw_1576 tw_1577 tw_15 tw_1578) rfl rfl rfl (by decide +kernel) ⟨Nat.le_of_ble_eq_true rfl, Nat.le_of_ble_eq_true rfl⟩) (tg_preS hw hK hSD hA) rfl rfl hl.1 rfl (lv_room (Nat.le_of_ble_eq_true rfl)) dX10_sitters_215 ⟨Nat.le_of_ble_eq_true rfl, Nat.le_of_ble_eq_true rfl⟩) hw hA (fun v_19  H locs hp_v_19 hw => ?_)
          have r_v_19 : RI v_19 (-2147483648) 2147483647 := hp_v_19.1
          subst hQ
          exact W.iret (v := v_19) hx hb hr (fun t ht hW => ⟨⟨v_19, ws, rfl, ⟨⟨x_HD_p0_gdR, r_v_19.to (by decide), (fun h0 => trivial), (fun h0 => trivial)⟩, hw.1, hw.2.2.2.2.1⟩, by rw [ht]; exact hw.2.1, va_K.moved hW.alike hK, hw.2.2.1⟩, hw.2.2.2.1.F ht⟩) hw.2.2.2.1.2.2 dX10_sitters_218
        · have r_x4 : RI x4 (-1) (-1) := rc_eq1 r_x4 rl_m1 (ti_eq c_202) (by decide)
          refine lv_iconst (v := (-1)) hx hb dX10_sitters_205 (by decide) ?_
          subst hQ
          exact W.iret (v := (-1)) hx hb hr (fun t ht hW => ⟨⟨(-1), ws, rfl, ⟨⟨x_HD_p0_gdR, rl_m1.to (by decide), (fun _ => trivial), (fun h0 => trivial)⟩, hw.1, hw.2.2.2.2.1⟩, by rw [ht]; exact hw.2.1, va_K.moved hW.alike hK, hw.2.2.1⟩, hw.2.2.2.1.F ht⟩) hw.2.2.2.1.2.2 dX10_sitters_206
      · have r_x5 : RI x5 0 255 := rc_lt1 r_x5 r_v_17 (ti_nle c_76) (by decide)
        refine lv_iload hx hb dX10_sitters_79 (lv_at hl 4 rfl) ?_
        refine lv_iconst (v := (-1)) hx hb dX10_sitters_81 (by decide) ?_
        refine lv_icmp_eq (tgt := 101) hx hb dX10_sitters_82 (by decide) (fun c_82 => ?_) (fun c_82 => ?_)
        · have r_x4 : RI x4 (-1) (-1) := rc_eq1 r_x4 rl_m1 (ti_eq c_82) (by decide)
          exact B101 x4 x5 z0_0 ws _ _ ls r_p1 r_p2 r_p3 (r_x4.to (by decide)) r_x5 r_z0_0 m_z0_0 x_HD_p0_gdR (by have q0 := r_x5.1; have u0 := r_x5.2; omega) hw hl
        · have r_x4 : RI x4 0 255 := rc_neL r_x4 rl_m1 (ti_ne c_82) (by decide)
          refine lv_iload hx hb dX10_sitters_85 (lv_at hl 5 rfl) ?_
          refine tk_ir (va_runS (As := [.int x5]) (rest := []) ⟨hx, hb, hml, hown, hts⟩ (c_X10_bits l D cy z H.size Ps ws hw.1 x5 (r_x5.to (by decide))) (va_cwS 1 hts (gS tw_1576 tw_1577 tw_15 tw_1578) rfl rfl rfl (by decide +kernel) ⟨Nat.le_of_ble_eq_true rfl, Nat.le_of_ble_eq_true rfl⟩) (tg_preS hw hK hSD hA) rfl rfl hl.1 rfl (lv_room (Nat.le_of_ble_eq_true rfl)) dX10_sitters_87 ⟨Nat.le_of_ble_eq_true rfl, Nat.le_of_ble_eq_true rfl⟩) hw hA (fun v_20  H locs hp_v_20 hw => ?_)
          have r_v_20 : RI v_20 (-2147483648) 2147483647 := hp_v_20.1
          refine lv_iload hx hb dX10_sitters_90 (lv_at hl 4 rfl) ?_
          refine tk_ir (va_runS (As := [.int x4]) (rest := [.int v_20]) ⟨hx, hb, hml, hown, hts⟩ (c_X10_bits l D cy z H.size Ps ws hw.1 x4 (r_x4.to (by decide))) (va_cwS 1 hts (gS tw_1576 tw_1577 tw_15 tw_1578) rfl rfl rfl (by decide +kernel) ⟨Nat.le_of_ble_eq_true rfl, Nat.le_of_ble_eq_true rfl⟩) (tg_preS hw hK hSD hA) rfl rfl hl.1 rfl (lv_room (Nat.le_of_ble_eq_true rfl)) dX10_sitters_92 ⟨Nat.le_of_ble_eq_true rfl, Nat.le_of_ble_eq_true rfl⟩) hw hA (fun v_21  H locs hp_v_21 hw => ?_)
          have r_v_21 : RI v_21 (-2147483648) 2147483647 := hp_v_21.1
          refine lv_icmp_lt (tgt := 101) hx hb dX10_sitters_95 (by decide) (fun c_95 => ?_) (fun c_95 => ?_)
          · have r_v_20 : RI v_20 (-2147483648) 2147483646 := rc_lt1 r_v_20 r_v_21 (ti_lt c_95) (by decide)
            have r_v_21 : RI v_21 (-2147483647) 2147483647 := rc_lt2 r_v_20 r_v_21 (ti_lt c_95) (by decide)
            exact B101 x4 x5 z0_0 ws _ _ ls r_p1 r_p2 r_p3 (r_x4.to (by decide)) r_x5 r_z0_0 m_z0_0 x_HD_p0_gdR (by have q0 := r_x5.1; have u0 := r_x5.2; omega) hw hl
          · refine lv_goto (tgt := 193) hx hb dX10_sitters_98 (by decide) ?_
            obtain ⟨v_22, e_v_22⟩ : ∃ q9 : Int32, q9 = x5 + Int32.ofInt 1 := ⟨_, rfl⟩
            obtain ⟨t_v_22, r_v_22⟩ := tq_add (lo := 1) (hi := 256) r_x5 (show RI (Int32.ofInt 1) 1 1 by unfold RI; decide +kernel) (by decide +kernel) e_v_22
            have t_v_22 : v_22.toInt = x5.toInt + 1 := t_v_22
            refine lv_iinc (v := v_22) (lv' := [(5, .int v_22), (0, .ref p0), (1, .int p1), (2, .int p2), (3, .int p3), (4, .int x4)]) hx hb dX10_sitters_193 hl (k := 5) rfl e_v_22.symm (by decide) rfl (fun ls hl => ?_)
            refine lv_goto (tgt := 66) hx hb dX10_sitters_196 (by decide) ?_
            exact ih66 x4 v_22 z0_0 ws _ _ ls (by have q0 := r_v_22.1; have u0 := r_v_22.2; have o0 := r_x5.1; have p0 := r_x5.2; omega) r_p1 r_p2 r_p3 (r_x4.to (by decide)) (r_v_22.to (by decide)) r_z0_0 m_z0_0 x_HD_p0_gdR hw (lv_sub hl [1, 2, 3, 4, 5, 0] rfl)
  refine lv_aload_n hx hb dX10_sitters_0 rfl (lv_at hl 0 rfl) ?_
  refine lv_iconst (v := 0) hx hb dX10_sitters_1 (by decide) ?_
  refine tg_put (ci := 10) (ts := ty_MODEL) (v := .int 0) (ty := .int) (C := RX10) (T := TX10) (N := 49) hx hb hts inX10 tyX10 tyX10_ok nmX10 hown hK hw h_p0 rfl rfl 0 (by decide) (hts _ tw_1137) (fun _ h9 => h9) rfl (by decide +kernel) rfl rfl (ft := vI (-2147483648) 2147483647) rfl ⟨_, rfl, (rl_0.to (by decide))⟩ (by decide) dX10_sitters_2 (fun ws H locs hw n_k_23 hF9 => ?_)
  have x_HD_p0_gdR := AX.over hF9 x_HD_p0_gdR (by decide)
  refine lv_aload_n hx hb dX10_sitters_5 rfl (lv_at hl 0 rfl) ?_
  refine lv_iload_n hx hb dX10_sitters_6 rfl (lv_at hl 1 rfl) ?_
  refine tk_ir (va_runV (As := [.int p1]) (rest := []) ⟨hx, hb, hml, hown, hts⟩ (c_X10_isParcel l D cy z H.size Ps ws hw.1 p0 p1 h_p0 r_p1) (cwV 1 hts (gV tw_1429 tw_1431 ts_65 tw_15 tw_1432) rfl rfl rfl (by decide +kernel) ⟨Nat.le_of_ble_eq_true rfl, Nat.le_of_ble_eq_true rfl⟩) (tg_preV hw hK hSD hA (ci := 10) (q := (RX10, TX10, 49)) rfl h_p0 rfl) rfl rfl hl.1 rfl (lv_room (Nat.le_of_ble_eq_true rfl)) dX10_sitters_7 ⟨Nat.le_of_ble_eq_true rfl, Nat.le_of_ble_eq_true rfl⟩) hw hA (fun v_24  H locs hp_v_24 hw => ?_)
  have r_v_24 : RI v_24 0 1 := hp_v_24.1
  refine lv_if_eq (tgt := 54) hx hb dX10_sitters_10 (by decide) (fun c_10 => ?_) (fun c_10 => ?_)
  · have r_v_24 : RI v_24 0 0 := rc_eq1 r_v_24 rl_0 (ti_eq c_10) (by decide)
    refine lv_iconst (v := (-1)) hx hb dX10_sitters_54 (by decide) ?_
    subst hQ
    exact W.iret (v := (-1)) hx hb hr (fun t ht hW => ⟨⟨(-1), ws, rfl, ⟨⟨x_HD_p0_gdR, rl_m1.to (by decide), (fun _ => trivial), (fun h0 => trivial)⟩, hw.1, hw.2.2.2.2.1⟩, by rw [ht]; exact hw.2.1, va_K.moved hW.alike hK, hw.2.2.1⟩, hw.2.2.2.1.F ht⟩) hw.2.2.2.1.2.2 dX10_sitters_55
  · have r_v_24 : RI v_24 1 1 := rc_neL r_v_24 rl_0 (ti_ne c_10) (by decide)
    have r_p1 : RI p1 0 5 := ((hp_v_24.2.2 c_10).1)
    refine lv_aload_n hx hb dX10_sitters_13 rfl (lv_at hl 0 rfl) ?_
    refine lv_iload_n hx hb dX10_sitters_14 rfl (lv_at hl 2 rfl) ?_
    refine tk_ir (va_runV (As := [.int p2]) (rest := []) ⟨hx, hb, hml, hown, hts⟩ (c_X10_isIdea l D cy z H.size Ps ws hw.1 p0 p2 h_p0 r_p2) (cwV 1 hts (gV tw_1433 tw_1435 ts_66 tw_15 tw_1436) rfl rfl rfl (by decide +kernel) ⟨Nat.le_of_ble_eq_true rfl, Nat.le_of_ble_eq_true rfl⟩) (tg_preV hw hK hSD hA (ci := 10) (q := (RX10, TX10, 49)) rfl h_p0 rfl) rfl rfl hl.1 rfl (lv_room (Nat.le_of_ble_eq_true rfl)) dX10_sitters_15 ⟨Nat.le_of_ble_eq_true rfl, Nat.le_of_ble_eq_true rfl⟩) hw hA (fun v_25  H locs hp_v_25 hw => ?_)
    have r_v_25 : RI v_25 0 1 := hp_v_25.1
    refine lv_if_eq (tgt := 54) hx hb dX10_sitters_18 (by decide) (fun c_18 => ?_) (fun c_18 => ?_)
    · have r_v_25 : RI v_25 0 0 := rc_eq1 r_v_25 rl_0 (ti_eq c_18) (by decide)
      refine lv_iconst (v := (-1)) hx hb dX10_sitters_54 (by decide) ?_
      subst hQ
      exact W.iret (v := (-1)) hx hb hr (fun t ht hW => ⟨⟨(-1), ws, rfl, ⟨⟨x_HD_p0_gdR, rl_m1.to (by decide), (fun _ => trivial), (fun h0 => trivial)⟩, hw.1, hw.2.2.2.2.1⟩, by rw [ht]; exact hw.2.1, va_K.moved hW.alike hK, hw.2.2.1⟩, hw.2.2.2.1.F ht⟩) hw.2.2.2.1.2.2 dX10_sitters_55
    · have r_v_25 : RI v_25 1 1 := rc_neL r_v_25 rl_0 (ti_ne c_18) (by decide)
      have r_p2 : RI p2 0 5 := ((hp_v_25.2.2 c_18).1)
      refine lv_iload_n hx hb dX10_sitters_21 rfl (lv_at hl 3 rfl) ?_
      refine lv_iconst (v := 1) hx hb dX10_sitters_22 (by decide) ?_
      refine lv_bipush (v := 30) hx hb dX10_sitters_23 (by decide) ?_
      refine tk_ir (va_runS (As := [.int p3, .int 1, .int 30]) (rest := []) ⟨hx, hb, hml, hown, hts⟩ (c_X10_isIn__6 l D cy z H.size Ps ws hw.1 p3 1 30 r_p3 rl_1 rl_30) (va_cwS 3 hts (gS tw_1359 tw_1360 tw_15 tw_1361) rfl rfl rfl (by decide +kernel) ⟨Nat.le_of_ble_eq_true rfl, Nat.le_of_ble_eq_true rfl⟩) (tg_preS hw hK hSD hA) rfl rfl hl.1 rfl (lv_room (Nat.le_of_ble_eq_true rfl)) dX10_sitters_25 ⟨Nat.le_of_ble_eq_true rfl, Nat.le_of_ble_eq_true rfl⟩) hw hA (fun v_26  H locs hp_v_26 hw => ?_)
      have r_v_26 : RI v_26 0 1 := hp_v_26.1
      refine lv_if_eq (tgt := 54) hx hb dX10_sitters_28 (by decide) (fun c_28 => ?_) (fun c_28 => ?_)
      · have r_v_26 : RI v_26 0 0 := rc_eq1 r_v_26 rl_0 (ti_eq c_28) (by decide)
        refine lv_iconst (v := (-1)) hx hb dX10_sitters_54 (by decide) ?_
        subst hQ
        exact W.iret (v := (-1)) hx hb hr (fun t ht hW => ⟨⟨(-1), ws, rfl, ⟨⟨x_HD_p0_gdR, rl_m1.to (by decide), (fun _ => trivial), (fun h0 => trivial)⟩, hw.1, hw.2.2.2.2.1⟩, by rw [ht]; exact hw.2.1, va_K.moved hW.alike hK, hw.2.2.1⟩, hw.2.2.2.1.F ht⟩) hw.2.2.2.1.2.2 dX10_sitters_55
      · have r_v_26 : RI v_26 1 1 := rc_neL r_v_26 rl_0 (ti_ne c_28) (by decide)
        have r_p3 : RI p3 1 30 := ((hp_v_26.2.2 c_28).1)
        refine lv_aload_n hx hb dX10_sitters_31 rfl (lv_at hl 0 rfl) ?_
        refine lv_iload_n hx hb dX10_sitters_32 rfl (lv_at hl 1 rfl) ?_
        refine tk_ir (va_runV (As := [.int p1]) (rest := []) ⟨hx, hb, hml, hown, hts⟩ (c_X10_isOpen l D cy z H.size Ps ws hw.1 p0 p1 h_p0 (r_p1.to (by decide))) (cwV 1 hts (gV tw_1457 tw_1459 ts_71 tw_15 tw_1460) rfl rfl rfl (by decide +kernel) ⟨Nat.le_of_ble_eq_true rfl, Nat.le_of_ble_eq_true rfl⟩) (tg_preV hw hK hSD hA (ci := 10) (q := (RX10, TX10, 49)) rfl h_p0 rfl) rfl rfl hl.1 rfl (lv_room (Nat.le_of_ble_eq_true rfl)) dX10_sitters_33 ⟨Nat.le_of_ble_eq_true rfl, Nat.le_of_ble_eq_true rfl⟩) hw hA (fun v_27  H locs hp_v_27 hw => ?_)
        have r_v_27 : RI v_27 0 1 := hp_v_27.1
        refine lv_if_ne (tgt := 54) hx hb dX10_sitters_36 (by decide) (fun c_36 => ?_) (fun c_36 => ?_)
        · have r_v_27 : RI v_27 1 1 := rc_neL r_v_27 rl_0 (ti_ne c_36) (by decide)
          refine lv_iconst (v := (-1)) hx hb dX10_sitters_54 (by decide) ?_
          subst hQ
          exact W.iret (v := (-1)) hx hb hr (fun t ht hW => ⟨⟨(-1), ws, rfl, ⟨⟨x_HD_p0_gdR, rl_m1.to (by decide), (fun _ => trivial), (fun h0 => trivial)⟩, hw.1, hw.2.2.2.2.1⟩, by rw [ht]; exact hw.2.1, va_K.moved hW.alike hK, hw.2.2.1⟩, hw.2.2.2.1.F ht⟩) hw.2.2.2.1.2.2 dX10_sitters_55
        · have r_v_27 : RI v_27 0 0 := rc_eq1 r_v_27 rl_0 (ti_eq c_36) (by decide)
          refine lv_aload_n hx hb dX10_sitters_39 rfl (lv_at hl 0 rfl) ?_
          refine tg_get (ci := 10) (ts := ty_MODEL) (C := RX10) (T := TX10) (N := 49) hx hb hts inX10 hown hK hw h_p0 rfl rfl 14 (by decide) (hts _ tw_1151) (fun _ h9 => h9) (ft := vR 34) rfl dX10_sitters_40 (fun u_28 hv_u_28 m_u_28 => ?_)
          obtain ⟨vu_28, rfl, h_vu_28⟩ := hv_u_28
          refine lv_bipush (v := 84) hx hb dX10_sitters_43 (by decide) ?_
          refine tg_iald (lo := (-2147483648)) (hi := 2147483647) hx hb hK hw h_vu_28 rfl 84 84 rl_84 (by decide) (by decide +kernel) dX10_sitters_45 (fun v_29 r_v_29 m_v_29 o_v_29 => ?_)
          refine lv_iload_n hx hb dX10_sitters_46 rfl (lv_at hl 3 rfl) ?_
          refine lv_iadd hx hb dX10_sitters_47 (lv_topi (fun v_30 e_v_30 => ?_))
          have r_v_30 := ri_any v_30
          refine lv_sipush (v := 400) hx hb dX10_sitters_48 (by decide) ?_
          refine lv_icmp_le (tgt := 56) hx hb dX10_sitters_51 (by decide) (fun c_51 => ?_) (fun c_51 => ?_)
          · have r_v_30 : RI v_30 (-2147483648) 400 := rc_le1 r_v_30 rl_400 (ti_le c_51) (by decide)
            refine lv_aload_n hx hb dX10_sitters_56 rfl (lv_at hl 0 rfl) ?_
            have hw8 := hw
            refine tk_v (va_runV (As := []) (rest := []) ⟨hx, hb, hml, hown, hts⟩ (c_X10_layAside l D cy z H.size Ps ws hw.1 p0 h_p0) (cwV 0 hts (gV tw_1583 tw_1585 ts_88 tw_15 tw_1586) rfl rfl rfl (by decide +kernel) ⟨Nat.le_of_ble_eq_true rfl, Nat.le_of_ble_eq_true rfl⟩) (tg_preV hw hK hSD hA (ci := 10) (q := (RX10, TX10, 49)) rfl h_p0 rfl) rfl rfl hl.1 rfl (lv_room (Nat.le_of_ble_eq_true rfl)) dX10_sitters_57 ⟨Nat.le_of_ble_eq_true rfl, Nat.le_of_ble_eq_true rfl⟩) hw hA ⟨by decide, by decide⟩ (fun ws H locs hp_v_31 hw hF9 => ?_)
            have m_v_29 := AEL.over hw8 hF9 h_vu_28 m_v_29 (by decide)
            have n_k_23 := FLD.over hF9 n_k_23 (by decide)
            have m_u_28 := FLD.over hF9 m_u_28 (by decide)
            have x_HD_p0_gdR := AX.over hF9 x_HD_p0_gdR (by decide)
            refine lv_iconst (v := (-1)) hx hb dX10_sitters_60 (by decide) ?_
            refine lv_istore (lv' := [(4, .int (-1)), (0, .ref p0), (1, .int p1), (2, .int p2), (3, .int p3)]) hx hb dX10_sitters_61 hl (by decide) rfl (fun ls hl => ?_)
            refine lv_iconst (v := 0) hx hb dX10_sitters_63 (by decide) ?_
            refine lv_istore (lv' := [(5, .int 0), (4, .int (-1)), (0, .ref p0), (1, .int p1), (2, .int p2), (3, .int p3)]) hx hb dX10_sitters_64 hl (by decide) rfl (fun ls hl => ?_)
            exact B66 4294967298 (-1) 0 0 ws _ _ ls (by have q0 := rl_0.1; have u0 := rl_0.2; omega) r_p1 r_p2 r_p3 (rl_m1.to (by decide)) (rl_0.to (by decide)) rl_0 n_k_23 x_HD_p0_gdR hw (lv_sub hl [2, 3, 4, 5, 1, 0] rfl)
          · have r_v_30 : RI v_30 401 2147483647 := rc_lt2 rl_400 r_v_30 (ti_nle c_51) (by decide)
            refine lv_iconst (v := (-1)) hx hb dX10_sitters_54 (by decide) ?_
            subst hQ
            exact W.iret (v := (-1)) hx hb hr (fun t ht hW => ⟨⟨(-1), ws, rfl, ⟨⟨x_HD_p0_gdR, rl_m1.to (by decide), (fun _ => trivial), (fun h0 => trivial)⟩, hw.1, hw.2.2.2.2.1⟩, by rw [ht]; exact hw.2.1, va_K.moved hW.alike hK, hw.2.2.1⟩, hw.2.2.2.1.F ht⟩) hw.2.2.2.1.2.2 dX10_sitters_55
abbrev wr_X10_live__17 : List (Nat × Nat) := []
abbrev wa_X10_live__17 : List Nat := [34]
set_option maxHeartbeats 4000000 in
set_option maxRecDepth 100000 in
theorem c_X10_live__17 (l : Launch) (D : va_G) (cy : Nat → ClassId) (z : Nat → Nat) (sz : Nat) (Ps : PSI) (w0 : va_W) (hT : HT cy GG Ps w0) (p0 : Nat) (p1 : Int32) (p2 : Int32) (p3 : Int32) (gdR : Nat → Int32) (h_p0 : (p0, 55) ∈ Ps) (r_p1 : RI p1 1 1) (r_p2 : RI p2 0 7) (r_p3 : RI p3 0 0) (x_HD_p0_gdR : AX 14 34 (HDp gdR) Ps w0 p0) : Met l yX10_live (Cond.code yX10_live cX10_live 4 none :: gT) ({ frames := 0, cells := 0, slots := 0, locals := 200 } : Room) (va_Pc [.ref p0, .int p1, .int p2, .int p3] (PRE D cy z w0 sz)) (va_Qv (fun (u : va_W) => ((AX 14 34 (HDp gdR) Ps u p0) ∧ (True)) ∧ HT cy GG Ps u ∧ FR wr_X10_live__17 wa_X10_live__17 Ps w0 u) (BB D cy (va_A w0 sz) (fun (u : va_W) => u)) (va_A w0 sz)) 0 0 (va_A w0 sz) := by
  refine Met.ofW (cc := cX10_live) (maxL := 4) (ret := none) (by decide) rfl ?_
  intro p e s m args below meth c s₁ B hml hv
  obtain ⟨rfl, hsz, hP, hK, hD0, hSD⟩ := hv
  have hx := B.exec
  have hb := B.bytes
  have hr := B.returns
  have hlocks := B.notSynchronized
  have hts : ∀ w ∈ gT, w.before _ s = true := fun w h => atoms_spec (ws := Cond.code yX10_live cX10_live 4 none :: gT) B.pre w (List.mem_cons_of_mem _ h)
  have hown : s.vm.findClass RX10 = some m.cls := findClass_of_methodNamed B.named
  subst hsz
  have hD := hD0.self (sz := s.heap.size)
  generalize hAe : va_A w0 s.heap.size = A at hD hSD ⊢
  have hA : ∀ q : Nat, s.heap.size ≤ q → A q := fun q h => by rw [← hAe]; exact Or.inr h
  have hl := lv_entry ([.ref p0, .int p1, .int p2, .int p3]) (n := 4) (Nat.le_of_ble_eq_true rfl)
  rw [lg_entry_eq]
  generalize (lg_sl ([.ref p0, .int p1, .int p2, .int p3]) ++ List.replicate (4 - (lg_sl ([.ref p0, .int p1, .int p2, .int p3])).length) Slot.unset).toArray = ls at hl ⊢
  have hl : lv_has ls 4 [(0, .ref p0), (1, .int p1), (2, .int p2), (3, .int p3)] := hl
  refine nameQ (fun Q hQ => ?_)
  have hw : WD D cy GG A s wr_X10_live__17 wa_X10_live__17 Ps w0 Ps w0 s.heap [] := ⟨hT, hP, hD, va_S.rf, FR.rf, hT.1, [], (List.append_nil _).symm⟩
  refine lv_iload_n hx hb dX10_live_0 rfl (lv_at hl 1 rfl) ?_
  have w_1 := r_p1
  by_cases cl_1 : p1.toInt < 0 ∨ 4 < p1.toInt
  · refine lv_tableOut (tgt := 90) hx hb dX10_live_1 cl_1 (by decide) ?_
    exact absurd cl_1 (by unfold RI at w_1; omega)
  · have e_1 : p1.toInt = 0 ∨ p1.toInt = 1 ∨ p1.toInt = 2 ∨ p1.toInt = 3 ∨ p1.toInt = 4 := by omega
    rcases e_1 with h_1 | h_1 | h_1 | h_1 | h_1
    · exact absurd h_1 (by unfold RI at w_1; omega)
    · refine lv_tableIn (tgt := 47) (off := 46) hx hb dX10_live_1 (by omega) (by omega) (by rw [h_1]; rfl) (by decide) ?_
      have r_p1 : RI p1 1 1 := ⟨by omega, by omega⟩
      refine lv_aload_n hx hb dX10_live_47 rfl (lv_at hl 0 rfl) ?_
      refine tg_get (ci := 10) (ts := ty_MODEL) (C := RX10) (T := TX10) (N := 49) hx hb hts inX10 hown hK hw h_p0 rfl rfl 14 (by decide) (hts _ tw_1151) (fun _ h9 => h9) (ft := vR 34) rfl dX10_live_48 (fun u_1 hv_u_1 m_u_1 => ?_)
      obtain ⟨vu_1, rfl, h_vu_1⟩ := hv_u_1
      refine lv_bipush (v := 112) hx hb dX10_live_51 (by decide) ?_
      refine lv_iload_n hx hb dX10_live_53 rfl (lv_at hl 2 rfl) ?_
      refine lv_iadd hx hb dX10_live_54 (lv_topi (fun v_2 e_v_2 => ?_))
      obtain ⟨t_v_2, r_v_2⟩ := tq_add (lo := 112) (hi := 119) rl_112 r_p2 (by decide +kernel) e_v_2
      have t_v_2 : v_2.toInt = 112 + p2.toInt := t_v_2
      refine lv_iconst (v := (-1)) hx hb dX10_live_55 (by decide) ?_
      refine tg_iast hx hb hK hw h_vu_1 rfl 112 119 r_v_2 (by decide) rl_m1 (by decide +kernel) (RN_upd (by decide) (by decide)) (by decide) dX10_live_56 (fun ws H locs hw hF9 hU9 => ?_)
      have x_HD_p0_gdR : AX 14 34 (HDp gdR) Ps ws p0 := AX.ast hF9 hU9 x_HD_p0_gdR m_u_1 (fun f9 h9 => HDp.upd h9 (by have k1 := r_v_2.cl (by decide); have k2 := r_v_2.1; omega))
      have m_u_1 := FLD.over hF9 m_u_1 (by decide)
      subst hQ
      exact W.vret hx hb hr (fun t ht hW => ⟨⟨ws, rfl, ⟨⟨x_HD_p0_gdR, trivial⟩, hw.1, hw.2.2.2.2.1⟩, by rw [ht]; exact hw.2.1, va_K.moved hW.alike hK, hw.2.2.1⟩, hw.2.2.2.1.F ht⟩) hw.2.2.2.1.2.2 dX10_live_57
    · exact absurd h_1 (by unfold RI at w_1; omega)
    · exact absurd h_1 (by unfold RI at w_1; omega)
    · exact absurd h_1 (by unfold RI at w_1; omega)
abbrev wr_X10_act__10 : List (Nat × Nat) := [(10, 25)]
abbrev wa_X10_act__10 : List Nat := [34, 37]
set_option maxHeartbeats 4000000 in
set_option maxRecDepth 100000 in
theorem c_X10_act__10 (l : Launch) (D : va_G) (cy : Nat → ClassId) (z : Nat → Nat) (sz : Nat) (Ps : PSI) (w0 : va_W) (hT : HT cy GG Ps w0) (p0 : Nat) (p1 : Int32) (p2 : Int32) (p3 : Int32) (gdR : Nat → Int32) (h_p0 : (p0, 55) ∈ Ps) (r_p1 : RI p1 1 1) (r_p2 : RI p2 0 7) (r_p3 : RI p3 0 0) (x_HD_p0_gdR : AX 14 34 (HDp gdR) Ps w0 p0) : Met l yX10_act (Cond.code yX10_act cX10_act 5 (some .int) :: gT) ({ frames := 2, cells := 0, slots := 0, locals := 400 } : Room) (va_Pc [.ref p0, .int p1, .int p2, .int p3] (PRE D cy z w0 sz)) (va_Qi (fun (r : Int32) (u : va_W) => ((AX 14 34 (HDp gdR) Ps u p0) ∧ (RI r 0 1 ∧ (r = 0 → (∃ v9 : Int32, FLD u p0 10 25 (.int v9) ∧ RI v9 1 8) ∧ True) ∧ (¬ r = 0 → True))) ∧ HT cy GG Ps u ∧ FR wr_X10_act__10 wa_X10_act__10 Ps w0 u) (BB D cy (va_A w0 sz) (fun (u : va_W) => u)) (va_A w0 sz)) 0 0 (va_A w0 sz) := by
  refine Met.ofW (cc := cX10_act) (maxL := 5) (ret := (some .int)) (by decide) rfl ?_
  intro p e s m args below meth c s₁ B hml hv
  obtain ⟨rfl, hsz, hP, hK, hD0, hSD⟩ := hv
  have hx := B.exec
  have hb := B.bytes
  have hr := B.returns
  have hlocks := B.notSynchronized
  have hts : ∀ w ∈ gT, w.before _ s = true := fun w h => atoms_spec (ws := Cond.code yX10_act cX10_act 5 (some .int) :: gT) B.pre w (List.mem_cons_of_mem _ h)
  have hown : s.vm.findClass RX10 = some m.cls := findClass_of_methodNamed B.named
  subst hsz
  have hD := hD0.self (sz := s.heap.size)
  generalize hAe : va_A w0 s.heap.size = A at hD hSD ⊢
  have hA : ∀ q : Nat, s.heap.size ≤ q → A q := fun q h => by rw [← hAe]; exact Or.inr h
  have hl := lv_entry ([.ref p0, .int p1, .int p2, .int p3]) (n := 5) (Nat.le_of_ble_eq_true rfl)
  rw [lg_entry_eq]
  generalize (lg_sl ([.ref p0, .int p1, .int p2, .int p3]) ++ List.replicate (5 - (lg_sl ([.ref p0, .int p1, .int p2, .int p3])).length) Slot.unset).toArray = ls at hl ⊢
  have hl : lv_has ls 5 [(0, .ref p0), (1, .int p1), (2, .int p2), (3, .int p3)] := hl
  refine nameQ (fun Q hQ => ?_)
  have hw : WD D cy GG A s wr_X10_act__10 wa_X10_act__10 Ps w0 Ps w0 s.heap [] := ⟨hT, hP, hD, va_S.rf, FR.rf, hT.1, [], (List.append_nil _).symm⟩
  refine lv_aload_n hx hb dX10_act_0 rfl (lv_at hl 0 rfl) ?_
  refine lv_iload_n hx hb dX10_act_1 rfl (lv_at hl 1 rfl) ?_
  refine lv_iload_n hx hb dX10_act_2 rfl (lv_at hl 2 rfl) ?_
  refine lv_iload_n hx hb dX10_act_3 rfl (lv_at hl 3 rfl) ?_
  refine tk_ir (va_runV (As := [.int p1, .int p2, .int p3]) (rest := []) ⟨hx, hb, hml, hown, hts⟩ (c_X10_why__4 l D cy z s.heap.size Ps w0 hw.1 p0 p1 p2 p3 h_p0 r_p1 r_p2 r_p3) (cwV 3 hts (gV tw_1501 tw_1503 ts_77 tw_15 tw_1504) rfl rfl rfl (by decide +kernel) ⟨Nat.le_of_ble_eq_true rfl, Nat.le_of_ble_eq_true rfl⟩) (tg_preV hw hK hSD hA (ci := 10) (q := (RX10, TX10, 49)) rfl h_p0 rfl) rfl rfl hl.1 rfl (lv_room (Nat.le_of_ble_eq_true rfl)) dX10_act_4 ⟨Nat.le_of_ble_eq_true rfl, Nat.le_of_ble_eq_true rfl⟩) hw hA (fun v_1  H locs hp_v_1 hw => ?_)
  have r_v_1 : RI v_1 0 1 := hp_v_1.1
  refine lv_istore (lv' := [(4, .int v_1), (0, .ref p0), (1, .int p1), (2, .int p2), (3, .int p3)]) hx hb dX10_act_7 hl (by decide) rfl (fun ls hl => ?_)
  refine lv_iload hx hb dX10_act_9 (lv_at hl 0 rfl) ?_
  refine lv_if_eq (tgt := 17) hx hb dX10_act_11 (by decide) (fun c_11 => ?_) (fun c_11 => ?_)
  · have r_v_1 : RI v_1 0 0 := rc_eq1 r_v_1 rl_0 (ti_eq c_11) (by decide)
    refine lv_aload_n hx hb dX10_act_17 rfl (lv_at hl 1 rfl) ?_
    refine tk_v (va_runV (As := []) (rest := []) ⟨hx, hb, hml, hown, hts⟩ (c_X10_snap l D cy z H.size Ps w0 hw.1 p0 h_p0) (cwV 0 hts (gV tw_1505 tw_1507 ts_78 tw_15 tw_1508) rfl rfl rfl (by decide +kernel) ⟨Nat.le_of_ble_eq_true rfl, Nat.le_of_ble_eq_true rfl⟩) (tg_preV hw hK hSD hA (ci := 10) (q := (RX10, TX10, 49)) rfl h_p0 rfl) rfl rfl hl.1 rfl (lv_room (Nat.le_of_ble_eq_true rfl)) dX10_act_18 ⟨Nat.le_of_ble_eq_true rfl, Nat.le_of_ble_eq_true rfl⟩) hw hA ⟨by decide, by decide⟩ (fun ws H locs hp_v_2 hw hF9 => ?_)
    have x_HD_p0_gdR := AX.over hF9 x_HD_p0_gdR (by decide)
    obtain ⟨v_3, m_v_3, r_v_3⟩ := (hp_v_2.1)
    refine lv_aload_n hx hb dX10_act_21 rfl (lv_at hl 1 rfl) ?_
    refine lv_iload_n hx hb dX10_act_22 rfl (lv_at hl 2 rfl) ?_
    refine lv_iload_n hx hb dX10_act_23 rfl (lv_at hl 3 rfl) ?_
    refine lv_iload_n hx hb dX10_act_24 rfl (lv_at hl 4 rfl) ?_
    refine tk_v (va_runV (As := [.int p1, .int p2, .int p3]) (rest := []) ⟨hx, hb, hml, hown, hts⟩ (c_X10_live__17 l D cy z H.size Ps ws hw.1 p0 p1 p2 p3 (gdR) h_p0 r_p1 r_p2 r_p3 x_HD_p0_gdR) (cwV 3 hts (gV tw_1509 tw_1511 ts_79 tw_15 tw_1512) rfl rfl rfl (by decide +kernel) ⟨Nat.le_of_ble_eq_true rfl, Nat.le_of_ble_eq_true rfl⟩) (tg_preV hw hK hSD hA (ci := 10) (q := (RX10, TX10, 49)) rfl h_p0 rfl) rfl rfl hl.1 rfl (lv_room (Nat.le_of_ble_eq_true rfl)) dX10_act_25 ⟨Nat.le_of_ble_eq_true rfl, Nat.le_of_ble_eq_true rfl⟩) hw hA ⟨by decide, by decide⟩ (fun ws H locs hp_v_4 hw hF9 => ?_)
    have m_v_3 := FLD.over hF9 m_v_3 (by decide)
    obtain ⟨x_HD_p0_gdR, hp_v_4⟩ := hp_v_4
    refine lv_iconst (v := 0) hx hb dX10_act_28 (by decide) ?_
    subst hQ
    exact W.iret (v := 0) hx hb hr (fun t ht hW => ⟨⟨0, ws, rfl, ⟨⟨x_HD_p0_gdR, rl_0.to (by decide), (fun h0 => ⟨⟨_, m_v_3, r_v_3⟩, trivial⟩), (fun _ => trivial)⟩, hw.1, hw.2.2.2.2.1⟩, by rw [ht]; exact hw.2.1, va_K.moved hW.alike hK, hw.2.2.1⟩, hw.2.2.2.1.F ht⟩) hw.2.2.2.1.2.2 dX10_act_29
  · have r_v_1 : RI v_1 1 1 := rc_neL r_v_1 rl_0 (ti_ne c_11) (by decide)
    refine lv_iload hx hb dX10_act_14 (lv_at hl 0 rfl) ?_
    subst hQ
    exact W.iret (v := v_1) hx hb hr (fun t ht hW => ⟨⟨v_1, w0, rfl, ⟨⟨x_HD_p0_gdR, r_v_1.to (by decide), (fun h0 => absurd (ti_eq h0) (by have h8 := r_v_1; unfold RI at h8; rw [Int32.toInt_zero]; omega)), (fun h0 => trivial)⟩, hw.1, hw.2.2.2.2.1⟩, by rw [ht]; exact hw.2.1, va_K.moved hW.alike hK, hw.2.2.1⟩, hw.2.2.2.1.F ht⟩) hw.2.2.2.1.2.2 dX10_act_16
abbrev wr_X10_stand__1 : List (Nat × Nat) := [(10, 0), (10, 25)]
abbrev wa_X10_stand__1 : List Nat := [34, 37]
set_option maxHeartbeats 4000000 in
set_option maxRecDepth 100000 in
theorem c_X10_stand__1 (l : Launch) (D : va_G) (cy : Nat → ClassId) (z : Nat → Nat) (sz : Nat) (Ps : PSI) (w0 : va_W) (hT : HT cy GG Ps w0) (p0 : Nat) (p1 : Int32) (gdR : Nat → Int32) (h_p0 : (p0, 55) ∈ Ps) (r_p1 : RI p1 (-2147483648) 2147483647) (x_HD_p0_gdR : AX 14 34 (HDp gdR) Ps w0 p0) : Met l yX10_stand (Cond.code yX10_stand cX10_stand 2 (some .int) :: gT) ({ frames := 3, cells := 0, slots := 0, locals := 600 } : Room) (va_Pc [.ref p0, .int p1] (PRE D cy z w0 sz)) (va_Qi (fun (r : Int32) (u : va_W) => ((AX 14 34 (HDp gdR) Ps u p0) ∧ (RI r (-1) 1 ∧ (r = 0 → True) ∧ (¬ r = 0 → True))) ∧ HT cy GG Ps u ∧ FR wr_X10_stand__1 wa_X10_stand__1 Ps w0 u) (BB D cy (va_A w0 sz) (fun (u : va_W) => u)) (va_A w0 sz)) 0 0 (va_A w0 sz) := by
  refine Met.ofW (cc := cX10_stand) (maxL := 2) (ret := (some .int)) (by decide) rfl ?_
  intro p e s m args below meth c s₁ B hml hv
  obtain ⟨rfl, hsz, hP, hK, hD0, hSD⟩ := hv
  have hx := B.exec
  have hb := B.bytes
  have hr := B.returns
  have hlocks := B.notSynchronized
  have hts : ∀ w ∈ gT, w.before _ s = true := fun w h => atoms_spec (ws := Cond.code yX10_stand cX10_stand 2 (some .int) :: gT) B.pre w (List.mem_cons_of_mem _ h)
  have hown : s.vm.findClass RX10 = some m.cls := findClass_of_methodNamed B.named
  subst hsz
  have hD := hD0.self (sz := s.heap.size)
  generalize hAe : va_A w0 s.heap.size = A at hD hSD ⊢
  have hA : ∀ q : Nat, s.heap.size ≤ q → A q := fun q h => by rw [← hAe]; exact Or.inr h
  have hl := lv_entry ([.ref p0, .int p1]) (n := 2) (Nat.le_of_ble_eq_true rfl)
  rw [lg_entry_eq]
  generalize (lg_sl ([.ref p0, .int p1]) ++ List.replicate (2 - (lg_sl ([.ref p0, .int p1])).length) Slot.unset).toArray = ls at hl ⊢
  have hl : lv_has ls 2 [(0, .ref p0), (1, .int p1)] := hl
  refine nameQ (fun Q hQ => ?_)
  have hw : WD D cy GG A s wr_X10_stand__1 wa_X10_stand__1 Ps w0 Ps w0 s.heap [] := ⟨hT, hP, hD, va_S.rf, FR.rf, hT.1, [], (List.append_nil _).symm⟩
  refine lv_aload_n hx hb dX10_stand_0 rfl (lv_at hl 0 rfl) ?_
  refine lv_iconst (v := 0) hx hb dX10_stand_1 (by decide) ?_
  refine tg_put (ci := 10) (ts := ty_MODEL) (v := .int 0) (ty := .int) (C := RX10) (T := TX10) (N := 49) hx hb hts inX10 tyX10 tyX10_ok nmX10 hown hK hw h_p0 rfl rfl 0 (by decide) (hts _ tw_1137) (fun _ h9 => h9) rfl (by decide +kernel) rfl rfl (ft := vI (-2147483648) 2147483647) rfl ⟨_, rfl, (rl_0.to (by decide))⟩ (by decide) dX10_stand_2 (fun ws H locs hw n_k_1 hF9 => ?_)
  have x_HD_p0_gdR := AX.over hF9 x_HD_p0_gdR (by decide)
  refine lv_aload_n hx hb dX10_stand_5 rfl (lv_at hl 0 rfl) ?_
  refine lv_iload_n hx hb dX10_stand_6 rfl (lv_at hl 1 rfl) ?_
  refine tk_ir (va_runV (As := [.int p1]) (rest := []) ⟨hx, hb, hml, hown, hts⟩ (c_X10_isPerson l D cy z H.size Ps ws hw.1 p0 p1 h_p0 r_p1) (cwV 1 hts (gV tw_1469 tw_1471 ts_73 tw_15 tw_1472) rfl rfl rfl (by decide +kernel) ⟨Nat.le_of_ble_eq_true rfl, Nat.le_of_ble_eq_true rfl⟩) (tg_preV hw hK hSD hA (ci := 10) (q := (RX10, TX10, 49)) rfl h_p0 rfl) rfl rfl hl.1 rfl (lv_room (Nat.le_of_ble_eq_true rfl)) dX10_stand_7 ⟨Nat.le_of_ble_eq_true rfl, Nat.le_of_ble_eq_true rfl⟩) hw hA (fun v_2  H locs hp_v_2 hw => ?_)
  have r_v_2 : RI v_2 0 1 := hp_v_2.1
  refine lv_if_eq (tgt := 23) hx hb dX10_stand_10 (by decide) (fun c_10 => ?_) (fun c_10 => ?_)
  · have r_v_2 : RI v_2 0 0 := rc_eq1 r_v_2 rl_0 (ti_eq c_10) (by decide)
    refine lv_iconst (v := (-1)) hx hb dX10_stand_23 (by decide) ?_
    subst hQ
    exact W.iret (v := (-1)) hx hb hr (fun t ht hW => ⟨⟨(-1), ws, rfl, ⟨⟨x_HD_p0_gdR, rl_m1.to (by decide), (fun _ => trivial), (fun h0 => trivial)⟩, hw.1, hw.2.2.2.2.1⟩, by rw [ht]; exact hw.2.1, va_K.moved hW.alike hK, hw.2.2.1⟩, hw.2.2.2.1.F ht⟩) hw.2.2.2.1.2.2 dX10_stand_24
  · have r_v_2 : RI v_2 1 1 := rc_neL r_v_2 rl_0 (ti_ne c_10) (by decide)
    have r_p1 : RI p1 0 7 := ((hp_v_2.2.2 c_10).1)
    refine lv_aload_n hx hb dX10_stand_13 rfl (lv_at hl 0 rfl) ?_
    refine lv_iconst (v := 1) hx hb dX10_stand_14 (by decide) ?_
    refine lv_iload_n hx hb dX10_stand_15 rfl (lv_at hl 1 rfl) ?_
    refine lv_iconst (v := 0) hx hb dX10_stand_16 (by decide) ?_
    refine tk_i (va_runV (As := [.int 1, .int p1, .int 0]) (rest := []) ⟨hx, hb, hml, hown, hts⟩ (c_X10_act__10 l D cy z H.size Ps ws hw.1 p0 1 p1 0 (gdR) h_p0 rl_1 r_p1 rl_0 x_HD_p0_gdR) (cwV 3 hts (gV tw_1497 tw_1499 ts_76 tw_15 tw_1500) rfl rfl rfl (by decide +kernel) ⟨Nat.le_of_ble_eq_true rfl, Nat.le_of_ble_eq_true rfl⟩) (tg_preV hw hK hSD hA (ci := 10) (q := (RX10, TX10, 49)) rfl h_p0 rfl) rfl rfl hl.1 rfl (lv_room (Nat.le_of_ble_eq_true rfl)) dX10_stand_17 ⟨Nat.le_of_ble_eq_true rfl, Nat.le_of_ble_eq_true rfl⟩) hw hA ⟨by decide, by decide⟩ (fun v_3 ws H locs hp_v_3 hw hF9 => ?_)
    have n_k_1 := FLD.over hF9 n_k_1 (by decide)
    obtain ⟨x_HD_p0_gdR, hp_v_3⟩ := hp_v_3
    have r_v_3 : RI v_3 0 1 := hp_v_3.1
    by_cases c9_v_3 : v_3 = 0
    · have r_v_3 : RI v_3 0 0 := by rw [c9_v_3]; exact rl_0
      obtain ⟨v_4, m_v_4, r_v_4⟩ := ((hp_v_3.2.1 c9_v_3).1)
      refine lv_goto (tgt := 24) hx hb dX10_stand_20 (by decide) ?_
      subst hQ
      exact W.iret (v := v_3) hx hb hr (fun t ht hW => ⟨⟨v_3, ws, rfl, ⟨⟨x_HD_p0_gdR, r_v_3.to (by decide), (fun h0 => trivial), (fun _ => trivial)⟩, hw.1, hw.2.2.2.2.1⟩, by rw [ht]; exact hw.2.1, va_K.moved hW.alike hK, hw.2.2.1⟩, hw.2.2.2.1.F ht⟩) hw.2.2.2.1.2.2 dX10_stand_24
    · have r_v_3 : RI v_3 1 1 := rc_neL r_v_3 rl_0 (ti_ne c9_v_3) (by decide)
      refine lv_goto (tgt := 24) hx hb dX10_stand_20 (by decide) ?_
      subst hQ
      exact W.iret (v := v_3) hx hb hr (fun t ht hW => ⟨⟨v_3, ws, rfl, ⟨⟨x_HD_p0_gdR, r_v_3.to (by decide), (fun _ => trivial), (fun h0 => trivial)⟩, hw.1, hw.2.2.2.2.1⟩, by rw [ht]; exact hw.2.1, va_K.moved hW.alike hK, hw.2.2.1⟩, hw.2.2.2.1.F ht⟩) hw.2.2.2.1.2.2 dX10_stand_24
abbrev wr_X10_undo__1 : List (Nat × Nat) := [(10, 0), (10, 25)]
abbrev wa_X10_undo__1 : List Nat := [34]
set_option maxHeartbeats 4000000 in
set_option maxRecDepth 100000 in
theorem c_X10_undo__1 (l : Launch) (D : va_G) (cy : Nat → ClassId) (z : Nat → Nat) (sz : Nat) (Ps : PSI) (w0 : va_W) (hT : HT cy GG Ps w0) (p0 : Nat) (gdR : Nat → Int32) (h_p0 : (p0, 55) ∈ Ps) (x_HD_p0_gdR : AX 14 34 (HDp gdR) Ps w0 p0) : Met l yX10_undo (Cond.code yX10_undo cX10_undo 2 (some .int) :: gT) ({ frames := 0, cells := 0, slots := 0, locals := 200 } : Room) (va_Pc [.ref p0] (PRE D cy z w0 sz)) (va_Qi (fun (r : Int32) (u : va_W) => ((AX 14 34 (HDp gdR) Ps u p0) ∧ (RI r (-1) 7 ∧ (r = 0 → True) ∧ (¬ r = 0 → True))) ∧ HT cy GG Ps u ∧ FR wr_X10_undo__1 wa_X10_undo__1 Ps w0 u) (BB D cy (va_A w0 sz) (fun (u : va_W) => u)) (va_A w0 sz)) 0 0 (va_A w0 sz) := by
  refine Met.ofW (cc := cX10_undo) (maxL := 2) (ret := (some .int)) (by decide) rfl ?_
  intro p e s m args below meth c s₁ B hml hv
  obtain ⟨rfl, hsz, hP, hK, hD0, hSD⟩ := hv
  have hx := B.exec
  have hb := B.bytes
  have hr := B.returns
  have hlocks := B.notSynchronized
  have hts : ∀ w ∈ gT, w.before _ s = true := fun w h => atoms_spec (ws := Cond.code yX10_undo cX10_undo 2 (some .int) :: gT) B.pre w (List.mem_cons_of_mem _ h)
  have hown : s.vm.findClass RX10 = some m.cls := findClass_of_methodNamed B.named
  subst hsz
  have hD := hD0.self (sz := s.heap.size)
  generalize hAe : va_A w0 s.heap.size = A at hD hSD ⊢
  have hA : ∀ q : Nat, s.heap.size ≤ q → A q := fun q h => by rw [← hAe]; exact Or.inr h
  have hl := lv_entry ([.ref p0]) (n := 2) (Nat.le_of_ble_eq_true rfl)
  rw [lg_entry_eq]
  generalize (lg_sl ([.ref p0]) ++ List.replicate (2 - (lg_sl ([.ref p0])).length) Slot.unset).toArray = ls at hl ⊢
  have hl : lv_has ls 2 [(0, .ref p0)] := hl
  refine nameQ (fun Q hQ => ?_)
  have hw : WD D cy GG A s wr_X10_undo__1 wa_X10_undo__1 Ps w0 Ps w0 s.heap [] := ⟨hT, hP, hD, va_S.rf, FR.rf, hT.1, [], (List.append_nil _).symm⟩
  have B26 : ∀ (nf : Nat) (x1 : Int32) (z0_0 : Int32) (z0_25 : Int32) (ws : va_W) (H : Heap) (locs : List Loc) (ls : Array Slot), 88 - x1.toInt < (nf : Int) → RI x1 0 88 → RI z0_0 0 0 → FLD ws p0 10 0 (.int z0_0) → RI z0_25 0 7 → FLD ws p0 10 25 (.int z0_25) → AX 14 34 (HDp gdR) Ps ws p0 → WD D cy GG A s wr_X10_undo__1 wa_X10_undo__1 Ps w0 Ps ws H locs → lv_has ls 2 [(0, .ref p0), (1, .int x1)] → W p l e (headSpec (Cond.code yX10_undo cX10_undo 2 (some .int) :: gT) ({ frames := 0, cells := 0, slots := 0, locals := 200 } : Room)).room s m ([.ref p0] : List Value).toArray below meth c H locs 0 0 Q (F0 m 26 ls []) := by
    intro nf26
    induction nf26 with
    | zero =>
      intro x1 z0_0 z0_25 ws H locs ls hn26 r_x1 r_z0_0 m_z0_0 r_z0_25 m_z0_25 x_HD_p0_gdR hw hl
      exact absurd hn26 (by have q0 := r_x1.1; have u0 := r_x1.2; omega)
    | succ nf26 ih26 =>
      intro x1 z0_0 z0_25 ws H locs ls hn26 r_x1 r_z0_0 m_z0_0 r_z0_25 m_z0_25 x_HD_p0_gdR hw hl
      refine lv_iload_n hx hb dX10_undo_26 rfl (lv_at hl 1 rfl) ?_
      refine lv_bipush (v := 88) hx hb dX10_undo_27 (by decide) ?_
      refine lv_icmp_ge (tgt := 61) hx hb dX10_undo_29 (by decide) (fun c_29 => ?_) (fun c_29 => ?_)
      · have r_x1 : RI x1 88 88 := rc_le2 rl_88 r_x1 (ti_le c_29) (by decide)
        refine lv_aload_n hx hb dX10_undo_61 rfl (lv_at hl 0 rfl) ?_
        refine tg_mem (ci := 10) (C := RX10) (T := TX10) (N := 49) hx hb hts inX10 hown hK hw 25 m_z0_25 rfl (by decide) (hts _ tw_1162) (fun _ h9 => h9) dX10_undo_62 ?_
        subst hQ
        exact W.iret (v := z0_25) hx hb hr (fun t ht hW => ⟨⟨z0_25, ws, rfl, ⟨⟨x_HD_p0_gdR, r_z0_25.to (by decide), (fun h0 => trivial), (fun h0 => trivial)⟩, hw.1, hw.2.2.2.2.1⟩, by rw [ht]; exact hw.2.1, va_K.moved hW.alike hK, hw.2.2.1⟩, hw.2.2.2.1.F ht⟩) hw.2.2.2.1.2.2 dX10_undo_65
      · have r_x1 : RI x1 0 87 := rc_lt1 r_x1 rl_88 (ti_nle c_29) (by decide)
        refine lv_aload_n hx hb dX10_undo_32 rfl (lv_at hl 0 rfl) ?_
        refine tg_get (ci := 10) (ts := ty_MODEL) (C := RX10) (T := TX10) (N := 49) hx hb hts inX10 hown hK hw h_p0 rfl rfl 14 (by decide) (hts _ tw_1151) (fun _ h9 => h9) (ft := vR 34) rfl dX10_undo_33 (fun u_1 hv_u_1 m_u_1 => ?_)
        obtain ⟨vu_1, rfl, h_vu_1⟩ := hv_u_1
        refine lv_bipush (v := 84) hx hb dX10_undo_36 (by decide) ?_
        refine lv_iload_n hx hb dX10_undo_38 rfl (lv_at hl 1 rfl) ?_
        refine lv_iadd hx hb dX10_undo_39 (lv_topi (fun v_2 e_v_2 => ?_))
        obtain ⟨t_v_2, r_v_2⟩ := tq_add (lo := 84) (hi := 171) rl_84 r_x1 (by decide +kernel) e_v_2
        have t_v_2 : v_2.toInt = 84 + x1.toInt := t_v_2
        refine lv_aload_n hx hb dX10_undo_40 rfl (lv_at hl 0 rfl) ?_
        refine tg_get (ci := 10) (ts := ty_MODEL) (C := RX10) (T := TX10) (N := 49) hx hb hts inX10 hown hK hw h_p0 rfl rfl 17 (by decide) (hts _ tw_1154) (fun _ h9 => h9) (ft := vR 37) rfl dX10_undo_41 (fun u_3 hv_u_3 m_u_3 => ?_)
        obtain ⟨vu_3, rfl, h_vu_3⟩ := hv_u_3
        refine lv_bipush (v := 88) hx hb dX10_undo_44 (by decide) ?_
        refine lv_aload_n hx hb dX10_undo_46 rfl (lv_at hl 0 rfl) ?_
        refine tg_mem (ci := 10) (C := RX10) (T := TX10) (N := 49) hx hb hts inX10 hown hK hw 25 m_z0_25 rfl (by decide) (hts _ tw_1162) (fun _ h9 => h9) dX10_undo_47 ?_
        refine lv_imul hx hb dX10_undo_50 (lv_topi (fun v_4 e_v_4 => ?_))
        obtain ⟨t_v_4, r_v_4⟩ := tq_mul (lo := 0) (hi := 616) rl_88 r_z0_25 (by decide +kernel) e_v_4
        have t_v_4 : v_4.toInt = 88 * z0_25.toInt := t_v_4
        refine lv_iload_n hx hb dX10_undo_51 rfl (lv_at hl 1 rfl) ?_
        refine lv_iadd hx hb dX10_undo_52 (lv_topi (fun v_5 e_v_5 => ?_))
        obtain ⟨t_v_5, r_v_5⟩ := tq_add (lo := 0) (hi := 703) r_v_4 r_x1 (by decide +kernel) e_v_5
        refine tg_iald (lo := (-2147483648)) (hi := 2147483647) hx hb hK hw h_vu_3 rfl 0 703 r_v_5 (by decide) (by decide +kernel) dX10_undo_53 (fun v_6 r_v_6 m_v_6 o_v_6 => ?_)
        have hw8 := hw
        have e_7 : 84 + v_5.toNatClampNeg % 88 = v_2.toNatClampNeg := by have k1 := r_v_5.cl (by decide); have k2 := r_v_2.cl (by decide); have b10 := r_x1.1; have b20 := r_x1.2; have b11 := r_z0_0.1; have b21 := r_z0_0.2; have b12 := r_z0_25.1; have b22 := r_z0_25.2; have b13 := r_v_2.1; have b23 := r_v_2.2; have b14 := r_v_4.1; have b24 := r_v_4.2; have b15 := r_v_5.1; have b25 := r_v_5.2; have b16 := r_v_6.1; have b26 := r_v_6.2; omega
        refine tg_iasto hx hb hK hw h_vu_1 rfl 84 171 r_v_2 (by decide) (show RI _ (canon (v_2.toNatClampNeg)).1 (canon (v_2.toNatClampNeg)).2 by rw [← e_7]; exact o_v_6) (RN_upd (by decide) (by decide)) (by decide) dX10_undo_54 (fun ws H locs hw hF9 hU9 => ?_)
        have x_HD_p0_gdR : AX 14 34 (HDp gdR) Ps ws p0 := AX.ast hF9 hU9 x_HD_p0_gdR m_u_1 (fun f9 h9 => HDp.upd h9 (by have k1 := r_v_2.cl (by decide); have k2 := r_v_2.1; omega))
        have m_v_6 := AEL.over hw8 hF9 h_vu_3 m_v_6 (by decide)
        have m_z0_0 := FLD.over hF9 m_z0_0 (by decide)
        have m_z0_25 := FLD.over hF9 m_z0_25 (by decide)
        have m_u_1 := FLD.over hF9 m_u_1 (by decide)
        have m_u_3 := FLD.over hF9 m_u_3 (by decide)
        obtain ⟨v_8, e_v_8⟩ : ∃ q9 : Int32, q9 = x1 + Int32.ofInt 1 := ⟨_, rfl⟩
        obtain ⟨t_v_8, r_v_8⟩ := tq_add (lo := 1) (hi := 88) r_x1 (show RI (Int32.ofInt 1) 1 1 by unfold RI; decide +kernel) (by decide +kernel) e_v_8
        have t_v_8 : v_8.toInt = x1.toInt + 1 := t_v_8
        refine lv_iinc (v := v_8) (lv' := [(1, .int v_8), (0, .ref p0)]) hx hb dX10_undo_55 hl (k := 1) rfl e_v_8.symm (by decide) rfl (fun ls hl => ?_)
        refine lv_goto (tgt := 26) hx hb dX10_undo_58 (by decide) ?_
        exact ih26 v_8 z0_0 z0_25 ws _ _ ls (by have q0 := r_v_8.1; have u0 := r_v_8.2; have o0 := r_x1.1; have p0 := r_x1.2; omega) (r_v_8.to (by decide)) r_z0_0 m_z0_0 r_z0_25 m_z0_25 x_HD_p0_gdR hw (lv_sub hl [1, 0] rfl)
  refine lv_aload_n hx hb dX10_undo_0 rfl (lv_at hl 0 rfl) ?_
  refine lv_iconst (v := 0) hx hb dX10_undo_1 (by decide) ?_
  refine tg_put (ci := 10) (ts := ty_MODEL) (v := .int 0) (ty := .int) (C := RX10) (T := TX10) (N := 49) hx hb hts inX10 tyX10 tyX10_ok nmX10 hown hK hw h_p0 rfl rfl 0 (by decide) (hts _ tw_1137) (fun _ h9 => h9) rfl (by decide +kernel) rfl rfl (ft := vI (-2147483648) 2147483647) rfl ⟨_, rfl, (rl_0.to (by decide))⟩ (by decide) dX10_undo_2 (fun ws H locs hw n_k_9 hF9 => ?_)
  have x_HD_p0_gdR := AX.over hF9 x_HD_p0_gdR (by decide)
  refine lv_aload_n hx hb dX10_undo_5 rfl (lv_at hl 0 rfl) ?_
  refine tg_get (ci := 10) (ts := ty_MODEL) (C := RX10) (T := TX10) (N := 49) hx hb hts inX10 hown hK hw h_p0 rfl rfl 25 (by decide) (hts _ tw_1162) (fun _ h9 => h9) (ft := vI 0 8) rfl dX10_undo_6 (fun u_10 hv_u_10 m_u_10 => ?_)
  obtain ⟨vu_10, rfl, r_vu_10⟩ := hv_u_10
  refine lv_if_ne (tgt := 14) hx hb dX10_undo_9 (by decide) (fun c_9 => ?_) (fun c_9 => ?_)
  · have r_vu_10 : RI vu_10 1 8 := rc_neL r_vu_10 rl_0 (ti_ne c_9) (by decide)
    refine lv_aload_n hx hb dX10_undo_14 rfl (lv_at hl 0 rfl) ?_
    refine lv_dup hx hb dX10_undo_15 rfl ?_
    refine tg_mem (ci := 10) (C := RX10) (T := TX10) (N := 49) hx hb hts inX10 hown hK hw 25 m_u_10 rfl (by decide) (hts _ tw_1162) (fun _ h9 => h9) dX10_undo_16 ?_
    refine lv_iconst (v := 1) hx hb dX10_undo_19 (by decide) ?_
    refine lv_isub hx hb dX10_undo_20 (lv_topi (fun v_11 e_v_11 => ?_))
    obtain ⟨t_v_11, r_v_11⟩ := tq_sub (lo := 0) (hi := 7) r_vu_10 rl_1 (by decide +kernel) e_v_11
    have t_v_11 : v_11.toInt = vu_10.toInt - 1 := t_v_11
    refine tg_put (ci := 10) (ts := ty_MODEL) (v := .int v_11) (ty := .int) (C := RX10) (T := TX10) (N := 49) hx hb hts inX10 tyX10 tyX10_ok nmX10 hown hK hw h_p0 rfl rfl 25 (by decide) (hts _ tw_1162) (fun _ h9 => h9) rfl (by decide +kernel) rfl rfl (ft := vI 0 8) rfl ⟨_, rfl, (r_v_11.to (by decide))⟩ (by decide) dX10_undo_21 (fun ws H locs hw n_k_12 hF9 => ?_)
    have n_k_9 := FLD.over hF9 n_k_9 (by decide)
    have x_HD_p0_gdR := AX.over hF9 x_HD_p0_gdR (by decide)
    refine lv_iconst (v := 0) hx hb dX10_undo_24 (by decide) ?_
    refine lv_istore_n (lv' := [(1, .int 0), (0, .ref p0)]) hx hb dX10_undo_25 rfl hl (by decide) rfl (fun ls hl => ?_)
    exact B26 4294967298 0 0 v_11 ws _ _ ls (by have q0 := rl_0.1; have u0 := rl_0.2; omega) (rl_0.to (by decide)) rl_0 n_k_9 r_v_11 n_k_12 x_HD_p0_gdR hw (lv_sub hl [1, 0] rfl)
  · have r_vu_10 : RI vu_10 0 0 := rc_eq1 r_vu_10 rl_0 (ti_eq c_9) (by decide)
    refine lv_iconst (v := (-1)) hx hb dX10_undo_12 (by decide) ?_
    subst hQ
    exact W.iret (v := (-1)) hx hb hr (fun t ht hW => ⟨⟨(-1), ws, rfl, ⟨⟨x_HD_p0_gdR, rl_m1.to (by decide), (fun _ => trivial), (fun h0 => trivial)⟩, hw.1, hw.2.2.2.2.1⟩, by rw [ht]; exact hw.2.1, va_K.moved hW.alike hK, hw.2.2.1⟩, hw.2.2.2.1.F ht⟩) hw.2.2.2.1.2.2 dX10_undo_13
abbrev wr_X10_when__1 : List (Nat × Nat) := [(10, 0)]
abbrev wa_X10_when__1 : List Nat := [34, 38, 46]
set_option maxHeartbeats 4000000 in
set_option maxRecDepth 100000 in
theorem c_X10_when__1 (l : Launch) (D : va_G) (cy : Nat → ClassId) (z : Nat → Nat) (sz : Nat) (Ps : PSI) (w0 : va_W) (hT : HT cy GG Ps w0) (p0 : Nat) (p1 : Int32) (p2 : Int32) (gdR : Nat → Int32) (h_p0 : (p0, 55) ∈ Ps) (r_p1 : RI p1 (-2147483648) 2147483647) (r_p2 : RI p2 (-2147483648) 2147483647) (x_HD_p0_gdR : AX 14 34 (HDp gdR) Ps w0 p0) : Met l yX10_when (Cond.code yX10_when cX10_when 4 (some .int) :: gT) ({ frames := 5, cells := 0, slots := 0, locals := 1000 } : Room) (va_Pc [.ref p0, .int p1, .int p2] (PRE D cy z w0 sz)) (va_Qi (fun (r : Int32) (u : va_W) => ((AX 14 34 (HDp gdR) Ps u p0) ∧ (RI r (-1) 60 ∧ (r = 0 → True) ∧ (¬ r = 0 → True))) ∧ HT cy GG Ps u ∧ FR wr_X10_when__1 wa_X10_when__1 Ps w0 u) (BB D cy (va_A w0 sz) (fun (u : va_W) => u)) (va_A w0 sz)) 0 0 (va_A w0 sz) := by
  refine Met.ofW (cc := cX10_when) (maxL := 4) (ret := (some .int)) (by decide) rfl ?_
  intro p e s m args below meth c s₁ B hml hv
  obtain ⟨rfl, hsz, hP, hK, hD0, hSD⟩ := hv
  have hx := B.exec
  have hb := B.bytes
  have hr := B.returns
  have hlocks := B.notSynchronized
  have hts : ∀ w ∈ gT, w.before _ s = true := fun w h => atoms_spec (ws := Cond.code yX10_when cX10_when 4 (some .int) :: gT) B.pre w (List.mem_cons_of_mem _ h)
  have hown : s.vm.findClass RX10 = some m.cls := findClass_of_methodNamed B.named
  subst hsz
  have hD := hD0.self (sz := s.heap.size)
  generalize hAe : va_A w0 s.heap.size = A at hD hSD ⊢
  have hA : ∀ q : Nat, s.heap.size ≤ q → A q := fun q h => by rw [← hAe]; exact Or.inr h
  have hl := lv_entry ([.ref p0, .int p1, .int p2]) (n := 4) (Nat.le_of_ble_eq_true rfl)
  rw [lg_entry_eq]
  generalize (lg_sl ([.ref p0, .int p1, .int p2]) ++ List.replicate (4 - (lg_sl ([.ref p0, .int p1, .int p2])).length) Slot.unset).toArray = ls at hl ⊢
  have hl : lv_has ls 4 [(0, .ref p0), (1, .int p1), (2, .int p2)] := hl
  refine nameQ (fun Q hQ => ?_)
  have hw : WD D cy GG A s wr_X10_when__1 wa_X10_when__1 Ps w0 Ps w0 s.heap [] := ⟨hT, hP, hD, va_S.rf, FR.rf, hT.1, [], (List.append_nil _).symm⟩
  have B73 : ∀ (x3 : Int32) (z0_0 : Int32) (ws : va_W) (H : Heap) (locs : List Loc) (ls : Array Slot), RI p1 0 5 → RI p2 0 5 → RI x3 0 61 → RI z0_0 0 0 → FLD ws p0 10 0 (.int z0_0) → AX 14 34 (HDp gdR) Ps ws p0 → WD D cy GG A s wr_X10_when__1 wa_X10_when__1 Ps w0 Ps ws H locs → lv_has ls 4 [(0, .ref p0), (1, .int p1), (2, .int p2), (3, .int x3)] → W p l e (headSpec (Cond.code yX10_when cX10_when 4 (some .int) :: gT) ({ frames := 5, cells := 0, slots := 0, locals := 1000 } : Room)).room s m ([.ref p0, .int p1, .int p2] : List Value).toArray below meth c H locs 0 0 Q (F0 m 73 ls []) := by
    intro x3 z0_0 ws H locs ls r_p1 r_p2 r_x3 r_z0_0 m_z0_0 x_HD_p0_gdR hw hl
    refine lv_aload_n hx hb dX10_when_73 rfl (lv_at hl 0 rfl) ?_
    refine tk_v (va_runV (As := []) (rest := []) ⟨hx, hb, hml, hown, hts⟩ (c_X10_takeBack__1 l D cy z H.size Ps ws hw.1 p0 (gdR) h_p0 x_HD_p0_gdR) (cwV 0 hts (gV tw_1587 tw_1589 ts_89 tw_15 tw_1590) rfl rfl rfl (by decide +kernel) ⟨Nat.le_of_ble_eq_true rfl, Nat.le_of_ble_eq_true rfl⟩) (tg_preV hw hK hSD hA (ci := 10) (q := (RX10, TX10, 49)) rfl h_p0 rfl) rfl rfl hl.1 rfl (lv_room (Nat.le_of_ble_eq_true rfl)) dX10_when_74 ⟨Nat.le_of_ble_eq_true rfl, Nat.le_of_ble_eq_true rfl⟩) hw hA ⟨by decide, by decide⟩ (fun ws H locs hp_v_1 hw hF9 => ?_)
    have m_z0_0 := FLD.over hF9 m_z0_0 (by decide)
    obtain ⟨x_HD_p0_gdR, hp_v_1⟩ := hp_v_1
    refine lv_iload_n hx hb dX10_when_77 rfl (lv_at hl 3 rfl) ?_
    refine lv_bipush (v := 60) hx hb dX10_when_78 (by decide) ?_
    refine lv_icmp_le (tgt := 87) hx hb dX10_when_80 (by decide) (fun c_80 => ?_) (fun c_80 => ?_)
    · have r_x3 : RI x3 0 60 := rc_le1 r_x3 rl_60 (ti_le c_80) (by decide)
      refine lv_iload_n hx hb dX10_when_87 rfl (lv_at hl 3 rfl) ?_
      subst hQ
      exact W.iret (v := x3) hx hb hr (fun t ht hW => ⟨⟨x3, ws, rfl, ⟨⟨x_HD_p0_gdR, r_x3.to (by decide), (fun h0 => trivial), (fun h0 => trivial)⟩, hw.1, hw.2.2.2.2.1⟩, by rw [ht]; exact hw.2.1, va_K.moved hW.alike hK, hw.2.2.1⟩, hw.2.2.2.1.F ht⟩) hw.2.2.2.1.2.2 dX10_when_88
    · have r_x3 : RI x3 61 61 := rc_lt2 rl_60 r_x3 (ti_nle c_80) (by decide)
      refine lv_iconst (v := (-1)) hx hb dX10_when_83 (by decide) ?_
      refine lv_goto (tgt := 88) hx hb dX10_when_84 (by decide) ?_
      subst hQ
      exact W.iret (v := (-1)) hx hb hr (fun t ht hW => ⟨⟨(-1), ws, rfl, ⟨⟨x_HD_p0_gdR, rl_m1.to (by decide), (fun _ => trivial), (fun h0 => trivial)⟩, hw.1, hw.2.2.2.2.1⟩, by rw [ht]; exact hw.2.1, va_K.moved hW.alike hK, hw.2.2.1⟩, hw.2.2.2.1.F ht⟩) hw.2.2.2.1.2.2 dX10_when_88
  have B29 : ∀ (nf : Nat) (x3 : Int32) (z0_0 : Int32) (ws : va_W) (H : Heap) (locs : List Loc) (ls : Array Slot), 61 - x3.toInt < (nf : Int) → RI p1 0 5 → RI p2 0 5 → RI x3 0 61 → RI z0_0 0 0 → FLD ws p0 10 0 (.int z0_0) → AX 14 34 (HDp gdR) Ps ws p0 → WD D cy GG A s wr_X10_when__1 wa_X10_when__1 Ps w0 Ps ws H locs → lv_has ls 4 [(0, .ref p0), (1, .int p1), (2, .int p2), (3, .int x3)] → W p l e (headSpec (Cond.code yX10_when cX10_when 4 (some .int) :: gT) ({ frames := 5, cells := 0, slots := 0, locals := 1000 } : Room)).room s m ([.ref p0, .int p1, .int p2] : List Value).toArray below meth c H locs 0 0 Q (F0 m 29 ls []) := by
    intro nf29
    induction nf29 with
    | zero =>
      intro x3 z0_0 ws H locs ls hn29 r_p1 r_p2 r_x3 r_z0_0 m_z0_0 x_HD_p0_gdR hw hl
      exact absurd hn29 (by have q0 := r_x3.1; have u0 := r_x3.2; omega)
    | succ nf29 ih29 =>
      intro x3 z0_0 ws H locs ls hn29 r_p1 r_p2 r_x3 r_z0_0 m_z0_0 x_HD_p0_gdR hw hl
      refine lv_iload_n hx hb dX10_when_29 rfl (lv_at hl 3 rfl) ?_
      refine lv_bipush (v := 60) hx hb dX10_when_30 (by decide) ?_
      refine lv_icmp_gt (tgt := 73) hx hb dX10_when_32 (by decide) (fun c_32 => ?_) (fun c_32 => ?_)
      · have r_x3 : RI x3 61 61 := rc_lt2 rl_60 r_x3 (ti_lt c_32) (by decide)
        exact B73 x3 z0_0 ws _ _ ls r_p1 r_p2 (r_x3.to (by decide)) r_z0_0 m_z0_0 x_HD_p0_gdR hw hl
      · have r_x3 : RI x3 0 60 := rc_le1 r_x3 rl_60 (ti_nlt c_32) (by decide)
        refine lv_aload_n hx hb dX10_when_35 rfl (lv_at hl 0 rfl) ?_
        refine lv_iload_n hx hb dX10_when_36 rfl (lv_at hl 1 rfl) ?_
        refine tk_ir (va_runV (As := [.int p1]) (rest := []) ⟨hx, hb, hml, hown, hts⟩ (c_X10_whatIs l D cy z H.size Ps ws hw.1 p0 p1 h_p0 r_p1) (cwV 1 hts (gV tw_1449 tw_1451 ts_69 tw_15 tw_1452) rfl rfl rfl (by decide +kernel) ⟨Nat.le_of_ble_eq_true rfl, Nat.le_of_ble_eq_true rfl⟩) (tg_preV hw hK hSD hA (ci := 10) (q := (RX10, TX10, 49)) rfl h_p0 rfl) rfl rfl hl.1 rfl (lv_room (Nat.le_of_ble_eq_true rfl)) dX10_when_37 ⟨Nat.le_of_ble_eq_true rfl, Nat.le_of_ble_eq_true rfl⟩) hw hA (fun v_2  H locs hp_v_2 hw => ?_)
        have r_v_2 : RI v_2 (-1) 5 := hp_v_2.1
        by_cases c9_v_2 : v_2.toInt < 0
        · have r_v_2 : RI v_2 (-1) (-1) := by unfold RI at r_v_2 ⊢; omega
          have x_NB_p0_p1 := (hp_v_2.2.2.2.2.1 (by omega)).1
          refine lv_iload_n hx hb dX10_when_40 rfl (lv_at hl 2 rfl) ?_
          refine lv_icmp_eq (tgt := 73) hx hb dX10_when_41 (by decide) (fun c_41 => ?_) (fun c_41 => ?_)
          · have r_v_2 : RI v_2 0 (-1) := rc_eq1 r_v_2 r_p2 (ti_eq c_41) (by decide)
            have r_p2 : RI p2 0 (-1) := rc_eq2 r_v_2 r_p2 (ti_eq c_41) (by decide)
            exact (r_v_2.no (by decide)).elim
          · refine lv_aload_n hx hb dX10_when_44 rfl (lv_at hl 0 rfl) ?_
            refine tg_get (ci := 10) (ts := ty_MODEL) (C := RX10) (T := TX10) (N := 49) hx hb hts inX10 hown hK hw h_p0 rfl rfl 14 (by decide) (hts _ tw_1151) (fun _ h9 => h9) (ft := vR 34) rfl dX10_when_45 (fun u_3 hv_u_3 m_u_3 => ?_)
            obtain ⟨vu_3, rfl, h_vu_3⟩ := hv_u_3
            refine lv_bipush (v := 84) hx hb dX10_when_48 (by decide) ?_
            refine tg_iald (lo := (-2147483648)) (hi := 2147483647) hx hb hK hw h_vu_3 rfl 84 84 rl_84 (by decide) (by decide +kernel) dX10_when_50 (fun v_4 r_v_4 m_v_4 o_v_4 => ?_)
            refine lv_sipush (v := 400) hx hb dX10_when_51 (by decide) ?_
            refine lv_icmp_ne (tgt := 63) hx hb dX10_when_54 (by decide) (fun c_54 => ?_) (fun c_54 => ?_)
            · refine lv_aload_n hx hb dX10_when_63 rfl (lv_at hl 0 rfl) ?_
              have hw8 := hw
              refine tk_v (va_runV (As := []) (rest := []) ⟨hx, hb, hml, hown, hts⟩ (c_X10_oneDay__1 l D cy z H.size Ps ws hw.1 p0 (gdR) h_p0 x_HD_p0_gdR) (cwV 0 hts (gV tw_1564 tw_1566 ts_85 tw_15 tw_1567) rfl rfl rfl (by decide +kernel) ⟨Nat.le_of_ble_eq_true rfl, Nat.le_of_ble_eq_true rfl⟩) (tg_preV hw hK hSD hA (ci := 10) (q := (RX10, TX10, 49)) rfl h_p0 rfl) rfl rfl hl.1 rfl (lv_room (Nat.le_of_ble_eq_true rfl)) dX10_when_64 ⟨Nat.le_of_ble_eq_true rfl, Nat.le_of_ble_eq_true rfl⟩) hw hA ⟨by decide, by decide⟩ (fun ws H locs hp_v_5 hw hF9 => ?_)
              have m_z0_0 := FLD.over hF9 m_z0_0 (by decide)
              have m_u_3 := FLD.over hF9 m_u_3 (by decide)
              obtain ⟨x_HD_p0_gdR, hp_v_5⟩ := hp_v_5
              obtain ⟨v_6, e_v_6⟩ : ∃ q9 : Int32, q9 = x3 + Int32.ofInt 1 := ⟨_, rfl⟩
              obtain ⟨t_v_6, r_v_6⟩ := tq_add (lo := 1) (hi := 61) r_x3 (show RI (Int32.ofInt 1) 1 1 by unfold RI; decide +kernel) (by decide +kernel) e_v_6
              have t_v_6 : v_6.toInt = x3.toInt + 1 := t_v_6
              refine lv_iinc (v := v_6) (lv' := [(3, .int v_6), (0, .ref p0), (1, .int p1), (2, .int p2)]) hx hb dX10_when_67 hl (k := 3) rfl e_v_6.symm (by decide) rfl (fun ls hl => ?_)
              refine lv_goto (tgt := 29) hx hb dX10_when_70 (by decide) ?_
              exact ih29 v_6 z0_0 ws _ _ ls (by have q0 := r_v_6.1; have u0 := r_v_6.2; have o0 := r_x3.1; have p0 := r_x3.2; omega) r_p1 r_p2 (r_v_6.to (by decide)) r_z0_0 m_z0_0 x_HD_p0_gdR hw (lv_sub hl [1, 2, 3, 0] rfl)
            · have r_v_4 : RI v_4 400 400 := rc_eq1 r_v_4 rl_400 (ti_eq c_54) (by decide)
              refine lv_bipush (v := 60) hx hb dX10_when_57 (by decide) ?_
              refine lv_istore_n (lv' := [(3, .int 60), (0, .ref p0), (1, .int p1), (2, .int p2)]) hx hb dX10_when_59 rfl hl (by decide) rfl (fun ls hl => ?_)
              refine lv_goto (tgt := 67) hx hb dX10_when_60 (by decide) ?_
              refine lv_iinc (v := 61) (lv' := [(3, .int 61), (0, .ref p0), (1, .int p1), (2, .int p2)]) hx hb dX10_when_67 hl (k := 0) rfl (by decide) (by decide) rfl (fun ls hl => ?_)
              refine lv_goto (tgt := 29) hx hb dX10_when_70 (by decide) ?_
              exact ih29 61 z0_0 ws _ _ ls (by have q0 := rl_61.1; have u0 := rl_61.2; have o0 := r_x3.1; have p0 := r_x3.2; omega) r_p1 r_p2 (rl_61.to (by decide)) r_z0_0 m_z0_0 x_HD_p0_gdR hw (lv_sub hl [1, 2, 3, 0] rfl)
        · have r_v_2 : RI v_2 0 5 := by unfold RI at r_v_2 ⊢; omega
          have x_WB_p0_p1_v_2 := (hp_v_2.2.2.2.2.2 (by omega)).1
          refine lv_iload_n hx hb dX10_when_40 rfl (lv_at hl 2 rfl) ?_
          refine lv_icmp_eq (tgt := 73) hx hb dX10_when_41 (by decide) (fun c_41 => ?_) (fun c_41 => ?_)
          · exact B73 x3 z0_0 ws _ _ ls r_p1 r_p2 (r_x3.to (by decide)) r_z0_0 m_z0_0 x_HD_p0_gdR hw hl
          · refine lv_aload_n hx hb dX10_when_44 rfl (lv_at hl 0 rfl) ?_
            refine tg_get (ci := 10) (ts := ty_MODEL) (C := RX10) (T := TX10) (N := 49) hx hb hts inX10 hown hK hw h_p0 rfl rfl 14 (by decide) (hts _ tw_1151) (fun _ h9 => h9) (ft := vR 34) rfl dX10_when_45 (fun u_7 hv_u_7 m_u_7 => ?_)
            obtain ⟨vu_7, rfl, h_vu_7⟩ := hv_u_7
            refine lv_bipush (v := 84) hx hb dX10_when_48 (by decide) ?_
            refine tg_iald (lo := (-2147483648)) (hi := 2147483647) hx hb hK hw h_vu_7 rfl 84 84 rl_84 (by decide) (by decide +kernel) dX10_when_50 (fun v_8 r_v_8 m_v_8 o_v_8 => ?_)
            refine lv_sipush (v := 400) hx hb dX10_when_51 (by decide) ?_
            refine lv_icmp_ne (tgt := 63) hx hb dX10_when_54 (by decide) (fun c_54 => ?_) (fun c_54 => ?_)
            · refine lv_aload_n hx hb dX10_when_63 rfl (lv_at hl 0 rfl) ?_
              have hw8 := hw
              refine tk_v (va_runV (As := []) (rest := []) ⟨hx, hb, hml, hown, hts⟩ (c_X10_oneDay__1 l D cy z H.size Ps ws hw.1 p0 (gdR) h_p0 x_HD_p0_gdR) (cwV 0 hts (gV tw_1564 tw_1566 ts_85 tw_15 tw_1567) rfl rfl rfl (by decide +kernel) ⟨Nat.le_of_ble_eq_true rfl, Nat.le_of_ble_eq_true rfl⟩) (tg_preV hw hK hSD hA (ci := 10) (q := (RX10, TX10, 49)) rfl h_p0 rfl) rfl rfl hl.1 rfl (lv_room (Nat.le_of_ble_eq_true rfl)) dX10_when_64 ⟨Nat.le_of_ble_eq_true rfl, Nat.le_of_ble_eq_true rfl⟩) hw hA ⟨by decide, by decide⟩ (fun ws H locs hp_v_9 hw hF9 => ?_)
              have m_z0_0 := FLD.over hF9 m_z0_0 (by decide)
              have m_u_7 := FLD.over hF9 m_u_7 (by decide)
              obtain ⟨x_HD_p0_gdR, hp_v_9⟩ := hp_v_9
              obtain ⟨v_10, e_v_10⟩ : ∃ q9 : Int32, q9 = x3 + Int32.ofInt 1 := ⟨_, rfl⟩
              obtain ⟨t_v_10, r_v_10⟩ := tq_add (lo := 1) (hi := 61) r_x3 (show RI (Int32.ofInt 1) 1 1 by unfold RI; decide +kernel) (by decide +kernel) e_v_10
              have t_v_10 : v_10.toInt = x3.toInt + 1 := t_v_10
              refine lv_iinc (v := v_10) (lv' := [(3, .int v_10), (0, .ref p0), (1, .int p1), (2, .int p2)]) hx hb dX10_when_67 hl (k := 3) rfl e_v_10.symm (by decide) rfl (fun ls hl => ?_)
              refine lv_goto (tgt := 29) hx hb dX10_when_70 (by decide) ?_
              exact ih29 v_10 z0_0 ws _ _ ls (by have q0 := r_v_10.1; have u0 := r_v_10.2; have o0 := r_x3.1; have p0 := r_x3.2; omega) r_p1 r_p2 (r_v_10.to (by decide)) r_z0_0 m_z0_0 x_HD_p0_gdR hw (lv_sub hl [1, 2, 3, 0] rfl)
            · have r_v_8 : RI v_8 400 400 := rc_eq1 r_v_8 rl_400 (ti_eq c_54) (by decide)
              refine lv_bipush (v := 60) hx hb dX10_when_57 (by decide) ?_
              refine lv_istore_n (lv' := [(3, .int 60), (0, .ref p0), (1, .int p1), (2, .int p2)]) hx hb dX10_when_59 rfl hl (by decide) rfl (fun ls hl => ?_)
              refine lv_goto (tgt := 67) hx hb dX10_when_60 (by decide) ?_
              refine lv_iinc (v := 61) (lv' := [(3, .int 61), (0, .ref p0), (1, .int p1), (2, .int p2)]) hx hb dX10_when_67 hl (k := 0) rfl (by decide) (by decide) rfl (fun ls hl => ?_)
              refine lv_goto (tgt := 29) hx hb dX10_when_70 (by decide) ?_
              exact ih29 61 z0_0 ws _ _ ls (by have q0 := rl_61.1; have u0 := rl_61.2; have o0 := r_x3.1; have p0 := r_x3.2; omega) r_p1 r_p2 (rl_61.to (by decide)) r_z0_0 m_z0_0 x_HD_p0_gdR hw (lv_sub hl [1, 2, 3, 0] rfl)
  refine lv_aload_n hx hb dX10_when_0 rfl (lv_at hl 0 rfl) ?_
  refine lv_iconst (v := 0) hx hb dX10_when_1 (by decide) ?_
  refine tg_put (ci := 10) (ts := ty_MODEL) (v := .int 0) (ty := .int) (C := RX10) (T := TX10) (N := 49) hx hb hts inX10 tyX10 tyX10_ok nmX10 hown hK hw h_p0 rfl rfl 0 (by decide) (hts _ tw_1137) (fun _ h9 => h9) rfl (by decide +kernel) rfl rfl (ft := vI (-2147483648) 2147483647) rfl ⟨_, rfl, (rl_0.to (by decide))⟩ (by decide) dX10_when_2 (fun ws H locs hw n_k_11 hF9 => ?_)
  have x_HD_p0_gdR := AX.over hF9 x_HD_p0_gdR (by decide)
  refine lv_aload_n hx hb dX10_when_5 rfl (lv_at hl 0 rfl) ?_
  refine lv_iload_n hx hb dX10_when_6 rfl (lv_at hl 1 rfl) ?_
  refine tk_ir (va_runV (As := [.int p1]) (rest := []) ⟨hx, hb, hml, hown, hts⟩ (c_X10_isParcel l D cy z H.size Ps ws hw.1 p0 p1 h_p0 r_p1) (cwV 1 hts (gV tw_1429 tw_1431 ts_65 tw_15 tw_1432) rfl rfl rfl (by decide +kernel) ⟨Nat.le_of_ble_eq_true rfl, Nat.le_of_ble_eq_true rfl⟩) (tg_preV hw hK hSD hA (ci := 10) (q := (RX10, TX10, 49)) rfl h_p0 rfl) rfl rfl hl.1 rfl (lv_room (Nat.le_of_ble_eq_true rfl)) dX10_when_7 ⟨Nat.le_of_ble_eq_true rfl, Nat.le_of_ble_eq_true rfl⟩) hw hA (fun v_12  H locs hp_v_12 hw => ?_)
  have r_v_12 : RI v_12 0 1 := hp_v_12.1
  refine lv_if_eq (tgt := 21) hx hb dX10_when_10 (by decide) (fun c_10 => ?_) (fun c_10 => ?_)
  · have r_v_12 : RI v_12 0 0 := rc_eq1 r_v_12 rl_0 (ti_eq c_10) (by decide)
    refine lv_iconst (v := (-1)) hx hb dX10_when_21 (by decide) ?_
    subst hQ
    exact W.iret (v := (-1)) hx hb hr (fun t ht hW => ⟨⟨(-1), ws, rfl, ⟨⟨x_HD_p0_gdR, rl_m1.to (by decide), (fun _ => trivial), (fun h0 => trivial)⟩, hw.1, hw.2.2.2.2.1⟩, by rw [ht]; exact hw.2.1, va_K.moved hW.alike hK, hw.2.2.1⟩, hw.2.2.2.1.F ht⟩) hw.2.2.2.1.2.2 dX10_when_22
  · have r_v_12 : RI v_12 1 1 := rc_neL r_v_12 rl_0 (ti_ne c_10) (by decide)
    have r_p1 : RI p1 0 5 := ((hp_v_12.2.2 c_10).1)
    refine lv_aload_n hx hb dX10_when_13 rfl (lv_at hl 0 rfl) ?_
    refine lv_iload_n hx hb dX10_when_14 rfl (lv_at hl 2 rfl) ?_
    refine tk_ir (va_runV (As := [.int p2]) (rest := []) ⟨hx, hb, hml, hown, hts⟩ (c_X10_isIdea l D cy z H.size Ps ws hw.1 p0 p2 h_p0 r_p2) (cwV 1 hts (gV tw_1433 tw_1435 ts_66 tw_15 tw_1436) rfl rfl rfl (by decide +kernel) ⟨Nat.le_of_ble_eq_true rfl, Nat.le_of_ble_eq_true rfl⟩) (tg_preV hw hK hSD hA (ci := 10) (q := (RX10, TX10, 49)) rfl h_p0 rfl) rfl rfl hl.1 rfl (lv_room (Nat.le_of_ble_eq_true rfl)) dX10_when_15 ⟨Nat.le_of_ble_eq_true rfl, Nat.le_of_ble_eq_true rfl⟩) hw hA (fun v_13  H locs hp_v_13 hw => ?_)
    have r_v_13 : RI v_13 0 1 := hp_v_13.1
    refine lv_if_ne (tgt := 23) hx hb dX10_when_18 (by decide) (fun c_18 => ?_) (fun c_18 => ?_)
    · have r_v_13 : RI v_13 1 1 := rc_neL r_v_13 rl_0 (ti_ne c_18) (by decide)
      have r_p2 : RI p2 0 5 := ((hp_v_13.2.2 c_18).1)
      refine lv_aload_n hx hb dX10_when_23 rfl (lv_at hl 0 rfl) ?_
      refine tk_v (va_runV (As := []) (rest := []) ⟨hx, hb, hml, hown, hts⟩ (c_X10_layAside l D cy z H.size Ps ws hw.1 p0 h_p0) (cwV 0 hts (gV tw_1583 tw_1585 ts_88 tw_15 tw_1586) rfl rfl rfl (by decide +kernel) ⟨Nat.le_of_ble_eq_true rfl, Nat.le_of_ble_eq_true rfl⟩) (tg_preV hw hK hSD hA (ci := 10) (q := (RX10, TX10, 49)) rfl h_p0 rfl) rfl rfl hl.1 rfl (lv_room (Nat.le_of_ble_eq_true rfl)) dX10_when_24 ⟨Nat.le_of_ble_eq_true rfl, Nat.le_of_ble_eq_true rfl⟩) hw hA ⟨by decide, by decide⟩ (fun ws H locs hp_v_14 hw hF9 => ?_)
      have n_k_11 := FLD.over hF9 n_k_11 (by decide)
      have x_HD_p0_gdR := AX.over hF9 x_HD_p0_gdR (by decide)
      refine lv_iconst (v := 0) hx hb dX10_when_27 (by decide) ?_
      refine lv_istore_n (lv' := [(3, .int 0), (0, .ref p0), (1, .int p1), (2, .int p2)]) hx hb dX10_when_28 rfl hl (by decide) rfl (fun ls hl => ?_)
      exact B29 4294967298 0 0 ws _ _ ls (by have q0 := rl_0.1; have u0 := rl_0.2; omega) r_p1 r_p2 (rl_0.to (by decide)) rl_0 n_k_11 x_HD_p0_gdR hw (lv_sub hl [1, 2, 3, 0] rfl)
    · have r_v_13 : RI v_13 0 0 := rc_eq1 r_v_13 rl_0 (ti_eq c_18) (by decide)
      refine lv_iconst (v := (-1)) hx hb dX10_when_21 (by decide) ?_
      subst hQ
      exact W.iret (v := (-1)) hx hb hr (fun t ht hW => ⟨⟨(-1), ws, rfl, ⟨⟨x_HD_p0_gdR, rl_m1.to (by decide), (fun _ => trivial), (fun h0 => trivial)⟩, hw.1, hw.2.2.2.2.1⟩, by rw [ht]; exact hw.2.1, va_K.moved hW.alike hK, hw.2.2.1⟩, hw.2.2.2.1.F ht⟩) hw.2.2.2.1.2.2 dX10_when_22
abbrev wr_X10_act__11 : List (Nat × Nat) := [(10, 25)]
abbrev wa_X10_act__11 : List Nat := [34, 37]
set_option maxHeartbeats 4000000 in
set_option maxRecDepth 100000 in
theorem c_X10_act__11 (l : Launch) (D : va_G) (cy : Nat → ClassId) (z : Nat → Nat) (sz : Nat) (Ps : PSI) (w0 : va_W) (hT : HT cy GG Ps w0) (p0 : Nat) (p1 : Int32) (p2 : Int32) (p3 : Int32) (gdR : Nat → Int32) (h_p0 : (p0, 55) ∈ Ps) (r_p1 : RI p1 2 2) (r_p2 : RI p2 0 7) (r_p3 : RI p3 0 5) (x_HD_p0_gdR : AX 14 34 (HDp gdR) Ps w0 p0) : Met l yX10_act (Cond.code yX10_act cX10_act 5 (some .int) :: gT) ({ frames := 2, cells := 0, slots := 0, locals := 400 } : Room) (va_Pc [.ref p0, .int p1, .int p2, .int p3] (PRE D cy z w0 sz)) (va_Qi (fun (r : Int32) (u : va_W) => ((AX 14 34 (HDp gdR) Ps u p0) ∧ (RI r 0 1 ∧ (r = 0 → (∃ v9 : Int32, FLD u p0 10 25 (.int v9) ∧ RI v9 1 8) ∧ True) ∧ (¬ r = 0 → True))) ∧ HT cy GG Ps u ∧ FR wr_X10_act__11 wa_X10_act__11 Ps w0 u) (BB D cy (va_A w0 sz) (fun (u : va_W) => u)) (va_A w0 sz)) 0 0 (va_A w0 sz) := by
  refine Met.ofW (cc := cX10_act) (maxL := 5) (ret := (some .int)) (by decide) rfl ?_
  intro p e s m args below meth c s₁ B hml hv
  obtain ⟨rfl, hsz, hP, hK, hD0, hSD⟩ := hv
  have hx := B.exec
  have hb := B.bytes
  have hr := B.returns
  have hlocks := B.notSynchronized
  have hts : ∀ w ∈ gT, w.before _ s = true := fun w h => atoms_spec (ws := Cond.code yX10_act cX10_act 5 (some .int) :: gT) B.pre w (List.mem_cons_of_mem _ h)
  have hown : s.vm.findClass RX10 = some m.cls := findClass_of_methodNamed B.named
  subst hsz
  have hD := hD0.self (sz := s.heap.size)
  generalize hAe : va_A w0 s.heap.size = A at hD hSD ⊢
  have hA : ∀ q : Nat, s.heap.size ≤ q → A q := fun q h => by rw [← hAe]; exact Or.inr h
  have hl := lv_entry ([.ref p0, .int p1, .int p2, .int p3]) (n := 5) (Nat.le_of_ble_eq_true rfl)
  rw [lg_entry_eq]
  generalize (lg_sl ([.ref p0, .int p1, .int p2, .int p3]) ++ List.replicate (5 - (lg_sl ([.ref p0, .int p1, .int p2, .int p3])).length) Slot.unset).toArray = ls at hl ⊢
  have hl : lv_has ls 5 [(0, .ref p0), (1, .int p1), (2, .int p2), (3, .int p3)] := hl
  refine nameQ (fun Q hQ => ?_)
  have hw : WD D cy GG A s wr_X10_act__11 wa_X10_act__11 Ps w0 Ps w0 s.heap [] := ⟨hT, hP, hD, va_S.rf, FR.rf, hT.1, [], (List.append_nil _).symm⟩
  refine lv_aload_n hx hb dX10_act_0 rfl (lv_at hl 0 rfl) ?_
  refine lv_iload_n hx hb dX10_act_1 rfl (lv_at hl 1 rfl) ?_
  refine lv_iload_n hx hb dX10_act_2 rfl (lv_at hl 2 rfl) ?_
  refine lv_iload_n hx hb dX10_act_3 rfl (lv_at hl 3 rfl) ?_
  refine tk_ir (va_runV (As := [.int p1, .int p2, .int p3]) (rest := []) ⟨hx, hb, hml, hown, hts⟩ (c_X10_why__5 l D cy z s.heap.size Ps w0 hw.1 p0 p1 p2 p3 h_p0 r_p1 r_p2 r_p3) (cwV 3 hts (gV tw_1501 tw_1503 ts_77 tw_15 tw_1504) rfl rfl rfl (by decide +kernel) ⟨Nat.le_of_ble_eq_true rfl, Nat.le_of_ble_eq_true rfl⟩) (tg_preV hw hK hSD hA (ci := 10) (q := (RX10, TX10, 49)) rfl h_p0 rfl) rfl rfl hl.1 rfl (lv_room (Nat.le_of_ble_eq_true rfl)) dX10_act_4 ⟨Nat.le_of_ble_eq_true rfl, Nat.le_of_ble_eq_true rfl⟩) hw hA (fun v_1  H locs hp_v_1 hw => ?_)
  have r_v_1 : RI v_1 0 1 := hp_v_1.1
  refine lv_istore (lv' := [(4, .int v_1), (0, .ref p0), (1, .int p1), (2, .int p2), (3, .int p3)]) hx hb dX10_act_7 hl (by decide) rfl (fun ls hl => ?_)
  refine lv_iload hx hb dX10_act_9 (lv_at hl 0 rfl) ?_
  refine lv_if_eq (tgt := 17) hx hb dX10_act_11 (by decide) (fun c_11 => ?_) (fun c_11 => ?_)
  · have r_v_1 : RI v_1 0 0 := rc_eq1 r_v_1 rl_0 (ti_eq c_11) (by decide)
    refine lv_aload_n hx hb dX10_act_17 rfl (lv_at hl 1 rfl) ?_
    refine tk_v (va_runV (As := []) (rest := []) ⟨hx, hb, hml, hown, hts⟩ (c_X10_snap l D cy z H.size Ps w0 hw.1 p0 h_p0) (cwV 0 hts (gV tw_1505 tw_1507 ts_78 tw_15 tw_1508) rfl rfl rfl (by decide +kernel) ⟨Nat.le_of_ble_eq_true rfl, Nat.le_of_ble_eq_true rfl⟩) (tg_preV hw hK hSD hA (ci := 10) (q := (RX10, TX10, 49)) rfl h_p0 rfl) rfl rfl hl.1 rfl (lv_room (Nat.le_of_ble_eq_true rfl)) dX10_act_18 ⟨Nat.le_of_ble_eq_true rfl, Nat.le_of_ble_eq_true rfl⟩) hw hA ⟨by decide, by decide⟩ (fun ws H locs hp_v_2 hw hF9 => ?_)
    have x_HD_p0_gdR := AX.over hF9 x_HD_p0_gdR (by decide)
    obtain ⟨v_3, m_v_3, r_v_3⟩ := (hp_v_2.1)
    refine lv_aload_n hx hb dX10_act_21 rfl (lv_at hl 1 rfl) ?_
    refine lv_iload_n hx hb dX10_act_22 rfl (lv_at hl 2 rfl) ?_
    refine lv_iload_n hx hb dX10_act_23 rfl (lv_at hl 3 rfl) ?_
    refine lv_iload_n hx hb dX10_act_24 rfl (lv_at hl 4 rfl) ?_
    refine tk_v (va_runV (As := [.int p1, .int p2, .int p3]) (rest := []) ⟨hx, hb, hml, hown, hts⟩ (c_X10_live__11 l D cy z H.size Ps ws hw.1 p0 p1 p2 p3 (gdR) h_p0 r_p1 r_p2 r_p3 x_HD_p0_gdR) (cwV 3 hts (gV tw_1509 tw_1511 ts_79 tw_15 tw_1512) rfl rfl rfl (by decide +kernel) ⟨Nat.le_of_ble_eq_true rfl, Nat.le_of_ble_eq_true rfl⟩) (tg_preV hw hK hSD hA (ci := 10) (q := (RX10, TX10, 49)) rfl h_p0 rfl) rfl rfl hl.1 rfl (lv_room (Nat.le_of_ble_eq_true rfl)) dX10_act_25 ⟨Nat.le_of_ble_eq_true rfl, Nat.le_of_ble_eq_true rfl⟩) hw hA ⟨by decide, by decide⟩ (fun ws H locs hp_v_4 hw hF9 => ?_)
    have m_v_3 := FLD.over hF9 m_v_3 (by decide)
    obtain ⟨x_HD_p0_gdR, hp_v_4⟩ := hp_v_4
    refine lv_iconst (v := 0) hx hb dX10_act_28 (by decide) ?_
    subst hQ
    exact W.iret (v := 0) hx hb hr (fun t ht hW => ⟨⟨0, ws, rfl, ⟨⟨x_HD_p0_gdR, rl_0.to (by decide), (fun h0 => ⟨⟨_, m_v_3, r_v_3⟩, trivial⟩), (fun _ => trivial)⟩, hw.1, hw.2.2.2.2.1⟩, by rw [ht]; exact hw.2.1, va_K.moved hW.alike hK, hw.2.2.1⟩, hw.2.2.2.1.F ht⟩) hw.2.2.2.1.2.2 dX10_act_29
  · have r_v_1 : RI v_1 1 1 := rc_neL r_v_1 rl_0 (ti_ne c_11) (by decide)
    refine lv_iload hx hb dX10_act_14 (lv_at hl 0 rfl) ?_
    subst hQ
    exact W.iret (v := v_1) hx hb hr (fun t ht hW => ⟨⟨v_1, w0, rfl, ⟨⟨x_HD_p0_gdR, r_v_1.to (by decide), (fun h0 => absurd (ti_eq h0) (by have h8 := r_v_1; unfold RI at h8; rw [Int32.toInt_zero]; omega)), (fun h0 => trivial)⟩, hw.1, hw.2.2.2.2.1⟩, by rw [ht]; exact hw.2.1, va_K.moved hW.alike hK, hw.2.2.1⟩, hw.2.2.2.1.F ht⟩) hw.2.2.2.1.2.2 dX10_act_16
abbrev wr_X10_wish__1 : List (Nat × Nat) := [(10, 0), (10, 25)]
abbrev wa_X10_wish__1 : List Nat := [34, 37]
set_option maxHeartbeats 4000000 in
set_option maxRecDepth 100000 in
theorem c_X10_wish__1 (l : Launch) (D : va_G) (cy : Nat → ClassId) (z : Nat → Nat) (sz : Nat) (Ps : PSI) (w0 : va_W) (hT : HT cy GG Ps w0) (p0 : Nat) (p1 : Int32) (p2 : Int32) (gdR : Nat → Int32) (h_p0 : (p0, 55) ∈ Ps) (r_p1 : RI p1 (-2147483648) 2147483647) (r_p2 : RI p2 (-2147483648) 2147483647) (x_HD_p0_gdR : AX 14 34 (HDp gdR) Ps w0 p0) : Met l yX10_wish (Cond.code yX10_wish cX10_wish 3 (some .int) :: gT) ({ frames := 3, cells := 0, slots := 0, locals := 600 } : Room) (va_Pc [.ref p0, .int p1, .int p2] (PRE D cy z w0 sz)) (va_Qi (fun (r : Int32) (u : va_W) => ((AX 14 34 (HDp gdR) Ps u p0) ∧ (RI r (-1) 1 ∧ (r = 0 → True) ∧ (¬ r = 0 → True))) ∧ HT cy GG Ps u ∧ FR wr_X10_wish__1 wa_X10_wish__1 Ps w0 u) (BB D cy (va_A w0 sz) (fun (u : va_W) => u)) (va_A w0 sz)) 0 0 (va_A w0 sz) := by
  refine Met.ofW (cc := cX10_wish) (maxL := 3) (ret := (some .int)) (by decide) rfl ?_
  intro p e s m args below meth c s₁ B hml hv
  obtain ⟨rfl, hsz, hP, hK, hD0, hSD⟩ := hv
  have hx := B.exec
  have hb := B.bytes
  have hr := B.returns
  have hlocks := B.notSynchronized
  have hts : ∀ w ∈ gT, w.before _ s = true := fun w h => atoms_spec (ws := Cond.code yX10_wish cX10_wish 3 (some .int) :: gT) B.pre w (List.mem_cons_of_mem _ h)
  have hown : s.vm.findClass RX10 = some m.cls := findClass_of_methodNamed B.named
  subst hsz
  have hD := hD0.self (sz := s.heap.size)
  generalize hAe : va_A w0 s.heap.size = A at hD hSD ⊢
  have hA : ∀ q : Nat, s.heap.size ≤ q → A q := fun q h => by rw [← hAe]; exact Or.inr h
  have hl := lv_entry ([.ref p0, .int p1, .int p2]) (n := 3) (Nat.le_of_ble_eq_true rfl)
  rw [lg_entry_eq]
  generalize (lg_sl ([.ref p0, .int p1, .int p2]) ++ List.replicate (3 - (lg_sl ([.ref p0, .int p1, .int p2])).length) Slot.unset).toArray = ls at hl ⊢
  have hl : lv_has ls 3 [(0, .ref p0), (1, .int p1), (2, .int p2)] := hl
  refine nameQ (fun Q hQ => ?_)
  have hw : WD D cy GG A s wr_X10_wish__1 wa_X10_wish__1 Ps w0 Ps w0 s.heap [] := ⟨hT, hP, hD, va_S.rf, FR.rf, hT.1, [], (List.append_nil _).symm⟩
  refine lv_aload_n hx hb dX10_wish_0 rfl (lv_at hl 0 rfl) ?_
  refine lv_iconst (v := 0) hx hb dX10_wish_1 (by decide) ?_
  refine tg_put (ci := 10) (ts := ty_MODEL) (v := .int 0) (ty := .int) (C := RX10) (T := TX10) (N := 49) hx hb hts inX10 tyX10 tyX10_ok nmX10 hown hK hw h_p0 rfl rfl 0 (by decide) (hts _ tw_1137) (fun _ h9 => h9) rfl (by decide +kernel) rfl rfl (ft := vI (-2147483648) 2147483647) rfl ⟨_, rfl, (rl_0.to (by decide))⟩ (by decide) dX10_wish_2 (fun ws H locs hw n_k_1 hF9 => ?_)
  have x_HD_p0_gdR := AX.over hF9 x_HD_p0_gdR (by decide)
  refine lv_aload_n hx hb dX10_wish_5 rfl (lv_at hl 0 rfl) ?_
  refine lv_iload_n hx hb dX10_wish_6 rfl (lv_at hl 1 rfl) ?_
  refine tk_ir (va_runV (As := [.int p1]) (rest := []) ⟨hx, hb, hml, hown, hts⟩ (c_X10_isPerson l D cy z H.size Ps ws hw.1 p0 p1 h_p0 r_p1) (cwV 1 hts (gV tw_1469 tw_1471 ts_73 tw_15 tw_1472) rfl rfl rfl (by decide +kernel) ⟨Nat.le_of_ble_eq_true rfl, Nat.le_of_ble_eq_true rfl⟩) (tg_preV hw hK hSD hA (ci := 10) (q := (RX10, TX10, 49)) rfl h_p0 rfl) rfl rfl hl.1 rfl (lv_room (Nat.le_of_ble_eq_true rfl)) dX10_wish_7 ⟨Nat.le_of_ble_eq_true rfl, Nat.le_of_ble_eq_true rfl⟩) hw hA (fun v_2  H locs hp_v_2 hw => ?_)
  have r_v_2 : RI v_2 0 1 := hp_v_2.1
  refine lv_if_eq (tgt := 31) hx hb dX10_wish_10 (by decide) (fun c_10 => ?_) (fun c_10 => ?_)
  · have r_v_2 : RI v_2 0 0 := rc_eq1 r_v_2 rl_0 (ti_eq c_10) (by decide)
    refine lv_iconst (v := (-1)) hx hb dX10_wish_31 (by decide) ?_
    subst hQ
    exact W.iret (v := (-1)) hx hb hr (fun t ht hW => ⟨⟨(-1), ws, rfl, ⟨⟨x_HD_p0_gdR, rl_m1.to (by decide), (fun _ => trivial), (fun h0 => trivial)⟩, hw.1, hw.2.2.2.2.1⟩, by rw [ht]; exact hw.2.1, va_K.moved hW.alike hK, hw.2.2.1⟩, hw.2.2.2.1.F ht⟩) hw.2.2.2.1.2.2 dX10_wish_32
  · have r_v_2 : RI v_2 1 1 := rc_neL r_v_2 rl_0 (ti_ne c_10) (by decide)
    have r_p1 : RI p1 0 7 := ((hp_v_2.2.2 c_10).1)
    refine lv_aload_n hx hb dX10_wish_13 rfl (lv_at hl 0 rfl) ?_
    refine lv_iload_n hx hb dX10_wish_14 rfl (lv_at hl 2 rfl) ?_
    refine tk_ir (va_runV (As := [.int p2]) (rest := []) ⟨hx, hb, hml, hown, hts⟩ (c_X10_isIdea l D cy z H.size Ps ws hw.1 p0 p2 h_p0 r_p2) (cwV 1 hts (gV tw_1433 tw_1435 ts_66 tw_15 tw_1436) rfl rfl rfl (by decide +kernel) ⟨Nat.le_of_ble_eq_true rfl, Nat.le_of_ble_eq_true rfl⟩) (tg_preV hw hK hSD hA (ci := 10) (q := (RX10, TX10, 49)) rfl h_p0 rfl) rfl rfl hl.1 rfl (lv_room (Nat.le_of_ble_eq_true rfl)) dX10_wish_15 ⟨Nat.le_of_ble_eq_true rfl, Nat.le_of_ble_eq_true rfl⟩) hw hA (fun v_3  H locs hp_v_3 hw => ?_)
    have r_v_3 : RI v_3 0 1 := hp_v_3.1
    refine lv_if_eq (tgt := 31) hx hb dX10_wish_18 (by decide) (fun c_18 => ?_) (fun c_18 => ?_)
    · have r_v_3 : RI v_3 0 0 := rc_eq1 r_v_3 rl_0 (ti_eq c_18) (by decide)
      refine lv_iconst (v := (-1)) hx hb dX10_wish_31 (by decide) ?_
      subst hQ
      exact W.iret (v := (-1)) hx hb hr (fun t ht hW => ⟨⟨(-1), ws, rfl, ⟨⟨x_HD_p0_gdR, rl_m1.to (by decide), (fun _ => trivial), (fun h0 => trivial)⟩, hw.1, hw.2.2.2.2.1⟩, by rw [ht]; exact hw.2.1, va_K.moved hW.alike hK, hw.2.2.1⟩, hw.2.2.2.1.F ht⟩) hw.2.2.2.1.2.2 dX10_wish_32
    · have r_v_3 : RI v_3 1 1 := rc_neL r_v_3 rl_0 (ti_ne c_18) (by decide)
      have r_p2 : RI p2 0 5 := ((hp_v_3.2.2 c_18).1)
      refine lv_aload_n hx hb dX10_wish_21 rfl (lv_at hl 0 rfl) ?_
      refine lv_iconst (v := 2) hx hb dX10_wish_22 (by decide) ?_
      refine lv_iload_n hx hb dX10_wish_23 rfl (lv_at hl 1 rfl) ?_
      refine lv_iload_n hx hb dX10_wish_24 rfl (lv_at hl 2 rfl) ?_
      refine tk_i (va_runV (As := [.int 2, .int p1, .int p2]) (rest := []) ⟨hx, hb, hml, hown, hts⟩ (c_X10_act__11 l D cy z H.size Ps ws hw.1 p0 2 p1 p2 (gdR) h_p0 rl_2 r_p1 r_p2 x_HD_p0_gdR) (cwV 3 hts (gV tw_1497 tw_1499 ts_76 tw_15 tw_1500) rfl rfl rfl (by decide +kernel) ⟨Nat.le_of_ble_eq_true rfl, Nat.le_of_ble_eq_true rfl⟩) (tg_preV hw hK hSD hA (ci := 10) (q := (RX10, TX10, 49)) rfl h_p0 rfl) rfl rfl hl.1 rfl (lv_room (Nat.le_of_ble_eq_true rfl)) dX10_wish_25 ⟨Nat.le_of_ble_eq_true rfl, Nat.le_of_ble_eq_true rfl⟩) hw hA ⟨by decide, by decide⟩ (fun v_4 ws H locs hp_v_4 hw hF9 => ?_)
      have n_k_1 := FLD.over hF9 n_k_1 (by decide)
      obtain ⟨x_HD_p0_gdR, hp_v_4⟩ := hp_v_4
      have r_v_4 : RI v_4 0 1 := hp_v_4.1
      by_cases c9_v_4 : v_4 = 0
      · have r_v_4 : RI v_4 0 0 := by rw [c9_v_4]; exact rl_0
        obtain ⟨v_5, m_v_5, r_v_5⟩ := ((hp_v_4.2.1 c9_v_4).1)
        refine lv_goto (tgt := 32) hx hb dX10_wish_28 (by decide) ?_
        subst hQ
        exact W.iret (v := v_4) hx hb hr (fun t ht hW => ⟨⟨v_4, ws, rfl, ⟨⟨x_HD_p0_gdR, r_v_4.to (by decide), (fun h0 => trivial), (fun _ => trivial)⟩, hw.1, hw.2.2.2.2.1⟩, by rw [ht]; exact hw.2.1, va_K.moved hW.alike hK, hw.2.2.1⟩, hw.2.2.2.1.F ht⟩) hw.2.2.2.1.2.2 dX10_wish_32
      · have r_v_4 : RI v_4 1 1 := rc_neL r_v_4 rl_0 (ti_ne c9_v_4) (by decide)
        refine lv_goto (tgt := 32) hx hb dX10_wish_28 (by decide) ?_
        subst hQ
        exact W.iret (v := v_4) hx hb hr (fun t ht hW => ⟨⟨v_4, ws, rfl, ⟨⟨x_HD_p0_gdR, r_v_4.to (by decide), (fun _ => trivial), (fun h0 => trivial)⟩, hw.1, hw.2.2.2.2.1⟩, by rw [ht]; exact hw.2.1, va_K.moved hW.alike hK, hw.2.2.1⟩, hw.2.2.2.1.F ht⟩) hw.2.2.2.1.2.2 dX10_wish_32
