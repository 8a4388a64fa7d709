abbrev wr_X10_put__9 : List (Nat × Nat) := []
abbrev wa_X10_put__9 : List Nat := [35]
set_option maxHeartbeats 4000000 in
set_option maxRecDepth 100000 in
theorem c_X10_put__9 (l : Launch) (D : va_G) (cy : Nat → ClassId) (z : Nat → Nat) (sz : Nat) (Ps : PSI) (w0 : va_W) (hT : HT cy GG Ps w0) (p0 : Nat) (p1 : Int32) (p2 : Int32) (f0_13 : Int32) (F : (Nat → Int32) → Prop) (F2 : (Nat → Int32) → Prop) (h_p0 : (p0, 55) ∈ Ps) (r_p1 : RI p1 24 31) (r_p2 : RI p2 1 1) (r_f0_13 : RI f0_13 0 5) (m_f0_13 : FLD w0 p0 10 13 (.int f0_13)) (x_F : AX 15 35 F Ps w0 p0) (hF : ∀ (f : Nat → Int32) (v : Int32), RI v 0 5 → F f → F2 (upd f (Int32.toNatClampNeg p1) v)) : Met l yX10_put (Cond.code yX10_put cX10_put 3 (some .boolean) :: gT) ({ frames := 0, cells := 0, slots := 0, locals := 200 } : Room) (va_Pc [.ref p0, .int p1, .int p2] (PRE D cy z w0 sz)) (va_Qi (fun (r : Int32) (u : va_W) => (RI r 1 1 ∧ (r = 0 → AX 15 35 F Ps u p0 ∧ True) ∧ (¬ r = 0 → (∃ v9 : Int32, FLD u p0 10 13 (.int v9) ∧ RI v9 0 5) ∧ AX 15 35 F2 Ps u p0 ∧ True)) ∧ HT cy GG Ps u ∧ FR wr_X10_put__9 wa_X10_put__9 Ps w0 u) (BB D cy (va_A w0 sz) (fun (u : va_W) => u)) (va_A w0 sz)) 0 0 (va_A w0 sz) := by
  refine Met.ofW (cc := cX10_put) (maxL := 3) (ret := (some .boolean)) (by decide) rfl ?_
  intro p e s m args below meth c s₁ B hml hv
  obtain ⟨rfl, hsz, hP, hK, hD0, hSD⟩ := hv
  have hx := B.exec
  have hb := B.bytes
  have hr := B.returns
  have hlocks := B.notSynchronized
  have hts : ∀ w ∈ gT, w.before _ s = true := fun w h => atoms_spec (ws := Cond.code yX10_put cX10_put 3 (some .boolean) :: gT) B.pre w (List.mem_cons_of_mem _ h)
  have hown : s.vm.findClass RX10 = some m.cls := findClass_of_methodNamed B.named
  subst hsz
  have hD := hD0.self (sz := s.heap.size)
  generalize hAe : va_A w0 s.heap.size = A at hD hSD ⊢
  have hA : ∀ q : Nat, s.heap.size ≤ q → A q := fun q h => by rw [← hAe]; exact Or.inr h
  have hl := lv_entry ([.ref p0, .int p1, .int p2]) (n := 3) (Nat.le_of_ble_eq_true rfl)
  rw [lg_entry_eq]
  generalize (lg_sl ([.ref p0, .int p1, .int p2]) ++ List.replicate (3 - (lg_sl ([.ref p0, .int p1, .int p2])).length) Slot.unset).toArray = ls at hl ⊢
  have hl : lv_has ls 3 [(0, .ref p0), (1, .int p1), (2, .int p2)] := hl
  refine nameQ (fun Q hQ => ?_)
  have hw : WD D cy GG A s wr_X10_put__9 wa_X10_put__9 Ps w0 Ps w0 s.heap [] := ⟨hT, hP, hD, va_S.rf, FR.rf, hT.1, [], (List.append_nil _).symm⟩
  refine lv_iload_n hx hb dX10_put_0 rfl (lv_at hl 2 rfl) ?_
  refine lv_if_eq (tgt := 14) hx hb dX10_put_1 (by decide) (fun c_1 => ?_) (fun c_1 => ?_)
  · have r_p2 : RI p2 1 0 := rc_eq1 r_p2 rl_0 (ti_eq c_1) (by decide)
    exact (r_p2.no (by decide)).elim
  · refine lv_aload_n hx hb dX10_put_4 rfl (lv_at hl 0 rfl) ?_
    refine tg_get (ci := 10) (ts := ty_MODEL) (C := RX10) (T := TX10) (N := 49) hx hb hts inX10 hown hK hw h_p0 rfl rfl 15 (by decide) (hts _ tw_1152) (fun _ h9 => h9) (ft := vR 35) rfl dX10_put_5 (fun u_1 hv_u_1 m_u_1 => ?_)
    obtain ⟨vu_1, rfl, h_vu_1⟩ := hv_u_1
    refine lv_iload_n hx hb dX10_put_8 rfl (lv_at hl 1 rfl) ?_
    refine lv_aload_n hx hb dX10_put_9 rfl (lv_at hl 0 rfl) ?_
    refine tg_mem (ci := 10) (C := RX10) (T := TX10) (N := 49) hx hb hts inX10 hown hK hw 13 m_f0_13 rfl (by decide) (hts _ tw_1150) (fun _ h9 => h9) dX10_put_10 ?_
    refine tg_iast hx hb hK hw h_vu_1 rfl 24 31 r_p1 (by decide) r_f0_13 (by decide +kernel) (fun _ _ _ _ _ => trivial) (by decide) dX10_put_13 (fun ws H locs hw hF9 hU9 => ?_)
    have x_GFRB_p0 : AX 15 35 F2 Ps ws p0 := AX.ast hF9 hU9 x_F m_u_1 (fun f9 h9 => hF f9 _ r_f0_13 h9)
    have m_f0_13 := FLD.over hF9 m_f0_13 (by decide)
    refine lv_iload_n hx hb dX10_put_14 rfl (lv_at hl 2 rfl) ?_
    subst hQ
    exact W.zret (v := p2) hx hb hr (tq_nz (r_p2.to (by decide))) (fun t ht hW => ⟨⟨p2, ws, rfl, ⟨⟨r_p2.to (by decide), (fun h0 => absurd (ti_eq h0) (by have h8 := r_p2; unfold RI at h8; rw [Int32.toInt_zero]; omega)), (fun h0 => ⟨⟨_, m_f0_13, r_f0_13⟩, x_GFRB_p0, trivial⟩)⟩, hw.1, hw.2.2.2.2.1⟩, by rw [ht]; exact hw.2.1, va_K.moved hW.alike hK, hw.2.2.1⟩, hw.2.2.2.1.F ht⟩) hw.2.2.2.1.2.2 dX10_put_15
abbrev wr_X10_isIn__10 : List (Nat × Nat) := []
abbrev wa_X10_isIn__10 : List Nat := []
set_option maxHeartbeats 4000000 in
set_option maxRecDepth 100000 in
theorem c_X10_isIn__10 (l : Launch) (D : va_G) (cy : Nat → ClassId) (z : Nat → Nat) (sz : Nat) (Ps : PSI) (w0 : va_W) (hT : HT cy GG Ps w0) (p0 : Int32) (p1 : Int32) (p2 : Int32) (r_p0 : RI p0 (-2147483648) 2147483647) (r_p1 : RI p1 1 1) (r_p2 : RI p2 9 9) : Met l yX10_isIn (Cond.code yX10_isIn cX10_isIn 3 (some .boolean) :: gT) ({ frames := 0, cells := 0, slots := 0, locals := 200 } : Room) (va_Pc [.int p0, .int p1, .int p2] (PRE D cy z w0 sz)) (va_Qi (fun (r : Int32) (u : Unit) => RI r 0 1 ∧ (r = 0 → True) ∧ (¬ r = 0 → RI p0 1 9 ∧ True)) (BB D cy (va_A w0 sz) (fun (u : Unit) => w0)) (va_A w0 sz)) 0 0 (va_A w0 sz) := by
  refine Met.ofW (cc := cX10_isIn) (maxL := 3) (ret := (some .boolean)) (by decide) rfl ?_
  intro p e s m args below meth c s₁ B hml hv
  obtain ⟨rfl, hsz, hP, hK, hD0, hSD⟩ := hv
  have hx := B.exec
  have hb := B.bytes
  have hr := B.returns
  have hlocks := B.notSynchronized
  have hts : ∀ w ∈ gT, w.before _ s = true := fun w h => atoms_spec (ws := Cond.code yX10_isIn cX10_isIn 3 (some .boolean) :: gT) B.pre w (List.mem_cons_of_mem _ h)
  have hown : s.vm.findClass RX10 = some m.cls := findClass_of_methodNamed B.named
  subst hsz
  have hD := hD0.self (sz := s.heap.size)
  generalize hAe : va_A w0 s.heap.size = A at hD hSD ⊢
  have hA : ∀ q : Nat, s.heap.size ≤ q → A q := fun q h => by rw [← hAe]; exact Or.inr h
  have hl := lv_entry ([.int p0, .int p1, .int p2]) (n := 3) (Nat.le_of_ble_eq_true rfl)
  rw [lg_entry_eq]
  generalize (lg_sl ([.int p0, .int p1, .int p2]) ++ List.replicate (3 - (lg_sl ([.int p0, .int p1, .int p2])).length) Slot.unset).toArray = ls at hl ⊢
  have hl : lv_has ls 3 [(0, .int p0), (1, .int p1), (2, .int p2)] := hl
  refine nameQ (fun Q hQ => ?_)
  have hw : WD D cy GG A s wr_X10_isIn__10 wa_X10_isIn__10 Ps w0 Ps w0 s.heap [] := ⟨hT, hP, hD, va_S.rf, FR.rf, hT.1, [], (List.append_nil _).symm⟩
  refine lv_iload_n hx hb dX10_isIn_0 rfl (lv_at hl 0 rfl) ?_
  refine lv_iload_n hx hb dX10_isIn_1 rfl (lv_at hl 1 rfl) ?_
  refine lv_icmp_lt (tgt := 14) hx hb dX10_isIn_2 (by decide) (fun c_2 => ?_) (fun c_2 => ?_)
  · have r_p0 : RI p0 (-2147483648) 0 := rc_lt1 r_p0 r_p1 (ti_lt c_2) (by decide)
    refine lv_iconst (v := 0) hx hb dX10_isIn_14 (by decide) ?_
    subst hQ
    exact W.zret (v := 0) hx hb hr (rfl) (fun t ht hW => ⟨⟨0, (), rfl, ⟨rl_0.to (by decide), (fun h0 => trivial), (fun h0 => absurd rfl h0)⟩, by rw [ht]; exact hw.2.1, va_K.moved hW.alike hK, hw.2.2.1⟩, hw.2.2.2.1.F ht⟩) hw.2.2.2.1.2.2 dX10_isIn_15
  · have r_p0 : RI p0 1 2147483647 := rc_le2 r_p1 r_p0 (ti_nlt c_2) (by decide)
    refine lv_iload_n hx hb dX10_isIn_5 rfl (lv_at hl 0 rfl) ?_
    refine lv_iload_n hx hb dX10_isIn_6 rfl (lv_at hl 2 rfl) ?_
    refine lv_icmp_gt (tgt := 14) hx hb dX10_isIn_7 (by decide) (fun c_7 => ?_) (fun c_7 => ?_)
    · have r_p0 : RI p0 10 2147483647 := rc_lt2 r_p2 r_p0 (ti_lt c_7) (by decide)
      refine lv_iconst (v := 0) hx hb dX10_isIn_14 (by decide) ?_
      subst hQ
      exact W.zret (v := 0) hx hb hr (rfl) (fun t ht hW => ⟨⟨0, (), rfl, ⟨rl_0.to (by decide), (fun h0 => trivial), (fun h0 => absurd rfl h0)⟩, by rw [ht]; exact hw.2.1, va_K.moved hW.alike hK, hw.2.2.1⟩, hw.2.2.2.1.F ht⟩) hw.2.2.2.1.2.2 dX10_isIn_15
    · have r_p0 : RI p0 1 9 := rc_le1 r_p0 r_p2 (ti_nlt c_7) (by decide)
      refine lv_iconst (v := 1) hx hb dX10_isIn_10 (by decide) ?_
      refine lv_goto (tgt := 15) hx hb dX10_isIn_11 (by decide) ?_
      subst hQ
      exact W.zret (v := 1) hx hb hr (rfl) (fun t ht hW => ⟨⟨1, (), rfl, ⟨rl_1.to (by decide), (fun _ => trivial), (fun h0 => ⟨r_p0, trivial⟩)⟩, by rw [ht]; exact hw.2.1, va_K.moved hW.alike hK, hw.2.2.1⟩, hw.2.2.2.1.F ht⟩) hw.2.2.2.1.2.2 dX10_isIn_15
abbrev wr_X10_readNumber__3 : List (Nat × Nat) := [(10, 5), (10, 6), (10, 7), (10, 8), (10, 9), (10, 10), (10, 11), (10, 12), (10, 13)]
abbrev wa_X10_readNumber__3 : List Nat := []
set_option maxHeartbeats 4000000 in
set_option maxRecDepth 100000 in
theorem c_X10_readNumber__3 (l : Launch) (D : va_G) (cy : Nat → ClassId) (z : Nat → Nat) (sz : Nat) (Ps : PSI) (w0 : va_W) (hT : HT cy GG Ps w0) (p0 : Nat) (p1 : Int32) (p2 : Int32) (gh : Int) (h_p0 : (p0, 55) ∈ Ps) (r_p1 : RI p1 1 1) (r_p2 : RI p2 9 9) (x_TO_p0_gh : TOP w0 p0 (gh)) : Met l yX10_readNumber (Cond.code yX10_readNumber cX10_readNumber 3 (some .boolean) :: gT) ({ frames := 3, cells := 0, slots := 0, locals := 600 } : Room) (va_Pc [.ref p0, .int p1, .int p2] (PRE D cy z w0 sz)) (va_Qi (fun (r : Int32) (u : va_W) => (RI r 0 1 ∧ (r = 0 → True) ∧ (¬ r = 0 → (∃ v9 : Int32, FLD u p0 10 13 (.int v9) ∧ RI v9 1 9) ∧ TKP u p0 (gh) ∧ True)) ∧ HT cy GG Ps u ∧ FR wr_X10_readNumber__3 wa_X10_readNumber__3 Ps w0 u) (BB D cy (va_A w0 sz) (fun (u : va_W) => u)) (va_A w0 sz)) 0 0 (va_A w0 sz) := by
  refine Met.ofW (cc := cX10_readNumber) (maxL := 3) (ret := (some .boolean)) (by decide) rfl ?_
  intro p e s m args below meth c s₁ B hml hv
  obtain ⟨rfl, hsz, hP, hK, hD0, hSD⟩ := hv
  have hx := B.exec
  have hb := B.bytes
  have hr := B.returns
  have hlocks := B.notSynchronized
  have hts : ∀ w ∈ gT, w.before _ s = true := fun w h => atoms_spec (ws := Cond.code yX10_readNumber cX10_readNumber 3 (some .boolean) :: gT) B.pre w (List.mem_cons_of_mem _ h)
  have hown : s.vm.findClass RX10 = some m.cls := findClass_of_methodNamed B.named
  subst hsz
  have hD := hD0.self (sz := s.heap.size)
  generalize hAe : va_A w0 s.heap.size = A at hD hSD ⊢
  have hA : ∀ q : Nat, s.heap.size ≤ q → A q := fun q h => by rw [← hAe]; exact Or.inr h
  have hl := lv_entry ([.ref p0, .int p1, .int p2]) (n := 3) (Nat.le_of_ble_eq_true rfl)
  rw [lg_entry_eq]
  generalize (lg_sl ([.ref p0, .int p1, .int p2]) ++ List.replicate (3 - (lg_sl ([.ref p0, .int p1, .int p2])).length) Slot.unset).toArray = ls at hl ⊢
  have hl : lv_has ls 3 [(0, .ref p0), (1, .int p1), (2, .int p2)] := hl
  refine nameQ (fun Q hQ => ?_)
  have hw : WD D cy GG A s wr_X10_readNumber__3 wa_X10_readNumber__3 Ps w0 Ps w0 s.heap [] := ⟨hT, hP, hD, va_S.rf, FR.rf, hT.1, [], (List.append_nil _).symm⟩
  refine lv_aload_n hx hb dX10_readNumber_0 rfl (lv_at hl 0 rfl) ?_
  refine tg_get (ci := 10) (ts := ty_MODEL) (C := RX10) (T := TX10) (N := 49) hx hb hts inX10 hown hK hw h_p0 rfl rfl 7 (by decide) (hts _ tw_1144) (fun _ h9 => h9) (ft := vI (-2147483648) 2147483647) rfl dX10_readNumber_1 (fun u_1 hv_u_1 m_u_1 => ?_)
  obtain ⟨vu_1, rfl, r_vu_1⟩ := hv_u_1
  refine lv_iconst (v := 3) hx hb dX10_readNumber_4 (by decide) ?_
  refine lv_icmp_eq (tgt := 14) hx hb dX10_readNumber_5 (by decide) (fun c_5 => ?_) (fun c_5 => ?_)
  · have r_vu_1 : RI vu_1 3 3 := rc_eq1 r_vu_1 rl_3 (ti_eq c_5) (by decide)
    refine lv_aload_n hx hb dX10_readNumber_14 rfl (lv_at hl 0 rfl) ?_
    refine tg_get (ci := 10) (ts := ty_MODEL) (C := RX10) (T := TX10) (N := 49) hx hb hts inX10 hown hK hw h_p0 rfl rfl 8 (by decide) (hts _ tw_1145) (fun _ h9 => h9) (ft := vI (-2147483648) 2147483647) rfl dX10_readNumber_15 (fun u_2 hv_u_2 m_u_2 => ?_)
    obtain ⟨vu_2, rfl, r_vu_2⟩ := hv_u_2
    refine lv_iload_n hx hb dX10_readNumber_18 rfl (lv_at hl 1 rfl) ?_
    refine lv_iload_n hx hb dX10_readNumber_19 rfl (lv_at hl 2 rfl) ?_
    refine tk_ir (va_runS (As := [.int vu_2, .int p1, .int p2]) (rest := []) ⟨hx, hb, hml, hown, hts⟩ (c_X10_isIn__10 l D cy z s.heap.size Ps w0 hw.1 vu_2 p1 p2 r_vu_2 r_p1 r_p2) (va_cwS 3 hts (gS tw_1359 tw_1360 tw_15 tw_1361) rfl rfl rfl (by decide +kernel) ⟨Nat.le_of_ble_eq_true rfl, Nat.le_of_ble_eq_true rfl⟩) (tg_preS hw hK hSD hA) rfl rfl hl.1 rfl (lv_room (Nat.le_of_ble_eq_true rfl)) dX10_readNumber_20 ⟨Nat.le_of_ble_eq_true rfl, Nat.le_of_ble_eq_true rfl⟩) hw hA (fun v_3  H locs hp_v_3 hw => ?_)
    have r_v_3 : RI v_3 0 1 := hp_v_3.1
    refine lv_if_ne (tgt := 32) hx hb dX10_readNumber_23 (by decide) (fun c_23 => ?_) (fun c_23 => ?_)
    · have r_v_3 : RI v_3 1 1 := rc_neL r_v_3 rl_0 (ti_ne c_23) (by decide)
      have r_vu_2 : RI vu_2 1 9 := ((hp_v_3.2.2 c_23).1)
      refine lv_aload_n hx hb dX10_readNumber_32 rfl (lv_at hl 0 rfl) ?_
      refine lv_aload_n hx hb dX10_readNumber_33 rfl (lv_at hl 0 rfl) ?_
      refine tg_mem (ci := 10) (C := RX10) (T := TX10) (N := 49) hx hb hts inX10 hown hK hw 8 m_u_2 rfl (by decide) (hts _ tw_1145) (fun _ h9 => h9) dX10_readNumber_34 ?_
      refine tg_put (ci := 10) (ts := ty_MODEL) (v := .int vu_2) (ty := .int) (C := RX10) (T := TX10) (N := 49) hx hb hts inX10 tyX10 tyX10_ok nmX10 hown hK hw h_p0 rfl rfl 13 (by decide) (hts _ tw_1150) (fun _ h9 => h9) rfl (by decide +kernel) rfl rfl (ft := vI (-2147483648) 2147483647) rfl ⟨_, rfl, (r_vu_2.to (by decide))⟩ (by decide) dX10_readNumber_37 (fun ws H locs hw n_k_4 hF9 => ?_)
      have m_u_1 := FLD.over hF9 m_u_1 (by decide)
      have m_u_2 := FLD.over hF9 m_u_2 (by decide)
      have x_TO_p0_gh := TOP.over hF9 x_TO_p0_gh (by decide)
      refine lv_aload_n hx hb dX10_readNumber_40 rfl (lv_at hl 0 rfl) ?_
      refine tk_v (va_runV (As := []) (rest := []) ⟨hx, hb, hml, hown, hts⟩ (c_X10_go__1 l D cy z H.size Ps ws hw.1 p0 (gh) h_p0 x_TO_p0_gh) (cwV 0 hts (gV tw_1298 tw_1300 ts_40 tw_15 tw_1301) rfl rfl rfl (by decide +kernel) ⟨Nat.le_of_ble_eq_true rfl, Nat.le_of_ble_eq_true rfl⟩) (tg_preV hw hK hSD hA (ci := 10) (q := (RX10, TX10, 49)) rfl h_p0 rfl) rfl rfl hl.1 rfl (lv_room (Nat.le_of_ble_eq_true rfl)) dX10_readNumber_41 ⟨Nat.le_of_ble_eq_true rfl, Nat.le_of_ble_eq_true rfl⟩) hw hA ⟨by decide, by decide⟩ (fun ws H locs hp_v_5 hw hF9 => ?_)
      have n_k_4 := FLD.over hF9 n_k_4 (by decide)
      have x_TOK_p0_gh := (hp_v_5.1)
      refine lv_iconst (v := 1) hx hb dX10_readNumber_44 (by decide) ?_
      subst hQ
      exact W.zret (v := 1) hx hb hr (rfl) (fun t ht hW => ⟨⟨1, ws, rfl, ⟨⟨rl_1.to (by decide), (fun _ => trivial), (fun h0 => ⟨⟨_, n_k_4, r_vu_2⟩, x_TOK_p0_gh, trivial⟩)⟩, hw.1, hw.2.2.2.2.1⟩, by rw [ht]; exact hw.2.1, va_K.moved hW.alike hK, hw.2.2.1⟩, hw.2.2.2.1.F ht⟩) hw.2.2.2.1.2.2 dX10_readNumber_45
    · have r_v_3 : RI v_3 0 0 := rc_eq1 r_v_3 rl_0 (ti_eq c_23) (by decide)
      refine lv_aload_n hx hb dX10_readNumber_26 rfl (lv_at hl 0 rfl) ?_
      refine lv_iconst (v := 2) hx hb dX10_readNumber_27 (by decide) ?_
      refine tk_i (va_runV (As := [.int 2]) (rest := []) ⟨hx, hb, hml, hown, hts⟩ (c_X10_bad l D cy z H.size Ps w0 hw.1 p0 2 h_p0 (rl_2.to (by decide))) (cwV 1 hts (gV tw_1336 tw_1338 ts_46 tw_15 tw_1339) rfl rfl rfl (by decide +kernel) ⟨Nat.le_of_ble_eq_true rfl, Nat.le_of_ble_eq_true rfl⟩) (tg_preV hw hK hSD hA (ci := 10) (q := (RX10, TX10, 49)) rfl h_p0 rfl) rfl rfl hl.1 rfl (lv_room (Nat.le_of_ble_eq_true rfl)) dX10_readNumber_28 ⟨Nat.le_of_ble_eq_true rfl, Nat.le_of_ble_eq_true rfl⟩) hw hA ⟨by decide, by decide⟩ (fun v_6 ws H locs hp_v_6 hw hF9 => ?_)
      have m_u_1 := FLD.over hF9 m_u_1 (by decide)
      have m_u_2 := FLD.over hF9 m_u_2 (by decide)
      have x_TO_p0_gh := TOP.over hF9 x_TO_p0_gh (by decide)
      have r_v_6 : RI v_6 0 0 := hp_v_6.1
      subst hQ
      exact W.zret (v := v_6) hx hb hr (tq_nz (r_v_6.to (by decide))) (fun t ht hW => ⟨⟨v_6, ws, rfl, ⟨⟨r_v_6.to (by decide), (fun h0 => trivial), (fun h0 => absurd (Int32.toInt_inj.mp (by have h8 := r_v_6; unfold RI at h8; rw [Int32.toInt_zero]; omega)) h0)⟩, hw.1, hw.2.2.2.2.1⟩, by rw [ht]; exact hw.2.1, va_K.moved hW.alike hK, hw.2.2.1⟩, hw.2.2.2.1.F ht⟩) hw.2.2.2.1.2.2 dX10_readNumber_31
  · refine lv_aload_n hx hb dX10_readNumber_8 rfl (lv_at hl 0 rfl) ?_
    refine lv_iconst (v := 1) hx hb dX10_readNumber_9 (by decide) ?_
    refine tk_i (va_runV (As := [.int 1]) (rest := []) ⟨hx, hb, hml, hown, hts⟩ (c_X10_bad l D cy z s.heap.size Ps w0 hw.1 p0 1 h_p0 (rl_1.to (by decide))) (cwV 1 hts (gV tw_1336 tw_1338 ts_46 tw_15 tw_1339) rfl rfl rfl (by decide +kernel) ⟨Nat.le_of_ble_eq_true rfl, Nat.le_of_ble_eq_true rfl⟩) (tg_preV hw hK hSD hA (ci := 10) (q := (RX10, TX10, 49)) rfl h_p0 rfl) rfl rfl hl.1 rfl (lv_room (Nat.le_of_ble_eq_true rfl)) dX10_readNumber_10 ⟨Nat.le_of_ble_eq_true rfl, Nat.le_of_ble_eq_true rfl⟩) hw hA ⟨by decide, by decide⟩ (fun v_7 ws H locs hp_v_7 hw hF9 => ?_)
    have m_u_1 := FLD.over hF9 m_u_1 (by decide)
    have x_TO_p0_gh := TOP.over hF9 x_TO_p0_gh (by decide)
    have r_v_7 : RI v_7 0 0 := hp_v_7.1
    subst hQ
    exact W.zret (v := v_7) hx hb hr (tq_nz (r_v_7.to (by decide))) (fun t ht hW => ⟨⟨v_7, ws, rfl, ⟨⟨r_v_7.to (by decide), (fun h0 => trivial), (fun h0 => absurd (Int32.toInt_inj.mp (by have h8 := r_v_7; unfold RI at h8; rw [Int32.toInt_zero]; omega)) h0)⟩, hw.1, hw.2.2.2.2.1⟩, by rw [ht]; exact hw.2.1, va_K.moved hW.alike hK, hw.2.2.1⟩, hw.2.2.2.1.F ht⟩) hw.2.2.2.1.2.2 dX10_readNumber_13
abbrev wr_X10_put__10 : List (Nat × Nat) := []
abbrev wa_X10_put__10 : List Nat := []
set_option maxHeartbeats 4000000 in
set_option maxRecDepth 100000 in
theorem c_X10_put__10 (l : Launch) (D : va_G) (cy : Nat → ClassId) (z : Nat → Nat) (sz : Nat) (Ps : PSI) (w0 : va_W) (hT : HT cy GG Ps w0) (p0 : Nat) (p1 : Int32) (p2 : Int32) (F : (Nat → Int32) → Prop) (F2 : (Nat → Int32) → Prop) (h_p0 : (p0, 55) ∈ Ps) (r_p1 : RI p1 32 39) (r_p2 : RI p2 0 0) (x_F : AX 15 35 F Ps w0 p0) (hF : ∀ (f : Nat → Int32) (v : Int32), RI v (-2147483648) 2147483647 → F f → F2 (upd f (Int32.toNatClampNeg p1) v)) : Met l yX10_put (Cond.code yX10_put cX10_put 3 (some .boolean) :: gT) ({ frames := 0, cells := 0, slots := 0, locals := 200 } : Room) (va_Pc [.ref p0, .int p1, .int p2] (PRE D cy z w0 sz)) (va_Qi (fun (r : Int32) (u : Unit) => RI r 0 0 ∧ (r = 0 → AX 15 35 F Ps w0 p0 ∧ True) ∧ (¬ r = 0 → AX 15 35 F2 Ps w0 p0 ∧ True)) (BB D cy (va_A w0 sz) (fun (u : Unit) => w0)) (va_A w0 sz)) 0 0 (va_A w0 sz) := by
  refine Met.ofW (cc := cX10_put) (maxL := 3) (ret := (some .boolean)) (by decide) rfl ?_
  intro p e s m args below meth c s₁ B hml hv
  obtain ⟨rfl, hsz, hP, hK, hD0, hSD⟩ := hv
  have hx := B.exec
  have hb := B.bytes
  have hr := B.returns
  have hlocks := B.notSynchronized
  have hts : ∀ w ∈ gT, w.before _ s = true := fun w h => atoms_spec (ws := Cond.code yX10_put cX10_put 3 (some .boolean) :: gT) B.pre w (List.mem_cons_of_mem _ h)
  have hown : s.vm.findClass RX10 = some m.cls := findClass_of_methodNamed B.named
  subst hsz
  have hD := hD0.self (sz := s.heap.size)
  generalize hAe : va_A w0 s.heap.size = A at hD hSD ⊢
  have hA : ∀ q : Nat, s.heap.size ≤ q → A q := fun q h => by rw [← hAe]; exact Or.inr h
  have hl := lv_entry ([.ref p0, .int p1, .int p2]) (n := 3) (Nat.le_of_ble_eq_true rfl)
  rw [lg_entry_eq]
  generalize (lg_sl ([.ref p0, .int p1, .int p2]) ++ List.replicate (3 - (lg_sl ([.ref p0, .int p1, .int p2])).length) Slot.unset).toArray = ls at hl ⊢
  have hl : lv_has ls 3 [(0, .ref p0), (1, .int p1), (2, .int p2)] := hl
  refine nameQ (fun Q hQ => ?_)
  have hw : WD D cy GG A s wr_X10_put__10 wa_X10_put__10 Ps w0 Ps w0 s.heap [] := ⟨hT, hP, hD, va_S.rf, FR.rf, hT.1, [], (List.append_nil _).symm⟩
  refine lv_iload_n hx hb dX10_put_0 rfl (lv_at hl 2 rfl) ?_
  refine lv_if_eq (tgt := 14) hx hb dX10_put_1 (by decide) (fun c_1 => ?_) (fun c_1 => ?_)
  · refine lv_iload_n hx hb dX10_put_14 rfl (lv_at hl 2 rfl) ?_
    subst hQ
    exact W.zret (v := p2) hx hb hr (tq_nz (r_p2.to (by decide))) (fun t ht hW => ⟨⟨p2, (), rfl, ⟨r_p2.to (by decide), (fun h0 => ⟨x_F, trivial⟩), (fun h0 => absurd (Int32.toInt_inj.mp (by have h8 := r_p2; unfold RI at h8; rw [Int32.toInt_zero]; omega)) h0)⟩, by rw [ht]; exact hw.2.1, va_K.moved hW.alike hK, hw.2.2.1⟩, hw.2.2.2.1.F ht⟩) hw.2.2.2.1.2.2 dX10_put_15
  · exact absurd (r_p2.eq.trans rl_0.eq.symm) ((ti_ne c_1))
abbrev wr_X10_put__11 : List (Nat × Nat) := []
abbrev wa_X10_put__11 : List Nat := [35]
set_option maxHeartbeats 4000000 in
set_option maxRecDepth 100000 in
theorem c_X10_put__11 (l : Launch) (D : va_G) (cy : Nat → ClassId) (z : Nat → Nat) (sz : Nat) (Ps : PSI) (w0 : va_W) (hT : HT cy GG Ps w0) (p0 : Nat) (p1 : Int32) (p2 : Int32) (f0_13 : Int32) (F : (Nat → Int32) → Prop) (F2 : (Nat → Int32) → Prop) (h_p0 : (p0, 55) ∈ Ps) (r_p1 : RI p1 32 39) (r_p2 : RI p2 1 1) (r_f0_13 : RI f0_13 1 9) (m_f0_13 : FLD w0 p0 10 13 (.int f0_13)) (x_F : AX 15 35 F Ps w0 p0) (hF : ∀ (f : Nat → Int32) (v : Int32), RI v 1 9 → F f → F2 (upd f (Int32.toNatClampNeg p1) v)) : Met l yX10_put (Cond.code yX10_put cX10_put 3 (some .boolean) :: gT) ({ frames := 0, cells := 0, slots := 0, locals := 200 } : Room) (va_Pc [.ref p0, .int p1, .int p2] (PRE D cy z w0 sz)) (va_Qi (fun (r : Int32) (u : va_W) => (RI r 1 1 ∧ (r = 0 → AX 15 35 F Ps u p0 ∧ True) ∧ (¬ r = 0 → (∃ v9 : Int32, FLD u p0 10 13 (.int v9) ∧ RI v9 1 9) ∧ AX 15 35 F2 Ps u p0 ∧ True)) ∧ HT cy GG Ps u ∧ FR wr_X10_put__11 wa_X10_put__11 Ps w0 u) (BB D cy (va_A w0 sz) (fun (u : va_W) => u)) (va_A w0 sz)) 0 0 (va_A w0 sz) := by
  refine Met.ofW (cc := cX10_put) (maxL := 3) (ret := (some .boolean)) (by decide) rfl ?_
  intro p e s m args below meth c s₁ B hml hv
  obtain ⟨rfl, hsz, hP, hK, hD0, hSD⟩ := hv
  have hx := B.exec
  have hb := B.bytes
  have hr := B.returns
  have hlocks := B.notSynchronized
  have hts : ∀ w ∈ gT, w.before _ s = true := fun w h => atoms_spec (ws := Cond.code yX10_put cX10_put 3 (some .boolean) :: gT) B.pre w (List.mem_cons_of_mem _ h)
  have hown : s.vm.findClass RX10 = some m.cls := findClass_of_methodNamed B.named
  subst hsz
  have hD := hD0.self (sz := s.heap.size)
  generalize hAe : va_A w0 s.heap.size = A at hD hSD ⊢
  have hA : ∀ q : Nat, s.heap.size ≤ q → A q := fun q h => by rw [← hAe]; exact Or.inr h
  have hl := lv_entry ([.ref p0, .int p1, .int p2]) (n := 3) (Nat.le_of_ble_eq_true rfl)
  rw [lg_entry_eq]
  generalize (lg_sl ([.ref p0, .int p1, .int p2]) ++ List.replicate (3 - (lg_sl ([.ref p0, .int p1, .int p2])).length) Slot.unset).toArray = ls at hl ⊢
  have hl : lv_has ls 3 [(0, .ref p0), (1, .int p1), (2, .int p2)] := hl
  refine nameQ (fun Q hQ => ?_)
  have hw : WD D cy GG A s wr_X10_put__11 wa_X10_put__11 Ps w0 Ps w0 s.heap [] := ⟨hT, hP, hD, va_S.rf, FR.rf, hT.1, [], (List.append_nil _).symm⟩
  refine lv_iload_n hx hb dX10_put_0 rfl (lv_at hl 2 rfl) ?_
  refine lv_if_eq (tgt := 14) hx hb dX10_put_1 (by decide) (fun c_1 => ?_) (fun c_1 => ?_)
  · have r_p2 : RI p2 1 0 := rc_eq1 r_p2 rl_0 (ti_eq c_1) (by decide)
    exact (r_p2.no (by decide)).elim
  · refine lv_aload_n hx hb dX10_put_4 rfl (lv_at hl 0 rfl) ?_
    refine tg_get (ci := 10) (ts := ty_MODEL) (C := RX10) (T := TX10) (N := 49) hx hb hts inX10 hown hK hw h_p0 rfl rfl 15 (by decide) (hts _ tw_1152) (fun _ h9 => h9) (ft := vR 35) rfl dX10_put_5 (fun u_1 hv_u_1 m_u_1 => ?_)
    obtain ⟨vu_1, rfl, h_vu_1⟩ := hv_u_1
    refine lv_iload_n hx hb dX10_put_8 rfl (lv_at hl 1 rfl) ?_
    refine lv_aload_n hx hb dX10_put_9 rfl (lv_at hl 0 rfl) ?_
    refine tg_mem (ci := 10) (C := RX10) (T := TX10) (N := 49) hx hb hts inX10 hown hK hw 13 m_f0_13 rfl (by decide) (hts _ tw_1150) (fun _ h9 => h9) dX10_put_10 ?_
    refine tg_iast hx hb hK hw h_vu_1 rfl 32 39 r_p1 (by decide) r_f0_13 (by decide +kernel) (fun _ _ _ _ _ => trivial) (by decide) dX10_put_13 (fun ws H locs hw hF9 hU9 => ?_)
    have x_GFRB_p0 : AX 15 35 F2 Ps ws p0 := AX.ast hF9 hU9 x_F m_u_1 (fun f9 h9 => hF f9 _ r_f0_13 h9)
    have m_f0_13 := FLD.over hF9 m_f0_13 (by decide)
    refine lv_iload_n hx hb dX10_put_14 rfl (lv_at hl 2 rfl) ?_
    subst hQ
    exact W.zret (v := p2) hx hb hr (tq_nz (r_p2.to (by decide))) (fun t ht hW => ⟨⟨p2, ws, rfl, ⟨⟨r_p2.to (by decide), (fun h0 => absurd (ti_eq h0) (by have h8 := r_p2; unfold RI at h8; rw [Int32.toInt_zero]; omega)), (fun h0 => ⟨⟨_, m_f0_13, r_f0_13⟩, x_GFRB_p0, trivial⟩)⟩, hw.1, hw.2.2.2.2.1⟩, by rw [ht]; exact hw.2.1, va_K.moved hW.alike hK, hw.2.2.1⟩, hw.2.2.2.1.F ht⟩) hw.2.2.2.1.2.2 dX10_put_15
abbrev wr_X10_readPerson : List (Nat × Nat) := [(10, 5), (10, 6), (10, 7), (10, 8), (10, 9), (10, 10), (10, 11), (10, 12), (10, 13)]
abbrev wa_X10_readPerson : List Nat := [35, 42]
set_option maxHeartbeats 4000000 in
set_option maxRecDepth 100000 in
theorem c_X10_readPerson (l : Launch) (D : va_G) (cy : Nat → ClassId) (z : Nat → Nat) (sz : Nat) (Ps : PSI) (w0 : va_W) (hT : HT cy GG Ps w0) (p0 : Nat) (gh : Int) (h_p0 : (p0, 55) ∈ Ps) (x_TO_p0_gh : TOP w0 p0 (gh)) (x_RH_p0 : AX 15 35 (fun f => RH2p f) Ps w0 p0) : Met l yX10_readPerson (Cond.code yX10_readPerson cX10_readPerson 2 (some .boolean) :: gT) ({ frames := 7, cells := 0, slots := 0, locals := 1400 } : Room) (va_Pc [.ref p0] (PRE D cy z w0 sz)) (va_Qi (fun (r : Int32) (u : va_W) => (RI r 0 1 ∧ (r = 0 → True) ∧ (¬ r = 0 → (∃ v9 : Int32, FLD u p0 10 13 (.int v9) ∧ RI v9 1 9) ∧ TKP u p0 (gh) ∧ AX 15 35 (fun f => RH2p f) Ps u p0 ∧ True)) ∧ HT cy GG Ps u ∧ FR wr_X10_readPerson wa_X10_readPerson Ps w0 u) (BB D cy (va_A w0 sz) (fun (u : va_W) => u)) (va_A w0 sz)) 0 0 (va_A w0 sz) := by
  refine Met.ofW (cc := cX10_readPerson) (maxL := 2) (ret := (some .boolean)) (by decide) rfl ?_
  intro p e s m args below meth c s₁ B hml hv
  obtain ⟨rfl, hsz, hP, hK, hD0, hSD⟩ := hv
  have hx := B.exec
  have hb := B.bytes
  have hr := B.returns
  have hlocks := B.notSynchronized
  have hts : ∀ w ∈ gT, w.before _ s = true := fun w h => atoms_spec (ws := Cond.code yX10_readPerson cX10_readPerson 2 (some .boolean) :: gT) B.pre w (List.mem_cons_of_mem _ h)
  have hown : s.vm.findClass RX10 = some m.cls := findClass_of_methodNamed B.named
  subst hsz
  have hD := hD0.self (sz := s.heap.size)
  generalize hAe : va_A w0 s.heap.size = A at hD hSD ⊢
  have hA : ∀ q : Nat, s.heap.size ≤ q → A q := fun q h => by rw [← hAe]; exact Or.inr h
  have hl := lv_entry ([.ref p0]) (n := 2) (Nat.le_of_ble_eq_true rfl)
  rw [lg_entry_eq]
  generalize (lg_sl ([.ref p0]) ++ List.replicate (2 - (lg_sl ([.ref p0])).length) Slot.unset).toArray = ls at hl ⊢
  have hl : lv_has ls 2 [(0, .ref p0)] := hl
  refine nameQ (fun Q hQ => ?_)
  have hw : WD D cy GG A s wr_X10_readPerson wa_X10_readPerson Ps w0 Ps w0 s.heap [] := ⟨hT, hP, hD, va_S.rf, FR.rf, hT.1, [], (List.append_nil _).symm⟩
  refine lv_aload_n hx hb dX10_readPerson_0 rfl (lv_at hl 0 rfl) ?_
  refine lv_iconst (v := 3) hx hb dX10_readPerson_1 (by decide) ?_
  refine lv_bipush (v := 8) hx hb dX10_readPerson_2 (by decide) ?_
  refine tk_i (va_runV (As := [.int 3, .int 8]) (rest := []) ⟨hx, hb, hml, hown, hts⟩ (c_X10_readFirst l D cy z s.heap.size Ps w0 hw.1 p0 3 8 (gh) h_p0 rl_3 rl_8 x_TO_p0_gh) (cwV 2 hts (gV tw_1332 tw_1334 ts_45 tw_15 tw_1335) rfl rfl rfl (by decide +kernel) ⟨Nat.le_of_ble_eq_true rfl, Nat.le_of_ble_eq_true rfl⟩) (tg_preV hw hK hSD hA (ci := 10) (q := (RX10, TX10, 49)) rfl h_p0 rfl) rfl rfl hl.1 rfl (lv_room (Nat.le_of_ble_eq_true rfl)) dX10_readPerson_4 ⟨Nat.le_of_ble_eq_true rfl, Nat.le_of_ble_eq_true rfl⟩) hw hA ⟨by decide, by decide⟩ (fun v_1 ws H locs hp_v_1 hw hF9 => ?_)
  have x_RH_p0 := AX.over hF9 x_RH_p0 (by decide)
  have r_v_1 : RI v_1 0 1 := hp_v_1.1
  by_cases c9_v_1 : v_1 = 0
  · have r_v_1 : RI v_1 0 0 := by rw [c9_v_1]; exact rl_0
    refine lv_if_ne (tgt := 12) hx hb dX10_readPerson_7 (by decide) (fun c_7 => ?_) (fun c_7 => ?_)
    · exact absurd (r_v_1.eq.trans rl_0.eq.symm) ((ti_ne c_7))
    · refine lv_iconst (v := 0) hx hb dX10_readPerson_10 (by decide) ?_
      subst hQ
      exact W.zret (v := 0) hx hb hr (rfl) (fun t ht hW => ⟨⟨0, ws, rfl, ⟨⟨rl_0.to (by decide), (fun h0 => trivial), (fun h0 => absurd rfl h0)⟩, hw.1, hw.2.2.2.2.1⟩, by rw [ht]; exact hw.2.1, va_K.moved hW.alike hK, hw.2.2.1⟩, hw.2.2.2.1.F ht⟩) hw.2.2.2.1.2.2 dX10_readPerson_11
  · have r_v_1 : RI v_1 1 1 := rc_neL r_v_1 rl_0 (ti_ne c9_v_1) (by decide)
    have x_TOK_p0_gh := ((hp_v_1.2.2 c9_v_1).1)
    have x_RLT_p0_3_8 := ((hp_v_1.2.2 c9_v_1).2.1)
    refine lv_if_ne (tgt := 12) hx hb dX10_readPerson_7 (by decide) (fun c_7 => ?_) (fun c_7 => ?_)
    · refine lv_aload_n hx hb dX10_readPerson_12 rfl (lv_at hl 0 rfl) ?_
      refine tg_get (ci := 10) (ts := ty_MODEL) (C := RX10) (T := TX10) (N := 49) hx hb hts inX10 hown hK hw h_p0 rfl rfl 15 (by decide) (hts _ tw_1152) (fun _ h9 => h9) (ft := vR 35) rfl dX10_readPerson_13 (fun u_2 hv_u_2 m_u_2 => ?_)
      obtain ⟨vu_2, rfl, h_vu_2⟩ := hv_u_2
      refine lv_iconst (v := 3) hx hb dX10_readPerson_16 (by decide) ?_
      refine tg_iald (lo := 0) (hi := 8) hx hb hK hw h_vu_2 rfl 3 3 rl_3 (by decide) (by decide +kernel) dX10_readPerson_17 (fun v_3 r_v_3 m_v_3 o_v_3 => ?_)
      have r_v_3 : RI v_3 0 7 := by obtain ⟨f9, h9, q9, g9⟩ := AX.use hw x_RLT_p0_3_8 h_vu_2 rfl m_u_2; have e9 := g9 _ _ m_v_3; have j9 : Int32.toNatClampNeg 3 = 3 := (by decide); rw [j9] at e9; have h8 : (f9 3).toInt < 8 := h9; rw [e9] at h8; exact ⟨r_v_3.1, by omega⟩
      refine lv_istore_n (lv' := [(1, .int v_3), (0, .ref p0)]) hx hb dX10_readPerson_18 rfl hl (by decide) rfl (fun ls hl => ?_)
      refine lv_aload_n hx hb dX10_readPerson_19 rfl (lv_at hl 1 rfl) ?_
      refine lv_bipush (v := 16) hx hb dX10_readPerson_20 (by decide) ?_
      refine lv_iload_n hx hb dX10_readPerson_22 rfl (lv_at hl 0 rfl) ?_
      refine lv_iadd hx hb dX10_readPerson_23 (lv_topi (fun v_4 e_v_4 => ?_))
      obtain ⟨t_v_4, r_v_4⟩ := tq_add (lo := 16) (hi := 23) rl_16 r_v_3 (by decide +kernel) e_v_4
      have t_v_4 : v_4.toInt = 16 + v_3.toInt := t_v_4
      have x_TO_p0_gh : TOP ws p0 (gh) := TKP.top x_TOK_p0_gh
      have hw8 := hw
      refine tk_i (va_runV (As := [.int v_4]) (rest := []) ⟨hx, hb, hml, hown, hts⟩ (c_X10_readNew l D cy z H.size Ps ws hw.1 p0 v_4 (gh) h_p0 r_v_4 x_TO_p0_gh) (cwV 1 hts (gV tw_1340 tw_1342 ts_47 tw_15 tw_1343) rfl rfl rfl (by decide +kernel) ⟨Nat.le_of_ble_eq_true rfl, Nat.le_of_ble_eq_true rfl⟩) (tg_preV hw hK hSD hA (ci := 10) (q := (RX10, TX10, 49)) rfl h_p0 rfl) rfl rfl hl.1 rfl (lv_room (Nat.le_of_ble_eq_true rfl)) dX10_readPerson_24 ⟨Nat.le_of_ble_eq_true rfl, Nat.le_of_ble_eq_true rfl⟩) hw hA ⟨by decide, by decide⟩ (fun v_5 ws H locs hp_v_5 hw hF9 => ?_)
      have m_v_3 := AEL.over hw8 hF9 h_vu_2 m_v_3 (by decide)
      have m_u_2 := FLD.over hF9 m_u_2 (by decide)
      have x_RH_p0 := AX.over hF9 x_RH_p0 (by decide)
      have x_RLT_p0_3_8 := AX.over hF9 x_RLT_p0_3_8 (by decide)
      have r_v_5 : RI v_5 0 1 := hp_v_5.1
      by_cases c9_v_5 : v_5 = 0
      · have r_v_5 : RI v_5 0 0 := by rw [c9_v_5]; exact rl_0
        refine lv_if_eq (tgt := 63) hx hb dX10_readPerson_27 (by decide) (fun c_27 => ?_) (fun c_27 => ?_)
        · refine lv_iconst (v := 0) hx hb dX10_readPerson_63 (by decide) ?_
          subst hQ
          exact W.zret (v := 0) hx hb hr (rfl) (fun t ht hW => ⟨⟨0, ws, rfl, ⟨⟨rl_0.to (by decide), (fun h0 => trivial), (fun h0 => absurd rfl h0)⟩, hw.1, hw.2.2.2.2.1⟩, by rw [ht]; exact hw.2.1, va_K.moved hW.alike hK, hw.2.2.1⟩, hw.2.2.2.1.F ht⟩) hw.2.2.2.1.2.2 dX10_readPerson_64
        · exact absurd (r_v_5.eq.trans rl_0.eq.symm) ((ti_ne c_27))
      · have r_v_5 : RI v_5 1 1 := rc_neL r_v_5 rl_0 (ti_ne c9_v_5) (by decide)
        have x_TOK_p0_gh := ((hp_v_5.2.2 c9_v_5).1)
        refine lv_if_eq (tgt := 63) hx hb dX10_readPerson_27 (by decide) (fun c_27 => ?_) (fun c_27 => ?_)
        · have r_v_5 : RI v_5 1 0 := rc_eq1 r_v_5 rl_0 (ti_eq c_27) (by decide)
          exact (r_v_5.no (by decide)).elim
        · refine lv_aload_n hx hb dX10_readPerson_30 rfl (lv_at hl 1 rfl) ?_
          refine lv_bipush (v := 24) hx hb dX10_readPerson_31 (by decide) ?_
          refine lv_iload_n hx hb dX10_readPerson_33 rfl (lv_at hl 0 rfl) ?_
          refine lv_iadd hx hb dX10_readPerson_34 (lv_topi (fun v_6 e_v_6 => ?_))
          obtain ⟨t_v_6, r_v_6⟩ := tq_add (lo := 24) (hi := 31) rl_24 r_v_3 (by decide +kernel) e_v_6
          have t_v_6 : v_6.toInt = 24 + v_3.toInt := t_v_6
          refine lv_aload_n hx hb dX10_readPerson_35 rfl (lv_at hl 1 rfl) ?_
          have x_TO_p0_gh : TOP ws p0 (gh) := TKP.top x_TOK_p0_gh
          have hw8 := hw
          refine tk_i (va_runV (As := []) (rest := [.int v_6, .ref p0]) ⟨hx, hb, hml, hown, hts⟩ (c_X10_readIdea l D cy z H.size Ps ws hw.1 p0 (gh) h_p0 x_TO_p0_gh) (cwV 0 hts (gV tw_1386 tw_1388 ts_57 tw_15 tw_1389) rfl rfl rfl (by decide +kernel) ⟨Nat.le_of_ble_eq_true rfl, Nat.le_of_ble_eq_true rfl⟩) (tg_preV hw hK hSD hA (ci := 10) (q := (RX10, TX10, 49)) rfl h_p0 rfl) rfl rfl hl.1 rfl (lv_room (Nat.le_of_ble_eq_true rfl)) dX10_readPerson_36 ⟨Nat.le_of_ble_eq_true rfl, Nat.le_of_ble_eq_true rfl⟩) hw hA ⟨by decide, by decide⟩ (fun v_7 ws H locs hp_v_7 hw hF9 => ?_)
          have m_v_3 := AEL.over hw8 hF9 h_vu_2 m_v_3 (by decide)
          have m_u_2 := FLD.over hF9 m_u_2 (by decide)
          have x_RH_p0 := AX.over hF9 x_RH_p0 (by decide)
          have x_RLT_p0_3_8 := AX.over hF9 x_RLT_p0_3_8 (by decide)
          have r_v_7 : RI v_7 0 1 := hp_v_7.1
          by_cases c9_v_7 : v_7 = 0
          · have r_v_7 : RI v_7 0 0 := by rw [c9_v_7]; exact rl_0
            refine tk_ir (va_runV (As := [.int v_6, .int v_7]) (rest := []) ⟨hx, hb, hml, hown, hts⟩ (c_X10_put__8 l D cy z H.size Ps ws hw.1 p0 v_6 v_7 (fun f => RH2p f ∧ (f (Int32.toNatClampNeg 3)).toInt < Int32.toInt 8 ∧ True) (fun f => RH2p f ∧ (f (Int32.toNatClampNeg 3)).toInt < Int32.toInt 8 ∧ True) h_p0 r_v_6 r_v_7 (AX.and hw x_RH_p0 (AX.and hw x_RLT_p0_3_8 (rx_true hw h_p0))) (fun f9 v9 hv9 H9 => ⟨(have h9 := H9.1; RH_keep h9 (by have k4 := r_v_6.cl (by decide); have k5 := r_v_6; unfold RI at k5; omega)), (have h9 := H9.2.1; by show _ < _; rw [pk_un (by have k4 := r_v_6.cl (by decide); have k5 := r_v_6; unfold RI at k5; have k6 : Int32.toNatClampNeg 3 = 3 := (by decide); omega)]; exact h9), trivial⟩)) (cwV 2 hts (gV tw_1362 tw_1364 ts_51 tw_15 tw_1365) rfl rfl rfl (by decide +kernel) ⟨Nat.le_of_ble_eq_true rfl, Nat.le_of_ble_eq_true rfl⟩) (tg_preV hw hK hSD hA (ci := 10) (q := (RX10, TX10, 49)) rfl h_p0 rfl) rfl rfl hl.1 rfl (lv_room (Nat.le_of_ble_eq_true rfl)) dX10_readPerson_39 ⟨Nat.le_of_ble_eq_true rfl, Nat.le_of_ble_eq_true rfl⟩) hw hA (fun v_8  H locs hp_v_8 hw => ?_)
            have r_v_8 : RI v_8 0 0 := hp_v_8.1
            by_cases c9_v_8 : v_8 = 0
            · have r_v_8 : RI v_8 0 0 := by rw [c9_v_8]; exact rl_0
              have x_RH_p0 : AX 15 35 (fun f => RH2p f) Ps ws p0 := AX.imp ((hp_v_8.2.1 c9_v_8).1) (fun _ h9 => h9.1)
              have x_RLT_p0_3_8 : AX 15 35 (fun f => (f (Int32.toNatClampNeg 3)).toInt < Int32.toInt 8) Ps ws p0 := AX.imp ((hp_v_8.2.1 c9_v_8).1) (fun _ h9 => h9.2.1)
              refine lv_if_eq (tgt := 63) hx hb dX10_readPerson_42 (by decide) (fun c_42 => ?_) (fun c_42 => ?_)
              · refine lv_iconst (v := 0) hx hb dX10_readPerson_63 (by decide) ?_
                subst hQ
                exact W.zret (v := 0) hx hb hr (rfl) (fun t ht hW => ⟨⟨0, ws, rfl, ⟨⟨rl_0.to (by decide), (fun h0 => trivial), (fun h0 => absurd rfl h0)⟩, hw.1, hw.2.2.2.2.1⟩, by rw [ht]; exact hw.2.1, va_K.moved hW.alike hK, hw.2.2.1⟩, hw.2.2.2.1.F ht⟩) hw.2.2.2.1.2.2 dX10_readPerson_64
              · exact absurd (r_v_8.eq.trans rl_0.eq.symm) ((ti_ne c_42))
            · exact absurd (Int32.toInt_inj.mp (by rw [Int32.toInt_zero]; unfold RI at r_v_8; omega)) c9_v_8
          · have r_v_7 : RI v_7 1 1 := rc_neL r_v_7 rl_0 (ti_ne c9_v_7) (by decide)
            obtain ⟨v_9, m_v_9, r_v_9⟩ := ((hp_v_7.2.2 c9_v_7).1)
            have x_TOK_p0_gh := ((hp_v_7.2.2 c9_v_7).2.1)
            have x_IP_p0 := ((hp_v_7.2.2 c9_v_7).2.2.1)
            have hw8 := hw
            refine tk_i (va_runV (As := [.int v_6, .int v_7]) (rest := []) ⟨hx, hb, hml, hown, hts⟩ (c_X10_put__9 l D cy z H.size Ps ws hw.1 p0 v_6 v_7 v_9 (fun f => RH2p f ∧ (f (Int32.toNatClampNeg 3)).toInt < Int32.toInt 8 ∧ 0 < (f 0).toInt ∧ True) (fun f => RH2p f ∧ (f (Int32.toNatClampNeg 3)).toInt < Int32.toInt 8 ∧ 0 < (f 0).toInt ∧ True) h_p0 r_v_6 r_v_7 r_v_9 m_v_9 (AX.and hw x_RH_p0 (AX.and hw x_RLT_p0_3_8 (AX.and hw x_IP_p0 (rx_true hw h_p0)))) (fun f9 v9 hv9 H9 => ⟨(have h9 := H9.1; RH_keep h9 (by have k4 := r_v_6.cl (by decide); have k5 := r_v_6; unfold RI at k5; omega)), (have h9 := H9.2.1; by show _ < _; rw [pk_un (by have k4 := r_v_6.cl (by decide); have k5 := r_v_6; unfold RI at k5; have k6 : Int32.toNatClampNeg 3 = 3 := (by decide); omega)]; exact h9), (have h9 := H9.2.2.1; by show _ < _; rw [pk_un (by have k4 := r_v_6.cl (by decide); have k5 := r_v_6; unfold RI at k5; omega)]; exact h9), trivial⟩)) (cwV 2 hts (gV tw_1362 tw_1364 ts_51 tw_15 tw_1365) rfl rfl rfl (by decide +kernel) ⟨Nat.le_of_ble_eq_true rfl, Nat.le_of_ble_eq_true rfl⟩) (tg_preV hw hK hSD hA (ci := 10) (q := (RX10, TX10, 49)) rfl h_p0 rfl) rfl rfl hl.1 rfl (lv_room (Nat.le_of_ble_eq_true rfl)) dX10_readPerson_39 ⟨Nat.le_of_ble_eq_true rfl, Nat.le_of_ble_eq_true rfl⟩) hw hA ⟨by decide, by decide⟩ (fun v_10 ws H locs hp_v_10 hw hF9 => ?_)
            have m_u_2 := FLD.over hF9 m_u_2 (by decide)
            have m_v_9 := FLD.over hF9 m_v_9 (by decide)
            have x_TOK_p0_gh := TKP.over hF9 x_TOK_p0_gh (by decide)
            have r_v_10 : RI v_10 1 1 := hp_v_10.1
            by_cases c9_v_10 : v_10 = 0
            · exact absurd (ti_eq c9_v_10) (by unfold RI at r_v_10; rw [Int32.toInt_zero]; omega)
            · obtain ⟨v_11, m_v_11, r_v_11⟩ := ((hp_v_10.2.2 c9_v_10).1)
              have x_RH_p0 : AX 15 35 (fun f => RH2p f) Ps ws p0 := AX.imp ((hp_v_10.2.2 c9_v_10).2.1) (fun _ h9 => h9.1)
              have x_RLT_p0_3_8 : AX 15 35 (fun f => (f (Int32.toNatClampNeg 3)).toInt < Int32.toInt 8) Ps ws p0 := AX.imp ((hp_v_10.2.2 c9_v_10).2.1) (fun _ h9 => h9.2.1)
              have x_IP_p0 : AX 15 35 (fun f => 0 < (f 0).toInt) Ps ws p0 := AX.imp ((hp_v_10.2.2 c9_v_10).2.1) (fun _ h9 => h9.2.2.1)
              refine lv_if_eq (tgt := 63) hx hb dX10_readPerson_42 (by decide) (fun c_42 => ?_) (fun c_42 => ?_)
              · have r_v_10 : RI v_10 1 0 := rc_eq1 r_v_10 rl_0 (ti_eq c_42) (by decide)
                exact (r_v_10.no (by decide)).elim
              · refine lv_aload_n hx hb dX10_readPerson_45 rfl (lv_at hl 1 rfl) ?_
                refine lv_bipush (v := 32) hx hb dX10_readPerson_46 (by decide) ?_
                refine lv_iload_n hx hb dX10_readPerson_48 rfl (lv_at hl 0 rfl) ?_
                refine lv_iadd hx hb dX10_readPerson_49 (lv_topi (fun v_12 e_v_12 => ?_))
                obtain ⟨t_v_12, r_v_12⟩ := tq_add (lo := 32) (hi := 39) rl_32 r_v_3 (by decide +kernel) e_v_12
                have t_v_12 : v_12.toInt = 32 + v_3.toInt := t_v_12
                refine lv_aload_n hx hb dX10_readPerson_50 rfl (lv_at hl 1 rfl) ?_
                refine lv_iconst (v := 1) hx hb dX10_readPerson_51 (by decide) ?_
                refine lv_bipush (v := 9) hx hb dX10_readPerson_52 (by decide) ?_
                have x_TO_p0_gh : TOP ws p0 (gh) := TKP.top x_TOK_p0_gh
                refine tk_i (va_runV (As := [.int 1, .int 9]) (rest := [.int v_12, .ref p0]) ⟨hx, hb, hml, hown, hts⟩ (c_X10_readNumber__3 l D cy z H.size Ps ws hw.1 p0 1 9 (gh) h_p0 rl_1 rl_9 x_TO_p0_gh) (cwV 2 hts (gV tw_1355 tw_1357 ts_50 tw_15 tw_1358) rfl rfl rfl (by decide +kernel) ⟨Nat.le_of_ble_eq_true rfl, Nat.le_of_ble_eq_true rfl⟩) (tg_preV hw hK hSD hA (ci := 10) (q := (RX10, TX10, 49)) rfl h_p0 rfl) rfl rfl hl.1 rfl (lv_room (Nat.le_of_ble_eq_true rfl)) dX10_readPerson_54 ⟨Nat.le_of_ble_eq_true rfl, Nat.le_of_ble_eq_true rfl⟩) hw hA ⟨by decide, by decide⟩ (fun v_13 ws H locs hp_v_13 hw hF9 => ?_)
                have m_u_2 := FLD.over hF9 m_u_2 (by decide)
                have x_RH_p0 := AX.over hF9 x_RH_p0 (by decide)
                have x_RLT_p0_3_8 := AX.over hF9 x_RLT_p0_3_8 (by decide)
                have x_IP_p0 := AX.over hF9 x_IP_p0 (by decide)
                have r_v_13 : RI v_13 0 1 := hp_v_13.1
                by_cases c9_v_13 : v_13 = 0
                · have r_v_13 : RI v_13 0 0 := by rw [c9_v_13]; exact rl_0
                  refine tk_ir (va_runV (As := [.int v_12, .int v_13]) (rest := []) ⟨hx, hb, hml, hown, hts⟩ (c_X10_put__10 l D cy z H.size Ps ws hw.1 p0 v_12 v_13 (fun f => RH2p f ∧ (f (Int32.toNatClampNeg 3)).toInt < Int32.toInt 8 ∧ 0 < (f 0).toInt ∧ True) (fun f => RH2p f ∧ (f (Int32.toNatClampNeg 3)).toInt < Int32.toInt 8 ∧ 0 < (f 0).toInt ∧ True) h_p0 r_v_12 r_v_13 (AX.and hw x_RH_p0 (AX.and hw x_RLT_p0_3_8 (AX.and hw x_IP_p0 (rx_true hw h_p0)))) (fun f9 v9 hv9 H9 => ⟨(have h9 := H9.1; RH_keep h9 (by have k4 := r_v_12.cl (by decide); have k5 := r_v_12; unfold RI at k5; omega)), (have h9 := H9.2.1; by show _ < _; rw [pk_un (by have k4 := r_v_12.cl (by decide); have k5 := r_v_12; unfold RI at k5; have k6 : Int32.toNatClampNeg 3 = 3 := (by decide); omega)]; exact h9), (have h9 := H9.2.2.1; by show _ < _; rw [pk_un (by have k4 := r_v_12.cl (by decide); have k5 := r_v_12; unfold RI at k5; omega)]; exact h9), trivial⟩)) (cwV 2 hts (gV tw_1362 tw_1364 ts_51 tw_15 tw_1365) rfl rfl rfl (by decide +kernel) ⟨Nat.le_of_ble_eq_true rfl, Nat.le_of_ble_eq_true rfl⟩) (tg_preV hw hK hSD hA (ci := 10) (q := (RX10, TX10, 49)) rfl h_p0 rfl) rfl rfl hl.1 rfl (lv_room (Nat.le_of_ble_eq_true rfl)) dX10_readPerson_57 ⟨Nat.le_of_ble_eq_true rfl, Nat.le_of_ble_eq_true rfl⟩) hw hA (fun v_14  H locs hp_v_14 hw => ?_)
                  have r_v_14 : RI v_14 0 0 := hp_v_14.1
                  by_cases c9_v_14 : v_14 = 0
                  · have r_v_14 : RI v_14 0 0 := by rw [c9_v_14]; exact rl_0
                    have x_RH_p0 : AX 15 35 (fun f => RH2p f) Ps ws p0 := AX.imp ((hp_v_14.2.1 c9_v_14).1) (fun _ h9 => h9.1)
                    have x_RLT_p0_3_8 : AX 15 35 (fun f => (f (Int32.toNatClampNeg 3)).toInt < Int32.toInt 8) Ps ws p0 := AX.imp ((hp_v_14.2.1 c9_v_14).1) (fun _ h9 => h9.2.1)
                    have x_IP_p0 : AX 15 35 (fun f => 0 < (f 0).toInt) Ps ws p0 := AX.imp ((hp_v_14.2.1 c9_v_14).1) (fun _ h9 => h9.2.2.1)
                    refine lv_if_ne (tgt := 65) hx hb dX10_readPerson_60 (by decide) (fun c_60 => ?_) (fun c_60 => ?_)
                    · exact absurd (r_v_14.eq.trans rl_0.eq.symm) ((ti_ne c_60))
                    · refine lv_iconst (v := 0) hx hb dX10_readPerson_63 (by decide) ?_
                      subst hQ
                      exact W.zret (v := 0) hx hb hr (rfl) (fun t ht hW => ⟨⟨0, ws, rfl, ⟨⟨rl_0.to (by decide), (fun h0 => trivial), (fun h0 => absurd rfl h0)⟩, hw.1, hw.2.2.2.2.1⟩, by rw [ht]; exact hw.2.1, va_K.moved hW.alike hK, hw.2.2.1⟩, hw.2.2.2.1.F ht⟩) hw.2.2.2.1.2.2 dX10_readPerson_64
                  · exact absurd (Int32.toInt_inj.mp (by rw [Int32.toInt_zero]; unfold RI at r_v_14; omega)) c9_v_14
                · have r_v_13 : RI v_13 1 1 := rc_neL r_v_13 rl_0 (ti_ne c9_v_13) (by decide)
                  obtain ⟨v_15, m_v_15, r_v_15⟩ := ((hp_v_13.2.2 c9_v_13).1)
                  have x_TOK_p0_gh := ((hp_v_13.2.2 c9_v_13).2.1)
                  refine tk_i (va_runV (As := [.int v_12, .int v_13]) (rest := []) ⟨hx, hb, hml, hown, hts⟩ (c_X10_put__11 l D cy z H.size Ps ws hw.1 p0 v_12 v_13 v_15 (fun f => RH2p f ∧ (f (Int32.toNatClampNeg 3)).toInt < Int32.toInt 8 ∧ 0 < (f 0).toInt ∧ True) (fun f => RH2p f ∧ (f (Int32.toNatClampNeg 3)).toInt < Int32.toInt 8 ∧ 0 < (f 0).toInt ∧ True) h_p0 r_v_12 r_v_13 r_v_15 m_v_15 (AX.and hw x_RH_p0 (AX.and hw x_RLT_p0_3_8 (AX.and hw x_IP_p0 (rx_true hw h_p0)))) (fun f9 v9 hv9 H9 => ⟨(have h9 := H9.1; RH_keep h9 (by have k4 := r_v_12.cl (by decide); have k5 := r_v_12; unfold RI at k5; omega)), (have h9 := H9.2.1; by show _ < _; rw [pk_un (by have k4 := r_v_12.cl (by decide); have k5 := r_v_12; unfold RI at k5; have k6 : Int32.toNatClampNeg 3 = 3 := (by decide); omega)]; exact h9), (have h9 := H9.2.2.1; by show _ < _; rw [pk_un (by have k4 := r_v_12.cl (by decide); have k5 := r_v_12; unfold RI at k5; omega)]; exact h9), trivial⟩)) (cwV 2 hts (gV tw_1362 tw_1364 ts_51 tw_15 tw_1365) rfl rfl rfl (by decide +kernel) ⟨Nat.le_of_ble_eq_true rfl, Nat.le_of_ble_eq_true rfl⟩) (tg_preV hw hK hSD hA (ci := 10) (q := (RX10, TX10, 49)) rfl h_p0 rfl) rfl rfl hl.1 rfl (lv_room (Nat.le_of_ble_eq_true rfl)) dX10_readPerson_57 ⟨Nat.le_of_ble_eq_true rfl, Nat.le_of_ble_eq_true rfl⟩) hw hA ⟨by decide, by decide⟩ (fun v_16 ws H locs hp_v_16 hw hF9 => ?_)
                  have m_u_2 := FLD.over hF9 m_u_2 (by decide)
                  have m_v_15 := FLD.over hF9 m_v_15 (by decide)
                  have x_TOK_p0_gh := TKP.over hF9 x_TOK_p0_gh (by decide)
                  have r_v_16 : RI v_16 1 1 := hp_v_16.1
                  by_cases c9_v_16 : v_16 = 0
                  · exact absurd (ti_eq c9_v_16) (by unfold RI at r_v_16; rw [Int32.toInt_zero]; omega)
                  · obtain ⟨v_17, m_v_17, r_v_17⟩ := ((hp_v_16.2.2 c9_v_16).1)
                    have x_RH_p0 : AX 15 35 (fun f => RH2p f) Ps ws p0 := AX.imp ((hp_v_16.2.2 c9_v_16).2.1) (fun _ h9 => h9.1)
                    have x_RLT_p0_3_8 : AX 15 35 (fun f => (f (Int32.toNatClampNeg 3)).toInt < Int32.toInt 8) Ps ws p0 := AX.imp ((hp_v_16.2.2 c9_v_16).2.1) (fun _ h9 => h9.2.1)
                    have x_IP_p0 : AX 15 35 (fun f => 0 < (f 0).toInt) Ps ws p0 := AX.imp ((hp_v_16.2.2 c9_v_16).2.1) (fun _ h9 => h9.2.2.1)
                    refine lv_if_ne (tgt := 65) hx hb dX10_readPerson_60 (by decide) (fun c_60 => ?_) (fun c_60 => ?_)
                    · refine lv_aload_n hx hb dX10_readPerson_65 rfl (lv_at hl 1 rfl) ?_
                      refine tg_mem (ci := 10) (C := RX10) (T := TX10) (N := 49) hx hb hts inX10 hown hK hw 15 m_u_2 rfl (by decide) (hts _ tw_1152) (fun _ h9 => h9) dX10_readPerson_66 ?_
                      refine lv_bipush (v := 40) hx hb dX10_readPerson_69 (by decide) ?_
                      refine lv_iload_n hx hb dX10_readPerson_71 rfl (lv_at hl 0 rfl) ?_
                      refine lv_iadd hx hb dX10_readPerson_72 (lv_topi (fun v_18 e_v_18 => ?_))
                      obtain ⟨t_v_18, r_v_18⟩ := tq_add (lo := 40) (hi := 47) rl_40 r_v_3 (by decide +kernel) e_v_18
                      have t_v_18 : v_18.toInt = 40 + v_3.toInt := t_v_18
                      refine lv_iconst (v := (-1)) hx hb dX10_readPerson_73 (by decide) ?_
                      refine tg_iast hx hb hK hw h_vu_2 rfl 40 47 r_v_18 (by decide) rl_m1 (by decide +kernel) (fun _ _ _ _ _ => trivial) (by decide) dX10_readPerson_74 (fun ws H locs hw hF9 hU9 => ?_)
                      have x_RH_p0 : AX 15 35 (fun f => RH2p f) Ps ws p0 := AX.ast hF9 hU9 x_RH_p0 m_u_2 (fun f9 h9 => RH_keep h9 (by have k4 := r_v_18.cl (by decide); have k5 := r_v_18; unfold RI at k5; omega))
                      have x_RLT_p0_3_8 : AX 15 35 (fun f => (f (Int32.toNatClampNeg 3)).toInt < Int32.toInt 8) Ps ws p0 := AX.ast hF9 hU9 x_RLT_p0_3_8 m_u_2 (fun f9 h9 => by show _ < _; rw [pk_un (by have k4 := r_v_18.cl (by decide); have k5 := r_v_18; unfold RI at k5; have k6 : Int32.toNatClampNeg 3 = 3 := (by decide); omega)]; exact h9)
                      have x_IP_p0 : AX 15 35 (fun f => 0 < (f 0).toInt) Ps ws p0 := AX.ast hF9 hU9 x_IP_p0 m_u_2 (fun f9 h9 => by show _ < _; rw [pk_un (by have k4 := r_v_18.cl (by decide); have k5 := r_v_18; unfold RI at k5; omega)]; exact h9)
                      have x_TOK_p0_gh := TKP.over hF9 x_TOK_p0_gh (by decide)
                      have m_u_2 := FLD.over hF9 m_u_2 (by decide)
                      have m_v_17 := FLD.over hF9 m_v_17 (by decide)
                      refine lv_aload_n hx hb dX10_readPerson_75 rfl (lv_at hl 1 rfl) ?_
                      refine tg_mem (ci := 10) (C := RX10) (T := TX10) (N := 49) hx hb hts inX10 hown hK hw 15 m_u_2 rfl (by decide) (hts _ tw_1152) (fun _ h9 => h9) dX10_readPerson_76 ?_
                      refine lv_iconst (v := 3) hx hb dX10_readPerson_79 (by decide) ?_
                      refine lv_dup2_11 hx hb dX10_readPerson_80 rfl rfl ?_
                      refine tg_iald (lo := 0) (hi := 8) hx hb hK hw h_vu_2 rfl 3 3 rl_3 (by decide) (by decide +kernel) dX10_readPerson_81 (fun v_19 r_v_19 m_v_19 o_v_19 => ?_)
                      have r_v_19 : RI v_19 0 7 := by obtain ⟨f9, h9, q9, g9⟩ := AX.use hw x_RLT_p0_3_8 h_vu_2 rfl m_u_2; have e9 := g9 _ _ m_v_19; have j9 : Int32.toNatClampNeg 3 = 3 := (by decide); rw [j9] at e9; have h8 : (f9 3).toInt < 8 := h9; rw [e9] at h8; exact ⟨r_v_19.1, by omega⟩
                      refine lv_iconst (v := 1) hx hb dX10_readPerson_82 (by decide) ?_
                      refine lv_iadd hx hb dX10_readPerson_83 (lv_topi (fun v_20 e_v_20 => ?_))
                      obtain ⟨t_v_20, r_v_20⟩ := tq_add (lo := 1) (hi := 8) r_v_19 rl_1 (by decide +kernel) e_v_20
                      have t_v_20 : v_20.toInt = v_19.toInt + 1 := t_v_20
                      have x_RHD_p0 : AX 15 35 (fun f => RH2p f ∧ 0 < (f 0).toInt) Ps ws p0 := AX.and hw x_RH_p0 x_IP_p0
                      have hw8 := hw
                      refine tg_iast hx hb hK hw h_vu_2 rfl 3 3 rl_3 (by decide) r_v_20 (by decide +kernel) (fun _ _ _ _ _ => trivial) (by decide) dX10_readPerson_84 (fun ws H locs hw hF9 hU9 => ?_)
                      have x_IP_p0 : AX 15 35 (fun f => 0 < (f 0).toInt) Ps ws p0 := AX.ast hF9 hU9 x_IP_p0 m_u_2 (fun f9 h9 => by show _ < _; rw [pk_un (by decide)]; exact h9)
                      have x_RH_p0 : AX 15 35 (fun f => RH2p f) Ps ws p0 := AX.ast hF9 hU9 x_RHD_p0 m_u_2 (fun f9 h9 => RH_three h9.1 h9.2)
                      have x_TOK_p0_gh := TKP.over hF9 x_TOK_p0_gh (by decide)
                      have m_u_2 := FLD.over hF9 m_u_2 (by decide)
                      have m_v_17 := FLD.over hF9 m_v_17 (by decide)
                      refine lv_iconst (v := 1) hx hb dX10_readPerson_85 (by decide) ?_
                      subst hQ
                      exact W.zret (v := 1) hx hb hr (rfl) (fun t ht hW => ⟨⟨1, ws, rfl, ⟨⟨rl_1.to (by decide), (fun _ => trivial), (fun h0 => ⟨⟨_, m_v_17, r_v_17⟩, x_TOK_p0_gh, x_RH_p0, trivial⟩)⟩, hw.1, hw.2.2.2.2.1⟩, by rw [ht]; exact hw.2.1, va_K.moved hW.alike hK, hw.2.2.1⟩, hw.2.2.2.1.F ht⟩) hw.2.2.2.1.2.2 dX10_readPerson_86
                    · have r_v_16 : RI v_16 1 0 := rc_eq1 r_v_16 rl_0 (ti_eq c_60) (by decide)
                      exact (r_v_16.no (by decide)).elim
    · have r_v_1 : RI v_1 1 0 := rc_eq1 r_v_1 rl_0 (ti_eq c_7) (by decide)
      exact (r_v_1.no (by decide)).elim
abbrev wr_X10_readFirst__1 : List (Nat × Nat) := [(10, 5), (10, 6), (10, 7), (10, 8), (10, 9), (10, 10), (10, 11), (10, 12)]
abbrev wa_X10_readFirst__1 : List Nat := []
set_option maxHeartbeats 4000000 in
set_option maxRecDepth 100000 in
theorem c_X10_readFirst__1 (l : Launch) (D : va_G) (cy : Nat → ClassId) (z : Nat → Nat) (sz : Nat) (Ps : PSI) (w0 : va_W) (hT : HT cy GG Ps w0) (p0 : Nat) (p1 : Int32) (p2 : Int32) (gh : Int) (h_p0 : (p0, 55) ∈ Ps) (r_p1 : RI p1 2 2) (r_p2 : RI p2 6 6) (x_TO_p0_gh : TOP w0 p0 (gh)) : Met l yX10_readFirst (Cond.code yX10_readFirst cX10_readFirst 3 (some .boolean) :: gT) ({ frames := 3, cells := 0, slots := 0, locals := 600 } : Room) (va_Pc [.ref p0, .int p1, .int p2] (PRE D cy z w0 sz)) (va_Qi (fun (r : Int32) (u : va_W) => (RI r 0 1 ∧ (r = 0 → True) ∧ (¬ r = 0 → TKP u p0 (gh) ∧ AX 15 35 (fun f => (f (Int32.toNatClampNeg p1)).toInt < Int32.toInt p2) Ps u p0 ∧ True)) ∧ HT cy GG Ps u ∧ FR wr_X10_readFirst__1 wa_X10_readFirst__1 Ps w0 u) (BB D cy (va_A w0 sz) (fun (u : va_W) => u)) (va_A w0 sz)) 0 0 (va_A w0 sz) := by
  refine Met.ofW (cc := cX10_readFirst) (maxL := 3) (ret := (some .boolean)) (by decide) rfl ?_
  intro p e s m args below meth c s₁ B hml hv
  obtain ⟨rfl, hsz, hP, hK, hD0, hSD⟩ := hv
  have hx := B.exec
  have hb := B.bytes
  have hr := B.returns
  have hlocks := B.notSynchronized
  have hts : ∀ w ∈ gT, w.before _ s = true := fun w h => atoms_spec (ws := Cond.code yX10_readFirst cX10_readFirst 3 (some .boolean) :: gT) B.pre w (List.mem_cons_of_mem _ h)
  have hown : s.vm.findClass RX10 = some m.cls := findClass_of_methodNamed B.named
  subst hsz
  have hD := hD0.self (sz := s.heap.size)
  generalize hAe : va_A w0 s.heap.size = A at hD hSD ⊢
  have hA : ∀ q : Nat, s.heap.size ≤ q → A q := fun q h => by rw [← hAe]; exact Or.inr h
  have hl := lv_entry ([.ref p0, .int p1, .int p2]) (n := 3) (Nat.le_of_ble_eq_true rfl)
  rw [lg_entry_eq]
  generalize (lg_sl ([.ref p0, .int p1, .int p2]) ++ List.replicate (3 - (lg_sl ([.ref p0, .int p1, .int p2])).length) Slot.unset).toArray = ls at hl ⊢
  have hl : lv_has ls 3 [(0, .ref p0), (1, .int p1), (2, .int p2)] := hl
  refine nameQ (fun Q hQ => ?_)
  have hw : WD D cy GG A s wr_X10_readFirst__1 wa_X10_readFirst__1 Ps w0 Ps w0 s.heap [] := ⟨hT, hP, hD, va_S.rf, FR.rf, hT.1, [], (List.append_nil _).symm⟩
  refine lv_aload_n hx hb dX10_readFirst_0 rfl (lv_at hl 0 rfl) ?_
  refine tg_get (ci := 10) (ts := ty_MODEL) (C := RX10) (T := TX10) (N := 49) hx hb hts inX10 hown hK hw h_p0 rfl rfl 15 (by decide) (hts _ tw_1152) (fun _ h9 => h9) (ft := vR 35) rfl dX10_readFirst_1 (fun u_1 hv_u_1 m_u_1 => ?_)
  obtain ⟨vu_1, rfl, h_vu_1⟩ := hv_u_1
  refine lv_iload_n hx hb dX10_readFirst_4 rfl (lv_at hl 1 rfl) ?_
  refine tg_iald (lo := 0) (hi := 6) hx hb hK hw h_vu_1 rfl 2 2 r_p1 (by decide) (by decide +kernel) dX10_readFirst_5 (fun v_2 r_v_2 m_v_2 o_v_2 => ?_)
  refine lv_iload_n hx hb dX10_readFirst_6 rfl (lv_at hl 2 rfl) ?_
  refine lv_icmp_ne (tgt := 16) hx hb dX10_readFirst_7 (by decide) (fun c_7 => ?_) (fun c_7 => ?_)
  · have r_v_2 : RI v_2 0 5 := rc_neU r_v_2 r_p2 (ti_ne c_7) (by decide)
    have x_RLT_p0_p1_p2 : AX 15 35 (fun f => (f (Int32.toNatClampNeg p1)).toInt < Int32.toInt p2) Ps w0 p0 := AX.mk hw h_vu_1 rfl m_u_1 (fun f9 g9 _ => by have e9 := g9 _ _ m_v_2; have j9 : Int32.toNatClampNeg p1 = Int32.toNatClampNeg p1 := rfl; rw [j9] at e9; show _; rw [e9]; have k1 := r_v_2.2; have k2 := r_p2.1; omega)
    refine lv_aload_n hx hb dX10_readFirst_16 rfl (lv_at hl 0 rfl) ?_
    refine tk_v (va_runV (As := []) (rest := []) ⟨hx, hb, hml, hown, hts⟩ (c_X10_go__1 l D cy z s.heap.size Ps w0 hw.1 p0 (gh) h_p0 x_TO_p0_gh) (cwV 0 hts (gV tw_1298 tw_1300 ts_40 tw_15 tw_1301) rfl rfl rfl (by decide +kernel) ⟨Nat.le_of_ble_eq_true rfl, Nat.le_of_ble_eq_true rfl⟩) (tg_preV hw hK hSD hA (ci := 10) (q := (RX10, TX10, 49)) rfl h_p0 rfl) rfl rfl hl.1 rfl (lv_room (Nat.le_of_ble_eq_true rfl)) dX10_readFirst_17 ⟨Nat.le_of_ble_eq_true rfl, Nat.le_of_ble_eq_true rfl⟩) hw hA ⟨by decide, by decide⟩ (fun ws H locs hp_v_3 hw hF9 => ?_)
    have x_RLT_p0_p1_p2 := AX.over hF9 x_RLT_p0_p1_p2 (by decide)
    have x_TOK_p0_gh := (hp_v_3.1)
    refine lv_iconst (v := 1) hx hb dX10_readFirst_20 (by decide) ?_
    subst hQ
    exact W.zret (v := 1) hx hb hr (rfl) (fun t ht hW => ⟨⟨1, ws, rfl, ⟨⟨rl_1.to (by decide), (fun _ => trivial), (fun h0 => ⟨x_TOK_p0_gh, x_RLT_p0_p1_p2, trivial⟩)⟩, hw.1, hw.2.2.2.2.1⟩, by rw [ht]; exact hw.2.1, va_K.moved hW.alike hK, hw.2.2.1⟩, hw.2.2.2.1.F ht⟩) hw.2.2.2.1.2.2 dX10_readFirst_21
  · have r_v_2 : RI v_2 6 6 := rc_eq1 r_v_2 r_p2 (ti_eq c_7) (by decide)
    refine lv_aload_n hx hb dX10_readFirst_10 rfl (lv_at hl 0 rfl) ?_
    refine lv_iconst (v := 4) hx hb dX10_readFirst_11 (by decide) ?_
    refine tk_i (va_runV (As := [.int 4]) (rest := []) ⟨hx, hb, hml, hown, hts⟩ (c_X10_bad l D cy z s.heap.size Ps w0 hw.1 p0 4 h_p0 (rl_4.to (by decide))) (cwV 1 hts (gV tw_1336 tw_1338 ts_46 tw_15 tw_1339) rfl rfl rfl (by decide +kernel) ⟨Nat.le_of_ble_eq_true rfl, Nat.le_of_ble_eq_true rfl⟩) (tg_preV hw hK hSD hA (ci := 10) (q := (RX10, TX10, 49)) rfl h_p0 rfl) rfl rfl hl.1 rfl (lv_room (Nat.le_of_ble_eq_true rfl)) dX10_readFirst_12 ⟨Nat.le_of_ble_eq_true rfl, Nat.le_of_ble_eq_true rfl⟩) hw hA ⟨by decide, by decide⟩ (fun v_4 ws H locs hp_v_4 hw hF9 => ?_)
    have x_TO_p0_gh := TOP.over hF9 x_TO_p0_gh (by decide)
    have r_v_4 : RI v_4 0 0 := hp_v_4.1
    subst hQ
    exact W.zret (v := v_4) hx hb hr (tq_nz (r_v_4.to (by decide))) (fun t ht hW => ⟨⟨v_4, ws, rfl, ⟨⟨r_v_4.to (by decide), (fun h0 => trivial), (fun h0 => absurd (Int32.toInt_inj.mp (by have h8 := r_v_4; unfold RI at h8; rw [Int32.toInt_zero]; omega)) h0)⟩, hw.1, hw.2.2.2.2.1⟩, by rw [ht]; exact hw.2.1, va_K.moved hW.alike hK, hw.2.2.1⟩, hw.2.2.2.1.F ht⟩) hw.2.2.2.1.2.2 dX10_readFirst_15
abbrev wr_X10_readNew__1 : List (Nat × Nat) := [(10, 5), (10, 6), (10, 7), (10, 8), (10, 9), (10, 10), (10, 11), (10, 12)]
abbrev wa_X10_readNew__1 : List Nat := [42]
set_option maxHeartbeats 4000000 in
set_option maxRecDepth 100000 in
theorem c_X10_readNew__1 (l : Launch) (D : va_G) (cy : Nat → ClassId) (z : Nat → Nat) (sz : Nat) (Ps : PSI) (w0 : va_W) (hT : HT cy GG Ps w0) (p0 : Nat) (p1 : Int32) (gh : Int) (h_p0 : (p0, 55) ∈ Ps) (r_p1 : RI p1 10 15) (x_TO_p0_gh : TOP w0 p0 (gh)) : Met l yX10_readNew (Cond.code yX10_readNew cX10_readNew 2 (some .boolean) :: gT) ({ frames := 4, cells := 0, slots := 0, locals := 800 } : Room) (va_Pc [.ref p0, .int p1] (PRE D cy z w0 sz)) (va_Qi (fun (r : Int32) (u : va_W) => (RI r 0 1 ∧ (r = 0 → True) ∧ (¬ r = 0 → TKP u p0 (gh) ∧ True)) ∧ HT cy GG Ps u ∧ FR wr_X10_readNew__1 wa_X10_readNew__1 Ps w0 u) (BB D cy (va_A w0 sz) (fun (u : va_W) => u)) (va_A w0 sz)) 0 0 (va_A w0 sz) := by
  refine Met.ofW (cc := cX10_readNew) (maxL := 2) (ret := (some .boolean)) (by decide) rfl ?_
  intro p e s m args below meth c s₁ B hml hv
  obtain ⟨rfl, hsz, hP, hK, hD0, hSD⟩ := hv
  have hx := B.exec
  have hb := B.bytes
  have hr := B.returns
  have hlocks := B.notSynchronized
  have hts : ∀ w ∈ gT, w.before _ s = true := fun w h => atoms_spec (ws := Cond.code yX10_readNew cX10_readNew 2 (some .boolean) :: gT) B.pre w (List.mem_cons_of_mem _ h)
  have hown : s.vm.findClass RX10 = some m.cls := findClass_of_methodNamed B.named
  subst hsz
  have hD := hD0.self (sz := s.heap.size)
  generalize hAe : va_A w0 s.heap.size = A at hD hSD ⊢
  have hA : ∀ q : Nat, s.heap.size ≤ q → A q := fun q h => by rw [← hAe]; exact Or.inr h
  have hl := lv_entry ([.ref p0, .int p1]) (n := 2) (Nat.le_of_ble_eq_true rfl)
  rw [lg_entry_eq]
  generalize (lg_sl ([.ref p0, .int p1]) ++ List.replicate (2 - (lg_sl ([.ref p0, .int p1])).length) Slot.unset).toArray = ls at hl ⊢
  have hl : lv_has ls 2 [(0, .ref p0), (1, .int p1)] := hl
  refine nameQ (fun Q hQ => ?_)
  have hw : WD D cy GG A s wr_X10_readNew__1 wa_X10_readNew__1 Ps w0 Ps w0 s.heap [] := ⟨hT, hP, hD, va_S.rf, FR.rf, hT.1, [], (List.append_nil _).symm⟩
  refine lv_aload_n hx hb dX10_readNew_0 rfl (lv_at hl 0 rfl) ?_
  refine tk_ir (va_runV (As := []) (rest := []) ⟨hx, hb, hml, hown, hts⟩ (c_X10_isName l D cy z s.heap.size Ps w0 hw.1 p0 h_p0) (cwV 0 hts (gV tw_1344 tw_1346 ts_48 tw_15 tw_1347) rfl rfl rfl (by decide +kernel) ⟨Nat.le_of_ble_eq_true rfl, Nat.le_of_ble_eq_true rfl⟩) (tg_preV hw hK hSD hA (ci := 10) (q := (RX10, TX10, 49)) rfl h_p0 rfl) rfl rfl hl.1 rfl (lv_room (Nat.le_of_ble_eq_true rfl)) dX10_readNew_1 ⟨Nat.le_of_ble_eq_true rfl, Nat.le_of_ble_eq_true rfl⟩) hw hA (fun v_1  H locs hp_v_1 hw => ?_)
  have r_v_1 : RI v_1 0 1 := hp_v_1.1
  refine lv_if_ne (tgt := 13) hx hb dX10_readNew_4 (by decide) (fun c_4 => ?_) (fun c_4 => ?_)
  · have r_v_1 : RI v_1 1 1 := rc_neL r_v_1 rl_0 (ti_ne c_4) (by decide)
    refine lv_aload_n hx hb dX10_readNew_13 rfl (lv_at hl 0 rfl) ?_
    refine tk_ir (va_runV (As := []) (rest := []) ⟨hx, hb, hml, hown, hts⟩ (c_X10_isTaken l D cy z H.size Ps w0 hw.1 p0 h_p0) (cwV 0 hts (gV tw_1348 tw_1350 ts_49 tw_15 tw_1351) rfl rfl rfl (by decide +kernel) ⟨Nat.le_of_ble_eq_true rfl, Nat.le_of_ble_eq_true rfl⟩) (tg_preV hw hK hSD hA (ci := 10) (q := (RX10, TX10, 49)) rfl h_p0 rfl) rfl rfl hl.1 rfl (lv_room (Nat.le_of_ble_eq_true rfl)) dX10_readNew_14 ⟨Nat.le_of_ble_eq_true rfl, Nat.le_of_ble_eq_true rfl⟩) hw hA (fun v_2  H locs hp_v_2 hw => ?_)
    have r_v_2 : RI v_2 0 1 := hp_v_2.1
    refine lv_if_eq (tgt := 26) hx hb dX10_readNew_17 (by decide) (fun c_17 => ?_) (fun c_17 => ?_)
    · have r_v_2 : RI v_2 0 0 := rc_eq1 r_v_2 rl_0 (ti_eq c_17) (by decide)
      refine lv_aload_n hx hb dX10_readNew_26 rfl (lv_at hl 0 rfl) ?_
      refine tg_get (ci := 10) (ts := ty_MODEL) (C := RX10) (T := TX10) (N := 49) hx hb hts inX10 hown hK hw h_p0 rfl rfl 21 (by decide) (hts _ tw_1158) (fun _ h9 => h9) (ft := vR 42) rfl dX10_readNew_27 (fun u_3 hv_u_3 m_u_3 => ?_)
      obtain ⟨vu_3, rfl, h_vu_3⟩ := hv_u_3
      refine lv_iload_n hx hb dX10_readNew_30 rfl (lv_at hl 1 rfl) ?_
      refine lv_aload_n hx hb dX10_readNew_31 rfl (lv_at hl 0 rfl) ?_
      refine tg_get (ci := 10) (ts := ty_MODEL) (C := RX10) (T := TX10) (N := 49) hx hb hts inX10 hown hK hw h_p0 rfl rfl 12 (by decide) (hts _ tw_1149) (fun _ h9 => h9) (ft := vJ (-9223372036854775808) 9223372036854775807) rfl dX10_readNew_32 (fun u_4 hv_u_4 m_u_4 => ?_)
      obtain ⟨vu_4, rfl, r_vu_4⟩ := hv_u_4
      refine tg_last hx hb hK hw h_vu_3 rfl r_p1 (by decide) r_vu_4 (by decide) (by decide) dX10_readNew_35 (fun ws H locs hw hF9 => ?_)
      have x_TO_p0_gh := TOP.over hF9 x_TO_p0_gh (by decide)
      refine lv_aload_n hx hb dX10_readNew_36 rfl (lv_at hl 0 rfl) ?_
      refine tk_v (va_runV (As := []) (rest := []) ⟨hx, hb, hml, hown, hts⟩ (c_X10_go__1 l D cy z H.size Ps ws hw.1 p0 (gh) h_p0 x_TO_p0_gh) (cwV 0 hts (gV tw_1298 tw_1300 ts_40 tw_15 tw_1301) rfl rfl rfl (by decide +kernel) ⟨Nat.le_of_ble_eq_true rfl, Nat.le_of_ble_eq_true rfl⟩) (tg_preV hw hK hSD hA (ci := 10) (q := (RX10, TX10, 49)) rfl h_p0 rfl) rfl rfl hl.1 rfl (lv_room (Nat.le_of_ble_eq_true rfl)) dX10_readNew_37 ⟨Nat.le_of_ble_eq_true rfl, Nat.le_of_ble_eq_true rfl⟩) hw hA ⟨by decide, by decide⟩ (fun ws H locs hp_v_5 hw hF9 => ?_)
      have x_TOK_p0_gh := (hp_v_5.1)
      refine lv_iconst (v := 1) hx hb dX10_readNew_40 (by decide) ?_
      subst hQ
      exact W.zret (v := 1) hx hb hr (rfl) (fun t ht hW => ⟨⟨1, ws, rfl, ⟨⟨rl_1.to (by decide), (fun _ => trivial), (fun h0 => ⟨x_TOK_p0_gh, trivial⟩)⟩, hw.1, hw.2.2.2.2.1⟩, by rw [ht]; exact hw.2.1, va_K.moved hW.alike hK, hw.2.2.1⟩, hw.2.2.2.1.F ht⟩) hw.2.2.2.1.2.2 dX10_readNew_41
    · have r_v_2 : RI v_2 1 1 := rc_neL r_v_2 rl_0 (ti_ne c_17) (by decide)
      refine lv_aload_n hx hb dX10_readNew_20 rfl (lv_at hl 0 rfl) ?_
      refine lv_iconst (v := 3) hx hb dX10_readNew_21 (by decide) ?_
      refine tk_i (va_runV (As := [.int 3]) (rest := []) ⟨hx, hb, hml, hown, hts⟩ (c_X10_bad l D cy z H.size Ps w0 hw.1 p0 3 h_p0 (rl_3.to (by decide))) (cwV 1 hts (gV tw_1336 tw_1338 ts_46 tw_15 tw_1339) rfl rfl rfl (by decide +kernel) ⟨Nat.le_of_ble_eq_true rfl, Nat.le_of_ble_eq_true rfl⟩) (tg_preV hw hK hSD hA (ci := 10) (q := (RX10, TX10, 49)) rfl h_p0 rfl) rfl rfl hl.1 rfl (lv_room (Nat.le_of_ble_eq_true rfl)) dX10_readNew_22 ⟨Nat.le_of_ble_eq_true rfl, Nat.le_of_ble_eq_true rfl⟩) hw hA ⟨by decide, by decide⟩ (fun v_6 ws H locs hp_v_6 hw hF9 => ?_)
      have x_TO_p0_gh := TOP.over hF9 x_TO_p0_gh (by decide)
      have r_v_6 : RI v_6 0 0 := hp_v_6.1
      subst hQ
      exact W.zret (v := v_6) hx hb hr (tq_nz (r_v_6.to (by decide))) (fun t ht hW => ⟨⟨v_6, ws, rfl, ⟨⟨r_v_6.to (by decide), (fun h0 => trivial), (fun h0 => absurd (Int32.toInt_inj.mp (by have h8 := r_v_6; unfold RI at h8; rw [Int32.toInt_zero]; omega)) h0)⟩, hw.1, hw.2.2.2.2.1⟩, by rw [ht]; exact hw.2.1, va_K.moved hW.alike hK, hw.2.2.1⟩, hw.2.2.2.1.F ht⟩) hw.2.2.2.1.2.2 dX10_readNew_25
  · have r_v_1 : RI v_1 0 0 := rc_eq1 r_v_1 rl_0 (ti_eq c_4) (by decide)
    refine lv_aload_n hx hb dX10_readNew_7 rfl (lv_at hl 0 rfl) ?_
    refine lv_iconst (v := 1) hx hb dX10_readNew_8 (by decide) ?_
    refine tk_i (va_runV (As := [.int 1]) (rest := []) ⟨hx, hb, hml, hown, hts⟩ (c_X10_bad l D cy z H.size Ps w0 hw.1 p0 1 h_p0 (rl_1.to (by decide))) (cwV 1 hts (gV tw_1336 tw_1338 ts_46 tw_15 tw_1339) rfl rfl rfl (by decide +kernel) ⟨Nat.le_of_ble_eq_true rfl, Nat.le_of_ble_eq_true rfl⟩) (tg_preV hw hK hSD hA (ci := 10) (q := (RX10, TX10, 49)) rfl h_p0 rfl) rfl rfl hl.1 rfl (lv_room (Nat.le_of_ble_eq_true rfl)) dX10_readNew_9 ⟨Nat.le_of_ble_eq_true rfl, Nat.le_of_ble_eq_true rfl⟩) hw hA ⟨by decide, by decide⟩ (fun v_7 ws H locs hp_v_7 hw hF9 => ?_)
    have x_TO_p0_gh := TOP.over hF9 x_TO_p0_gh (by decide)
    have r_v_7 : RI v_7 0 0 := hp_v_7.1
    subst hQ
    exact W.zret (v := v_7) hx hb hr (tq_nz (r_v_7.to (by decide))) (fun t ht hW => ⟨⟨v_7, ws, rfl, ⟨⟨r_v_7.to (by decide), (fun h0 => trivial), (fun h0 => absurd (Int32.toInt_inj.mp (by have h8 := r_v_7; unfold RI at h8; rw [Int32.toInt_zero]; omega)) h0)⟩, hw.1, hw.2.2.2.2.1⟩, by rw [ht]; exact hw.2.1, va_K.moved hW.alike hK, hw.2.2.1⟩, hw.2.2.2.1.F ht⟩) hw.2.2.2.1.2.2 dX10_readNew_12
abbrev wr_X10_isOne__3 : List (Nat × Nat) := [(10, 10), (10, 11), (10, 13)]
abbrev wa_X10_isOne__3 : List Nat := []
set_option maxHeartbeats 4000000 in
set_option maxRecDepth 100000 in
theorem c_X10_isOne__3 (l : Launch) (D : va_G) (cy : Nat → ClassId) (z : Nat → Nat) (sz : Nat) (Ps : PSI) (w0 : va_W) (hT : HT cy GG Ps w0) (p0 : Nat) (p1 : Int32) (p2 : Int32) (h_p0 : (p0, 55) ∈ Ps) (r_p1 : RI p1 6 6) (r_p2 : RI p2 0 4) : Met l yX10_isOne (Cond.code yX10_isOne cX10_isOne 3 (some .boolean) :: gT) ({ frames := 4, cells := 0, slots := 0, locals := 800 } : Room) (va_Pc [.ref p0, .int p1, .int p2] (PRE D cy z w0 sz)) (va_Qi (fun (r : Int32) (u : va_W) => (RI r 0 1 ∧ (r = 0 → True) ∧ (¬ r = 0 → RI p2 1 4 ∧ (∃ v9 : Int32, FLD u p0 10 13 (.int v9) ∧ RI v9 0 3) ∧ True)) ∧ HT cy GG Ps u ∧ FR wr_X10_isOne__3 wa_X10_isOne__3 Ps w0 u) (BB D cy (va_A w0 sz) (fun (u : va_W) => u)) (va_A w0 sz)) 0 0 (va_A w0 sz) := by
  refine Met.ofW (cc := cX10_isOne) (maxL := 3) (ret := (some .boolean)) (by decide) rfl ?_
  intro p e s m args below meth c s₁ B hml hv
  obtain ⟨rfl, hsz, hP, hK, hD0, hSD⟩ := hv
  have hx := B.exec
  have hb := B.bytes
  have hr := B.returns
  have hlocks := B.notSynchronized
  have hts : ∀ w ∈ gT, w.before _ s = true := fun w h => atoms_spec (ws := Cond.code yX10_isOne cX10_isOne 3 (some .boolean) :: gT) B.pre w (List.mem_cons_of_mem _ h)
  have hown : s.vm.findClass RX10 = some m.cls := findClass_of_methodNamed B.named
  subst hsz
  have hD := hD0.self (sz := s.heap.size)
  generalize hAe : va_A w0 s.heap.size = A at hD hSD ⊢
  have hA : ∀ q : Nat, s.heap.size ≤ q → A q := fun q h => by rw [← hAe]; exact Or.inr h
  have hl := lv_entry ([.ref p0, .int p1, .int p2]) (n := 3) (Nat.le_of_ble_eq_true rfl)
  rw [lg_entry_eq]
  generalize (lg_sl ([.ref p0, .int p1, .int p2]) ++ List.replicate (3 - (lg_sl ([.ref p0, .int p1, .int p2])).length) Slot.unset).toArray = ls at hl ⊢
  have hl : lv_has ls 3 [(0, .ref p0), (1, .int p1), (2, .int p2)] := hl
  refine nameQ (fun Q hQ => ?_)
  have hw : WD D cy GG A s wr_X10_isOne__3 wa_X10_isOne__3 Ps w0 Ps w0 s.heap [] := ⟨hT, hP, hD, va_S.rf, FR.rf, hT.1, [], (List.append_nil _).symm⟩
  refine lv_aload_n hx hb dX10_isOne_0 rfl (lv_at hl 0 rfl) ?_
  refine tk_ir (va_runV (As := []) (rest := []) ⟨hx, hb, hml, hown, hts⟩ (c_X10_isName l D cy z s.heap.size Ps w0 hw.1 p0 h_p0) (cwV 0 hts (gV tw_1344 tw_1346 ts_48 tw_15 tw_1347) rfl rfl rfl (by decide +kernel) ⟨Nat.le_of_ble_eq_true rfl, Nat.le_of_ble_eq_true rfl⟩) (tg_preV hw hK hSD hA (ci := 10) (q := (RX10, TX10, 49)) rfl h_p0 rfl) rfl rfl hl.1 rfl (lv_room (Nat.le_of_ble_eq_true rfl)) dX10_isOne_1 ⟨Nat.le_of_ble_eq_true rfl, Nat.le_of_ble_eq_true rfl⟩) hw hA (fun v_1  H locs hp_v_1 hw => ?_)
  have r_v_1 : RI v_1 0 1 := hp_v_1.1
  refine lv_if_ne (tgt := 13) hx hb dX10_isOne_4 (by decide) (fun c_4 => ?_) (fun c_4 => ?_)
  · have r_v_1 : RI v_1 1 1 := rc_neL r_v_1 rl_0 (ti_ne c_4) (by decide)
    refine lv_aload_n hx hb dX10_isOne_13 rfl (lv_at hl 0 rfl) ?_
    refine lv_aload_n hx hb dX10_isOne_14 rfl (lv_at hl 0 rfl) ?_
    refine tg_get (ci := 10) (ts := ty_MODEL) (C := RX10) (T := TX10) (N := 49) hx hb hts inX10 hown hK hw h_p0 rfl rfl 21 (by decide) (hts _ tw_1158) (fun _ h9 => h9) (ft := vR 42) rfl dX10_isOne_15 (fun u_2 hv_u_2 m_u_2 => ?_)
    obtain ⟨vu_2, rfl, h_vu_2⟩ := hv_u_2
    refine lv_iload_n hx hb dX10_isOne_18 rfl (lv_at hl 1 rfl) ?_
    refine lv_iload_n hx hb dX10_isOne_19 rfl (lv_at hl 2 rfl) ?_
    refine lv_aload_n hx hb dX10_isOne_20 rfl (lv_at hl 0 rfl) ?_
    refine tg_get (ci := 10) (ts := ty_MODEL) (C := RX10) (T := TX10) (N := 49) hx hb hts inX10 hown hK hw h_p0 rfl rfl 12 (by decide) (hts _ tw_1149) (fun _ h9 => h9) (ft := vJ (-9223372036854775808) 9223372036854775807) rfl dX10_isOne_21 (fun u_3 hv_u_3 m_u_3 => ?_)
    obtain ⟨vu_3, rfl, r_vu_3⟩ := hv_u_3
    refine tk_ir (va_runS (As := [.ref vu_2, .int p1, .int p2, .long vu_3]) (rest := [.ref p0]) ⟨hx, hb, hml, hown, hts⟩ (c_X10_findIn__1 l D cy z H.size Ps w0 hw.1 vu_2 p1 p2 vu_3 h_vu_2 r_p1 r_p2 r_vu_3) (va_cwS 4 hts (gS tw_1352 tw_1353 tw_15 tw_1354) rfl rfl rfl (by decide +kernel) ⟨Nat.le_of_ble_eq_true rfl, Nat.le_of_ble_eq_true rfl⟩) (tg_preS hw hK hSD hA) rfl rfl hl.1 rfl (lv_room (Nat.le_of_ble_eq_true rfl)) dX10_isOne_24 ⟨Nat.le_of_ble_eq_true rfl, Nat.le_of_ble_eq_true rfl⟩) hw hA (fun v_4  H locs hp_v_4 hw => ?_)
    have r_v_4 : RI v_4 (-1) 3 := hp_v_4.1
    by_cases c9_v_4 : v_4.toInt < 0
    · have r_v_4 : RI v_4 (-1) (-1) := by unfold RI at r_v_4 ⊢; omega
      have x_NF_vu_2_p1_p2_vu_3 := (hp_v_4.2.2.2.2.1 (by omega)).1
      refine tg_put (ci := 10) (ts := ty_MODEL) (v := .int v_4) (ty := .int) (C := RX10) (T := TX10) (N := 49) hx hb hts inX10 tyX10 tyX10_ok nmX10 hown hK hw h_p0 rfl rfl 13 (by decide) (hts _ tw_1150) (fun _ h9 => h9) rfl (by decide +kernel) rfl rfl (ft := vI (-2147483648) 2147483647) rfl ⟨_, rfl, (r_v_4.to (by decide))⟩ (by decide) dX10_isOne_27 (fun ws H locs hw n_k_5 hF9 => ?_)
      refine lv_aload_n hx hb dX10_isOne_30 rfl (lv_at hl 0 rfl) ?_
      refine tg_mem (ci := 10) (C := RX10) (T := TX10) (N := 49) hx hb hts inX10 hown hK hw 13 n_k_5 rfl (by decide) (hts _ tw_1150) (fun _ h9 => h9) dX10_isOne_31 ?_
      refine lv_iconst (v := (-1)) hx hb dX10_isOne_34 (by decide) ?_
      refine lv_icmp_ne (tgt := 46) hx hb dX10_isOne_35 (by decide) (fun c_35 => ?_) (fun c_35 => ?_)
      · exact absurd (r_v_4.eq.trans rl_m1.eq.symm) ((ti_ne c_35))
      · refine lv_aload_n hx hb dX10_isOne_38 rfl (lv_at hl 0 rfl) ?_
        refine lv_iconst (v := 3) hx hb dX10_isOne_39 (by decide) ?_
        refine tk_i (va_runV (As := [.int 3]) (rest := []) ⟨hx, hb, hml, hown, hts⟩ (c_X10_bad l D cy z H.size Ps ws hw.1 p0 3 h_p0 (rl_3.to (by decide))) (cwV 1 hts (gV tw_1336 tw_1338 ts_46 tw_15 tw_1339) rfl rfl rfl (by decide +kernel) ⟨Nat.le_of_ble_eq_true rfl, Nat.le_of_ble_eq_true rfl⟩) (tg_preV hw hK hSD hA (ci := 10) (q := (RX10, TX10, 49)) rfl h_p0 rfl) rfl rfl hl.1 rfl (lv_room (Nat.le_of_ble_eq_true rfl)) dX10_isOne_40 ⟨Nat.le_of_ble_eq_true rfl, Nat.le_of_ble_eq_true rfl⟩) hw hA ⟨by decide, by decide⟩ (fun v_6 ws H locs hp_v_6 hw hF9 => ?_)
        have n_k_5 := FLD.over hF9 n_k_5 (by decide)
        have r_v_6 : RI v_6 0 0 := hp_v_6.1
        refine lv_if_eq (tgt := 50) hx hb dX10_isOne_43 (by decide) (fun c_43 => ?_) (fun c_43 => ?_)
        · refine lv_iconst (v := 0) hx hb dX10_isOne_50 (by decide) ?_
          subst hQ
          exact W.zret (v := 0) hx hb hr (rfl) (fun t ht hW => ⟨⟨0, ws, rfl, ⟨⟨rl_0.to (by decide), (fun h0 => trivial), (fun h0 => absurd rfl h0)⟩, hw.1, hw.2.2.2.2.1⟩, by rw [ht]; exact hw.2.1, va_K.moved hW.alike hK, hw.2.2.1⟩, hw.2.2.2.1.F ht⟩) hw.2.2.2.1.2.2 dX10_isOne_51
        · exact absurd (r_v_6.eq.trans rl_0.eq.symm) ((ti_ne c_43))
    · have r_v_4 : RI v_4 0 3 := by unfold RI at r_v_4 ⊢; omega
      have x_FD_vu_2_p1_p2_vu_3 := (hp_v_4.2.2.2.2.2 (by omega)).1
      have x_POS_p2 := (hp_v_4.2.2.2.2.2 (by omega)).2.1
      have r_p2 : RI p2 1 4 := ⟨x_POS_p2, r_p2.2⟩
      refine tg_put (ci := 10) (ts := ty_MODEL) (v := .int v_4) (ty := .int) (C := RX10) (T := TX10) (N := 49) hx hb hts inX10 tyX10 tyX10_ok nmX10 hown hK hw h_p0 rfl rfl 13 (by decide) (hts _ tw_1150) (fun _ h9 => h9) rfl (by decide +kernel) rfl rfl (ft := vI (-2147483648) 2147483647) rfl ⟨_, rfl, (r_v_4.to (by decide))⟩ (by decide) dX10_isOne_27 (fun ws H locs hw n_k_7 hF9 => ?_)
      refine lv_aload_n hx hb dX10_isOne_30 rfl (lv_at hl 0 rfl) ?_
      refine tg_mem (ci := 10) (C := RX10) (T := TX10) (N := 49) hx hb hts inX10 hown hK hw 13 n_k_7 rfl (by decide) (hts _ tw_1150) (fun _ h9 => h9) dX10_isOne_31 ?_
      refine lv_iconst (v := (-1)) hx hb dX10_isOne_34 (by decide) ?_
      refine lv_icmp_ne (tgt := 46) hx hb dX10_isOne_35 (by decide) (fun c_35 => ?_) (fun c_35 => ?_)
      · refine lv_iconst (v := 1) hx hb dX10_isOne_46 (by decide) ?_
        refine lv_goto (tgt := 51) hx hb dX10_isOne_47 (by decide) ?_
        subst hQ
        exact W.zret (v := 1) hx hb hr (rfl) (fun t ht hW => ⟨⟨1, ws, rfl, ⟨⟨rl_1.to (by decide), (fun _ => trivial), (fun h0 => ⟨r_p2, ⟨_, n_k_7, r_v_4⟩, trivial⟩)⟩, hw.1, hw.2.2.2.2.1⟩, by rw [ht]; exact hw.2.1, va_K.moved hW.alike hK, hw.2.2.1⟩, hw.2.2.2.1.F ht⟩) hw.2.2.2.1.2.2 dX10_isOne_51
      · have r_v_4 : RI v_4 0 (-1) := rc_eq1 r_v_4 rl_m1 (ti_eq c_35) (by decide)
        exact (r_v_4.no (by decide)).elim
  · have r_v_1 : RI v_1 0 0 := rc_eq1 r_v_1 rl_0 (ti_eq c_4) (by decide)
    refine lv_aload_n hx hb dX10_isOne_7 rfl (lv_at hl 0 rfl) ?_
    refine lv_iconst (v := 1) hx hb dX10_isOne_8 (by decide) ?_
    refine tk_i (va_runV (As := [.int 1]) (rest := []) ⟨hx, hb, hml, hown, hts⟩ (c_X10_bad l D cy z H.size Ps w0 hw.1 p0 1 h_p0 (rl_1.to (by decide))) (cwV 1 hts (gV tw_1336 tw_1338 ts_46 tw_15 tw_1339) rfl rfl rfl (by decide +kernel) ⟨Nat.le_of_ble_eq_true rfl, Nat.le_of_ble_eq_true rfl⟩) (tg_preV hw hK hSD hA (ci := 10) (q := (RX10, TX10, 49)) rfl h_p0 rfl) rfl rfl hl.1 rfl (lv_room (Nat.le_of_ble_eq_true rfl)) dX10_isOne_9 ⟨Nat.le_of_ble_eq_true rfl, Nat.le_of_ble_eq_true rfl⟩) hw hA ⟨by decide, by decide⟩ (fun v_8 ws H locs hp_v_8 hw hF9 => ?_)
    have r_v_8 : RI v_8 0 0 := hp_v_8.1
    subst hQ
    exact W.zret (v := v_8) hx hb hr (tq_nz (r_v_8.to (by decide))) (fun t ht hW => ⟨⟨v_8, ws, rfl, ⟨⟨r_v_8.to (by decide), (fun h0 => trivial), (fun h0 => absurd (Int32.toInt_inj.mp (by have h8 := r_v_8; unfold RI at h8; rw [Int32.toInt_zero]; omega)) h0)⟩, hw.1, hw.2.2.2.2.1⟩, by rw [ht]; exact hw.2.1, va_K.moved hW.alike hK, hw.2.2.1⟩, hw.2.2.2.1.F ht⟩) hw.2.2.2.1.2.2 dX10_isOne_12
abbrev wr_X10_readOne__2 : List (Nat × Nat) := [(10, 5), (10, 6), (10, 7), (10, 8), (10, 9), (10, 10), (10, 11), (10, 12), (10, 13)]
abbrev wa_X10_readOne__2 : List Nat := []
set_option maxHeartbeats 4000000 in
set_option maxRecDepth 100000 in
theorem c_X10_readOne__2 (l : Launch) (D : va_G) (cy : Nat → ClassId) (z : Nat → Nat) (sz : Nat) (Ps : PSI) (w0 : va_W) (hT : HT cy GG Ps w0) (p0 : Nat) (p1 : Int32) (p2 : Int32) (gh : Int) (h_p0 : (p0, 55) ∈ Ps) (r_p1 : RI p1 6 6) (r_p2 : RI p2 0 4) (x_TO_p0_gh : TOP w0 p0 (gh)) : Met l yX10_readOne (Cond.code yX10_readOne cX10_readOne 3 (some .boolean) :: gT) ({ frames := 5, cells := 0, slots := 0, locals := 1000 } : Room) (va_Pc [.ref p0, .int p1, .int p2] (PRE D cy z w0 sz)) (va_Qi (fun (r : Int32) (u : va_W) => (RI r 0 1 ∧ (r = 0 → True) ∧ (¬ r = 0 → RI p2 1 4 ∧ (∃ v9 : Int32, FLD u p0 10 13 (.int v9) ∧ RI v9 0 3) ∧ TKP u p0 (gh) ∧ True)) ∧ HT cy GG Ps u ∧ FR wr_X10_readOne__2 wa_X10_readOne__2 Ps w0 u) (BB D cy (va_A w0 sz) (fun (u : va_W) => u)) (va_A w0 sz)) 0 0 (va_A w0 sz) := by
  refine Met.ofW (cc := cX10_readOne) (maxL := 3) (ret := (some .boolean)) (by decide) rfl ?_
  intro p e s m args below meth c s₁ B hml hv
  obtain ⟨rfl, hsz, hP, hK, hD0, hSD⟩ := hv
  have hx := B.exec
  have hb := B.bytes
  have hr := B.returns
  have hlocks := B.notSynchronized
  have hts : ∀ w ∈ gT, w.before _ s = true := fun w h => atoms_spec (ws := Cond.code yX10_readOne cX10_readOne 3 (some .boolean) :: gT) B.pre w (List.mem_cons_of_mem _ h)
  have hown : s.vm.findClass RX10 = some m.cls := findClass_of_methodNamed B.named
  subst hsz
  have hD := hD0.self (sz := s.heap.size)
  generalize hAe : va_A w0 s.heap.size = A at hD hSD ⊢
  have hA : ∀ q : Nat, s.heap.size ≤ q → A q := fun q h => by rw [← hAe]; exact Or.inr h
  have hl := lv_entry ([.ref p0, .int p1, .int p2]) (n := 3) (Nat.le_of_ble_eq_true rfl)
  rw [lg_entry_eq]
  generalize (lg_sl ([.ref p0, .int p1, .int p2]) ++ List.replicate (3 - (lg_sl ([.ref p0, .int p1, .int p2])).length) Slot.unset).toArray = ls at hl ⊢
  have hl : lv_has ls 3 [(0, .ref p0), (1, .int p1), (2, .int p2)] := hl
  refine nameQ (fun Q hQ => ?_)
  have hw : WD D cy GG A s wr_X10_readOne__2 wa_X10_readOne__2 Ps w0 Ps w0 s.heap [] := ⟨hT, hP, hD, va_S.rf, FR.rf, hT.1, [], (List.append_nil _).symm⟩
  refine lv_aload_n hx hb dX10_readOne_0 rfl (lv_at hl 0 rfl) ?_
  refine lv_iload_n hx hb dX10_readOne_1 rfl (lv_at hl 1 rfl) ?_
  refine lv_iload_n hx hb dX10_readOne_2 rfl (lv_at hl 2 rfl) ?_
  refine tk_i (va_runV (As := [.int p1, .int p2]) (rest := []) ⟨hx, hb, hml, hown, hts⟩ (c_X10_isOne__3 l D cy z s.heap.size Ps w0 hw.1 p0 p1 p2 h_p0 r_p1 r_p2) (cwV 2 hts (gV tw_1378 tw_1380 ts_55 tw_15 tw_1381) rfl rfl rfl (by decide +kernel) ⟨Nat.le_of_ble_eq_true rfl, Nat.le_of_ble_eq_true rfl⟩) (tg_preV hw hK hSD hA (ci := 10) (q := (RX10, TX10, 49)) rfl h_p0 rfl) rfl rfl hl.1 rfl (lv_room (Nat.le_of_ble_eq_true rfl)) dX10_readOne_3 ⟨Nat.le_of_ble_eq_true rfl, Nat.le_of_ble_eq_true rfl⟩) hw hA ⟨by decide, by decide⟩ (fun v_1 ws H locs hp_v_1 hw hF9 => ?_)
  have x_TO_p0_gh := TOP.over hF9 x_TO_p0_gh (by decide)
  have r_v_1 : RI v_1 0 1 := hp_v_1.1
  by_cases c9_v_1 : v_1 = 0
  · have r_v_1 : RI v_1 0 0 := by rw [c9_v_1]; exact rl_0
    refine lv_if_ne (tgt := 11) hx hb dX10_readOne_6 (by decide) (fun c_6 => ?_) (fun c_6 => ?_)
    · exact absurd (r_v_1.eq.trans rl_0.eq.symm) ((ti_ne c_6))
    · refine lv_iconst (v := 0) hx hb dX10_readOne_9 (by decide) ?_
      subst hQ
      exact W.zret (v := 0) hx hb hr (rfl) (fun t ht hW => ⟨⟨0, ws, rfl, ⟨⟨rl_0.to (by decide), (fun h0 => trivial), (fun h0 => absurd rfl h0)⟩, hw.1, hw.2.2.2.2.1⟩, by rw [ht]; exact hw.2.1, va_K.moved hW.alike hK, hw.2.2.1⟩, hw.2.2.2.1.F ht⟩) hw.2.2.2.1.2.2 dX10_readOne_10
  · have r_v_1 : RI v_1 1 1 := rc_neL r_v_1 rl_0 (ti_ne c9_v_1) (by decide)
    have r_p2 : RI p2 1 4 := ((hp_v_1.2.2 c9_v_1).1)
    obtain ⟨v_2, m_v_2, r_v_2⟩ := ((hp_v_1.2.2 c9_v_1).2.1)
    refine lv_if_ne (tgt := 11) hx hb dX10_readOne_6 (by decide) (fun c_6 => ?_) (fun c_6 => ?_)
    · refine lv_aload_n hx hb dX10_readOne_11 rfl (lv_at hl 0 rfl) ?_
      refine tk_v (va_runV (As := []) (rest := []) ⟨hx, hb, hml, hown, hts⟩ (c_X10_go__1 l D cy z H.size Ps ws hw.1 p0 (gh) h_p0 x_TO_p0_gh) (cwV 0 hts (gV tw_1298 tw_1300 ts_40 tw_15 tw_1301) rfl rfl rfl (by decide +kernel) ⟨Nat.le_of_ble_eq_true rfl, Nat.le_of_ble_eq_true rfl⟩) (tg_preV hw hK hSD hA (ci := 10) (q := (RX10, TX10, 49)) rfl h_p0 rfl) rfl rfl hl.1 rfl (lv_room (Nat.le_of_ble_eq_true rfl)) dX10_readOne_12 ⟨Nat.le_of_ble_eq_true rfl, Nat.le_of_ble_eq_true rfl⟩) hw hA ⟨by decide, by decide⟩ (fun ws H locs hp_v_3 hw hF9 => ?_)
      have m_v_2 := FLD.over hF9 m_v_2 (by decide)
      have x_TOK_p0_gh := (hp_v_3.1)
      refine lv_iconst (v := 1) hx hb dX10_readOne_15 (by decide) ?_
      subst hQ
      exact W.zret (v := 1) hx hb hr (rfl) (fun t ht hW => ⟨⟨1, ws, rfl, ⟨⟨rl_1.to (by decide), (fun _ => trivial), (fun h0 => ⟨r_p2, ⟨_, m_v_2, r_v_2⟩, x_TOK_p0_gh, trivial⟩)⟩, hw.1, hw.2.2.2.2.1⟩, by rw [ht]; exact hw.2.1, va_K.moved hW.alike hK, hw.2.2.1⟩, hw.2.2.2.1.F ht⟩) hw.2.2.2.1.2.2 dX10_readOne_16
    · have r_v_1 : RI v_1 1 0 := rc_eq1 r_v_1 rl_0 (ti_eq c_6) (by decide)
      exact (r_v_1.no (by decide)).elim
abbrev wr_X10_put__12 : List (Nat × Nat) := []
abbrev wa_X10_put__12 : List Nat := []
set_option maxHeartbeats 4000000 in
set_option maxRecDepth 100000 in
theorem c_X10_put__12 (l : Launch) (D : va_G) (cy : Nat → ClassId) (z : Nat → Nat) (sz : Nat) (Ps : PSI) (w0 : va_W) (hT : HT cy GG Ps w0) (p0 : Nat) (p1 : Int32) (p2 : Int32) (F : (Nat → Int32) → Prop) (F2 : (Nat → Int32) → Prop) (h_p0 : (p0, 55) ∈ Ps) (r_p1 : RI p1 18 23) (r_p2 : RI p2 0 0) (x_F : AX 15 35 F Ps w0 p0) (hF : ∀ (f : Nat → Int32) (v : Int32), RI v (-2147483648) 2147483647 → F f → F2 (upd f (Int32.toNatClampNeg p1) v)) : Met l yX10_put (Cond.code yX10_put cX10_put 3 (some .boolean) :: gT) ({ frames := 0, cells := 0, slots := 0, locals := 200 } : Room) (va_Pc [.ref p0, .int p1, .int p2] (PRE D cy z w0 sz)) (va_Qi (fun (r : Int32) (u : Unit) => RI r 0 0 ∧ (r = 0 → AX 15 35 F Ps w0 p0 ∧ True) ∧ (¬ r = 0 → AX 15 35 F2 Ps w0 p0 ∧ True)) (BB D cy (va_A w0 sz) (fun (u : Unit) => w0)) (va_A w0 sz)) 0 0 (va_A w0 sz) := by
  refine Met.ofW (cc := cX10_put) (maxL := 3) (ret := (some .boolean)) (by decide) rfl ?_
  intro p e s m args below meth c s₁ B hml hv
  obtain ⟨rfl, hsz, hP, hK, hD0, hSD⟩ := hv
  have hx := B.exec
  have hb := B.bytes
  have hr := B.returns
  have hlocks := B.notSynchronized
  have hts : ∀ w ∈ gT, w.before _ s = true := fun w h => atoms_spec (ws := Cond.code yX10_put cX10_put 3 (some .boolean) :: gT) B.pre w (List.mem_cons_of_mem _ h)
  have hown : s.vm.findClass RX10 = some m.cls := findClass_of_methodNamed B.named
  subst hsz
  have hD := hD0.self (sz := s.heap.size)
  generalize hAe : va_A w0 s.heap.size = A at hD hSD ⊢
  have hA : ∀ q : Nat, s.heap.size ≤ q → A q := fun q h => by rw [← hAe]; exact Or.inr h
  have hl := lv_entry ([.ref p0, .int p1, .int p2]) (n := 3) (Nat.le_of_ble_eq_true rfl)
  rw [lg_entry_eq]
  generalize (lg_sl ([.ref p0, .int p1, .int p2]) ++ List.replicate (3 - (lg_sl ([.ref p0, .int p1, .int p2])).length) Slot.unset).toArray = ls at hl ⊢
  have hl : lv_has ls 3 [(0, .ref p0), (1, .int p1), (2, .int p2)] := hl
  refine nameQ (fun Q hQ => ?_)
  have hw : WD D cy GG A s wr_X10_put__12 wa_X10_put__12 Ps w0 Ps w0 s.heap [] := ⟨hT, hP, hD, va_S.rf, FR.rf, hT.1, [], (List.append_nil _).symm⟩
  refine lv_iload_n hx hb dX10_put_0 rfl (lv_at hl 2 rfl) ?_
  refine lv_if_eq (tgt := 14) hx hb dX10_put_1 (by decide) (fun c_1 => ?_) (fun c_1 => ?_)
  · refine lv_iload_n hx hb dX10_put_14 rfl (lv_at hl 2 rfl) ?_
    subst hQ
    exact W.zret (v := p2) hx hb hr (tq_nz (r_p2.to (by decide))) (fun t ht hW => ⟨⟨p2, (), rfl, ⟨r_p2.to (by decide), (fun h0 => ⟨x_F, trivial⟩), (fun h0 => absurd (Int32.toInt_inj.mp (by have h8 := r_p2; unfold RI at h8; rw [Int32.toInt_zero]; omega)) h0)⟩, by rw [ht]; exact hw.2.1, va_K.moved hW.alike hK, hw.2.2.1⟩, hw.2.2.2.1.F ht⟩) hw.2.2.2.1.2.2 dX10_put_15
  · exact absurd (r_p2.eq.trans rl_0.eq.symm) ((ti_ne c_1))
abbrev wr_X10_put__13 : List (Nat × Nat) := []
abbrev wa_X10_put__13 : List Nat := [35]
set_option maxHeartbeats 4000000 in
set_option maxRecDepth 100000 in
theorem c_X10_put__13 (l : Launch) (D : va_G) (cy : Nat → ClassId) (z : Nat → Nat) (sz : Nat) (Ps : PSI) (w0 : va_W) (hT : HT cy GG Ps w0) (p0 : Nat) (p1 : Int32) (p2 : Int32) (f0_13 : Int32) (F : (Nat → Int32) → Prop) (F2 : (Nat → Int32) → Prop) (h_p0 : (p0, 55) ∈ Ps) (r_p1 : RI p1 18 23) (r_p2 : RI p2 1 1) (r_f0_13 : RI f0_13 0 3) (m_f0_13 : FLD w0 p0 10 13 (.int f0_13)) (x_F : AX 15 35 F Ps w0 p0) (hF : ∀ (f : Nat → Int32) (v : Int32), RI v 0 3 → F f → F2 (upd f (Int32.toNatClampNeg p1) v)) : Met l yX10_put (Cond.code yX10_put cX10_put 3 (some .boolean) :: gT) ({ frames := 0, cells := 0, slots := 0, locals := 200 } : Room) (va_Pc [.ref p0, .int p1, .int p2] (PRE D cy z w0 sz)) (va_Qi (fun (r : Int32) (u : va_W) => (RI r 1 1 ∧ (r = 0 → AX 15 35 F Ps u p0 ∧ True) ∧ (¬ r = 0 → (∃ v9 : Int32, FLD u p0 10 13 (.int v9) ∧ RI v9 0 3) ∧ AX 15 35 F2 Ps u p0 ∧ True)) ∧ HT cy GG Ps u ∧ FR wr_X10_put__13 wa_X10_put__13 Ps w0 u) (BB D cy (va_A w0 sz) (fun (u : va_W) => u)) (va_A w0 sz)) 0 0 (va_A w0 sz) := by
  refine Met.ofW (cc := cX10_put) (maxL := 3) (ret := (some .boolean)) (by decide) rfl ?_
  intro p e s m args below meth c s₁ B hml hv
  obtain ⟨rfl, hsz, hP, hK, hD0, hSD⟩ := hv
  have hx := B.exec
  have hb := B.bytes
  have hr := B.returns
  have hlocks := B.notSynchronized
  have hts : ∀ w ∈ gT, w.before _ s = true := fun w h => atoms_spec (ws := Cond.code yX10_put cX10_put 3 (some .boolean) :: gT) B.pre w (List.mem_cons_of_mem _ h)
  have hown : s.vm.findClass RX10 = some m.cls := findClass_of_methodNamed B.named
  subst hsz
  have hD := hD0.self (sz := s.heap.size)
  generalize hAe : va_A w0 s.heap.size = A at hD hSD ⊢
  have hA : ∀ q : Nat, s.heap.size ≤ q → A q := fun q h => by rw [← hAe]; exact Or.inr h
  have hl := lv_entry ([.ref p0, .int p1, .int p2]) (n := 3) (Nat.le_of_ble_eq_true rfl)
  rw [lg_entry_eq]
  generalize (lg_sl ([.ref p0, .int p1, .int p2]) ++ List.replicate (3 - (lg_sl ([.ref p0, .int p1, .int p2])).length) Slot.unset).toArray = ls at hl ⊢
  have hl : lv_has ls 3 [(0, .ref p0), (1, .int p1), (2, .int p2)] := hl
  refine nameQ (fun Q hQ => ?_)
  have hw : WD D cy GG A s wr_X10_put__13 wa_X10_put__13 Ps w0 Ps w0 s.heap [] := ⟨hT, hP, hD, va_S.rf, FR.rf, hT.1, [], (List.append_nil _).symm⟩
  refine lv_iload_n hx hb dX10_put_0 rfl (lv_at hl 2 rfl) ?_
  refine lv_if_eq (tgt := 14) hx hb dX10_put_1 (by decide) (fun c_1 => ?_) (fun c_1 => ?_)
  · have r_p2 : RI p2 1 0 := rc_eq1 r_p2 rl_0 (ti_eq c_1) (by decide)
    exact (r_p2.no (by decide)).elim
  · refine lv_aload_n hx hb dX10_put_4 rfl (lv_at hl 0 rfl) ?_
    refine tg_get (ci := 10) (ts := ty_MODEL) (C := RX10) (T := TX10) (N := 49) hx hb hts inX10 hown hK hw h_p0 rfl rfl 15 (by decide) (hts _ tw_1152) (fun _ h9 => h9) (ft := vR 35) rfl dX10_put_5 (fun u_1 hv_u_1 m_u_1 => ?_)
    obtain ⟨vu_1, rfl, h_vu_1⟩ := hv_u_1
    refine lv_iload_n hx hb dX10_put_8 rfl (lv_at hl 1 rfl) ?_
    refine lv_aload_n hx hb dX10_put_9 rfl (lv_at hl 0 rfl) ?_
    refine tg_mem (ci := 10) (C := RX10) (T := TX10) (N := 49) hx hb hts inX10 hown hK hw 13 m_f0_13 rfl (by decide) (hts _ tw_1150) (fun _ h9 => h9) dX10_put_10 ?_
    refine tg_iast hx hb hK hw h_vu_1 rfl 18 23 r_p1 (by decide) r_f0_13 (by decide +kernel) (fun _ _ _ _ _ => trivial) (by decide) dX10_put_13 (fun ws H locs hw hF9 hU9 => ?_)
    have x_GFRB_p0 : AX 15 35 F2 Ps ws p0 := AX.ast hF9 hU9 x_F m_u_1 (fun f9 h9 => hF f9 _ r_f0_13 h9)
    have m_f0_13 := FLD.over hF9 m_f0_13 (by decide)
    refine lv_iload_n hx hb dX10_put_14 rfl (lv_at hl 2 rfl) ?_
    subst hQ
    exact W.zret (v := p2) hx hb hr (tq_nz (r_p2.to (by decide))) (fun t ht hW => ⟨⟨p2, ws, rfl, ⟨⟨r_p2.to (by decide), (fun h0 => absurd (ti_eq h0) (by have h8 := r_p2; unfold RI at h8; rw [Int32.toInt_zero]; omega)), (fun h0 => ⟨⟨_, m_f0_13, r_f0_13⟩, x_GFRB_p0, trivial⟩)⟩, hw.1, hw.2.2.2.2.1⟩, by rw [ht]; exact hw.2.1, va_K.moved hW.alike hK, hw.2.2.1⟩, hw.2.2.2.1.F ht⟩) hw.2.2.2.1.2.2 dX10_put_15
abbrev wr_X10_readParcel : List (Nat × Nat) := [(10, 5), (10, 6), (10, 7), (10, 8), (10, 9), (10, 10), (10, 11), (10, 12), (10, 13)]
abbrev wa_X10_readParcel : List Nat := [35, 42]
set_option maxHeartbeats 4000000 in
set_option maxRecDepth 100000 in
theorem c_X10_readParcel (l : Launch) (D : va_G) (cy : Nat → ClassId) (z : Nat → Nat) (sz : Nat) (Ps : PSI) (w0 : va_W) (hT : HT cy GG Ps w0) (p0 : Nat) (gh : Int) (h_p0 : (p0, 55) ∈ Ps) (x_TO_p0_gh : TOP w0 p0 (gh)) (x_RH_p0 : AX 15 35 (fun f => RH2p f) Ps w0 p0) : Met l yX10_readParcel (Cond.code yX10_readParcel cX10_readParcel 2 (some .boolean) :: gT) ({ frames := 6, cells := 0, slots := 0, locals := 1200 } : Room) (va_Pc [.ref p0] (PRE D cy z w0 sz)) (va_Qi (fun (r : Int32) (u : va_W) => (RI r 0 1 ∧ (r = 0 → True) ∧ (¬ r = 0 → (∃ v9 : Int32, FLD u p0 10 13 (.int v9) ∧ RI v9 0 3) ∧ TKP u p0 (gh) ∧ AX 15 35 (fun f => RH2p f) Ps u p0 ∧ True)) ∧ HT cy GG Ps u ∧ FR wr_X10_readParcel wa_X10_readParcel Ps w0 u) (BB D cy (va_A w0 sz) (fun (u : va_W) => u)) (va_A w0 sz)) 0 0 (va_A w0 sz) := by
  refine Met.ofW (cc := cX10_readParcel) (maxL := 2) (ret := (some .boolean)) (by decide) rfl ?_
  intro p e s m args below meth c s₁ B hml hv
  obtain ⟨rfl, hsz, hP, hK, hD0, hSD⟩ := hv
  have hx := B.exec
  have hb := B.bytes
  have hr := B.returns
  have hlocks := B.notSynchronized
  have hts : ∀ w ∈ gT, w.before _ s = true := fun w h => atoms_spec (ws := Cond.code yX10_readParcel cX10_readParcel 2 (some .boolean) :: gT) B.pre w (List.mem_cons_of_mem _ h)
  have hown : s.vm.findClass RX10 = some m.cls := findClass_of_methodNamed B.named
  subst hsz
  have hD := hD0.self (sz := s.heap.size)
  generalize hAe : va_A w0 s.heap.size = A at hD hSD ⊢
  have hA : ∀ q : Nat, s.heap.size ≤ q → A q := fun q h => by rw [← hAe]; exact Or.inr h
  have hl := lv_entry ([.ref p0]) (n := 2) (Nat.le_of_ble_eq_true rfl)
  rw [lg_entry_eq]
  generalize (lg_sl ([.ref p0]) ++ List.replicate (2 - (lg_sl ([.ref p0])).length) Slot.unset).toArray = ls at hl ⊢
  have hl : lv_has ls 2 [(0, .ref p0)] := hl
  refine nameQ (fun Q hQ => ?_)
  have hw : WD D cy GG A s wr_X10_readParcel wa_X10_readParcel Ps w0 Ps w0 s.heap [] := ⟨hT, hP, hD, va_S.rf, FR.rf, hT.1, [], (List.append_nil _).symm⟩
  refine lv_aload_n hx hb dX10_readParcel_0 rfl (lv_at hl 0 rfl) ?_
  refine lv_iconst (v := 2) hx hb dX10_readParcel_1 (by decide) ?_
  refine lv_bipush (v := 6) hx hb dX10_readParcel_2 (by decide) ?_
  refine tk_i (va_runV (As := [.int 2, .int 6]) (rest := []) ⟨hx, hb, hml, hown, hts⟩ (c_X10_readFirst__1 l D cy z s.heap.size Ps w0 hw.1 p0 2 6 (gh) h_p0 rl_2 rl_6 x_TO_p0_gh) (cwV 2 hts (gV tw_1332 tw_1334 ts_45 tw_15 tw_1335) rfl rfl rfl (by decide +kernel) ⟨Nat.le_of_ble_eq_true rfl, Nat.le_of_ble_eq_true rfl⟩) (tg_preV hw hK hSD hA (ci := 10) (q := (RX10, TX10, 49)) rfl h_p0 rfl) rfl rfl hl.1 rfl (lv_room (Nat.le_of_ble_eq_true rfl)) dX10_readParcel_4 ⟨Nat.le_of_ble_eq_true rfl, Nat.le_of_ble_eq_true rfl⟩) hw hA ⟨by decide, by decide⟩ (fun v_1 ws H locs hp_v_1 hw hF9 => ?_)
  have x_RH_p0 := AX.over hF9 x_RH_p0 (by decide)
  have r_v_1 : RI v_1 0 1 := hp_v_1.1
  by_cases c9_v_1 : v_1 = 0
  · have r_v_1 : RI v_1 0 0 := by rw [c9_v_1]; exact rl_0
    refine lv_if_ne (tgt := 12) hx hb dX10_readParcel_7 (by decide) (fun c_7 => ?_) (fun c_7 => ?_)
    · exact absurd (r_v_1.eq.trans rl_0.eq.symm) ((ti_ne c_7))
    · refine lv_iconst (v := 0) hx hb dX10_readParcel_10 (by decide) ?_
      subst hQ
      exact W.zret (v := 0) hx hb hr (rfl) (fun t ht hW => ⟨⟨0, ws, rfl, ⟨⟨rl_0.to (by decide), (fun h0 => trivial), (fun h0 => absurd rfl h0)⟩, hw.1, hw.2.2.2.2.1⟩, by rw [ht]; exact hw.2.1, va_K.moved hW.alike hK, hw.2.2.1⟩, hw.2.2.2.1.F ht⟩) hw.2.2.2.1.2.2 dX10_readParcel_11
  · have r_v_1 : RI v_1 1 1 := rc_neL r_v_1 rl_0 (ti_ne c9_v_1) (by decide)
    have x_TOK_p0_gh := ((hp_v_1.2.2 c9_v_1).1)
    have x_RLT_p0_2_6 := ((hp_v_1.2.2 c9_v_1).2.1)
    refine lv_if_ne (tgt := 12) hx hb dX10_readParcel_7 (by decide) (fun c_7 => ?_) (fun c_7 => ?_)
    · refine lv_aload_n hx hb dX10_readParcel_12 rfl (lv_at hl 0 rfl) ?_
      refine tg_get (ci := 10) (ts := ty_MODEL) (C := RX10) (T := TX10) (N := 49) hx hb hts inX10 hown hK hw h_p0 rfl rfl 15 (by decide) (hts _ tw_1152) (fun _ h9 => h9) (ft := vR 35) rfl dX10_readParcel_13 (fun u_2 hv_u_2 m_u_2 => ?_)
      obtain ⟨vu_2, rfl, h_vu_2⟩ := hv_u_2
      refine lv_iconst (v := 2) hx hb dX10_readParcel_16 (by decide) ?_
      refine tg_iald (lo := 0) (hi := 6) hx hb hK hw h_vu_2 rfl 2 2 rl_2 (by decide) (by decide +kernel) dX10_readParcel_17 (fun v_3 r_v_3 m_v_3 o_v_3 => ?_)
      have r_v_3 : RI v_3 0 5 := by obtain ⟨f9, h9, q9, g9⟩ := AX.use hw x_RLT_p0_2_6 h_vu_2 rfl m_u_2; have e9 := g9 _ _ m_v_3; have j9 : Int32.toNatClampNeg 2 = 2 := (by decide); rw [j9] at e9; have h8 : (f9 2).toInt < 6 := h9; rw [e9] at h8; exact ⟨r_v_3.1, by omega⟩
      refine lv_istore_n (lv' := [(1, .int v_3), (0, .ref p0)]) hx hb dX10_readParcel_18 rfl hl (by decide) rfl (fun ls hl => ?_)
      refine lv_aload_n hx hb dX10_readParcel_19 rfl (lv_at hl 1 rfl) ?_
      refine lv_bipush (v := 10) hx hb dX10_readParcel_20 (by decide) ?_
      refine lv_iload_n hx hb dX10_readParcel_22 rfl (lv_at hl 0 rfl) ?_
      refine lv_iadd hx hb dX10_readParcel_23 (lv_topi (fun v_4 e_v_4 => ?_))
      obtain ⟨t_v_4, r_v_4⟩ := tq_add (lo := 10) (hi := 15) rl_10 r_v_3 (by decide +kernel) e_v_4
      have t_v_4 : v_4.toInt = 10 + v_3.toInt := t_v_4
      have x_TO_p0_gh : TOP ws p0 (gh) := TKP.top x_TOK_p0_gh
      have hw8 := hw
      refine tk_i (va_runV (As := [.int v_4]) (rest := []) ⟨hx, hb, hml, hown, hts⟩ (c_X10_readNew__1 l D cy z H.size Ps ws hw.1 p0 v_4 (gh) h_p0 r_v_4 x_TO_p0_gh) (cwV 1 hts (gV tw_1340 tw_1342 ts_47 tw_15 tw_1343) rfl rfl rfl (by decide +kernel) ⟨Nat.le_of_ble_eq_true rfl, Nat.le_of_ble_eq_true rfl⟩) (tg_preV hw hK hSD hA (ci := 10) (q := (RX10, TX10, 49)) rfl h_p0 rfl) rfl rfl hl.1 rfl (lv_room (Nat.le_of_ble_eq_true rfl)) dX10_readParcel_24 ⟨Nat.le_of_ble_eq_true rfl, Nat.le_of_ble_eq_true rfl⟩) hw hA ⟨by decide, by decide⟩ (fun v_5 ws H locs hp_v_5 hw hF9 => ?_)
      have m_v_3 := AEL.over hw8 hF9 h_vu_2 m_v_3 (by decide)
      have m_u_2 := FLD.over hF9 m_u_2 (by decide)
      have x_RH_p0 := AX.over hF9 x_RH_p0 (by decide)
      have x_RLT_p0_2_6 := AX.over hF9 x_RLT_p0_2_6 (by decide)
      have r_v_5 : RI v_5 0 1 := hp_v_5.1
      by_cases c9_v_5 : v_5 = 0
      · have r_v_5 : RI v_5 0 0 := by rw [c9_v_5]; exact rl_0
        refine lv_if_eq (tgt := 53) hx hb dX10_readParcel_27 (by decide) (fun c_27 => ?_) (fun c_27 => ?_)
        · refine lv_iconst (v := 0) hx hb dX10_readParcel_53 (by decide) ?_
          subst hQ
          exact W.zret (v := 0) hx hb hr (rfl) (fun t ht hW => ⟨⟨0, ws, rfl, ⟨⟨rl_0.to (by decide), (fun h0 => trivial), (fun h0 => absurd rfl h0)⟩, hw.1, hw.2.2.2.2.1⟩, by rw [ht]; exact hw.2.1, va_K.moved hW.alike hK, hw.2.2.1⟩, hw.2.2.2.1.F ht⟩) hw.2.2.2.1.2.2 dX10_readParcel_54
        · exact absurd (r_v_5.eq.trans rl_0.eq.symm) ((ti_ne c_27))
      · have r_v_5 : RI v_5 1 1 := rc_neL r_v_5 rl_0 (ti_ne c9_v_5) (by decide)
        have x_TOK_p0_gh := ((hp_v_5.2.2 c9_v_5).1)
        refine lv_if_eq (tgt := 53) hx hb dX10_readParcel_27 (by decide) (fun c_27 => ?_) (fun c_27 => ?_)
        · have r_v_5 : RI v_5 1 0 := rc_eq1 r_v_5 rl_0 (ti_eq c_27) (by decide)
          exact (r_v_5.no (by decide)).elim
        · refine lv_aload_n hx hb dX10_readParcel_30 rfl (lv_at hl 1 rfl) ?_
          refine lv_bipush (v := 18) hx hb dX10_readParcel_31 (by decide) ?_
          refine lv_iload_n hx hb dX10_readParcel_33 rfl (lv_at hl 0 rfl) ?_
          refine lv_iadd hx hb dX10_readParcel_34 (lv_topi (fun v_6 e_v_6 => ?_))
          obtain ⟨t_v_6, r_v_6⟩ := tq_add (lo := 18) (hi := 23) rl_18 r_v_3 (by decide +kernel) e_v_6
          have t_v_6 : v_6.toInt = 18 + v_3.toInt := t_v_6
          refine lv_aload_n hx hb dX10_readParcel_35 rfl (lv_at hl 1 rfl) ?_
          refine lv_bipush (v := 6) hx hb dX10_readParcel_36 (by decide) ?_
          refine lv_aload_n hx hb dX10_readParcel_38 rfl (lv_at hl 1 rfl) ?_
          refine tg_mem (ci := 10) (C := RX10) (T := TX10) (N := 49) hx hb hts inX10 hown hK hw 15 m_u_2 rfl (by decide) (hts _ tw_1152) (fun _ h9 => h9) dX10_readParcel_39 ?_
          refine lv_iconst (v := 1) hx hb dX10_readParcel_42 (by decide) ?_
          refine tg_iald (lo := 0) (hi := 4) hx hb hK hw h_vu_2 rfl 1 1 rl_1 (by decide) (by decide +kernel) dX10_readParcel_43 (fun v_7 r_v_7 m_v_7 o_v_7 => ?_)
          have x_TO_p0_gh : TOP ws p0 (gh) := TKP.top x_TOK_p0_gh
          have hw8 := hw
          refine tk_i (va_runV (As := [.int 6, .int v_7]) (rest := [.int v_6, .ref p0]) ⟨hx, hb, hml, hown, hts⟩ (c_X10_readOne__2 l D cy z H.size Ps ws hw.1 p0 6 v_7 (gh) h_p0 rl_6 r_v_7 x_TO_p0_gh) (cwV 2 hts (gV tw_1374 tw_1376 ts_54 tw_15 tw_1377) rfl rfl rfl (by decide +kernel) ⟨Nat.le_of_ble_eq_true rfl, Nat.le_of_ble_eq_true rfl⟩) (tg_preV hw hK hSD hA (ci := 10) (q := (RX10, TX10, 49)) rfl h_p0 rfl) rfl rfl hl.1 rfl (lv_room (Nat.le_of_ble_eq_true rfl)) dX10_readParcel_44 ⟨Nat.le_of_ble_eq_true rfl, Nat.le_of_ble_eq_true rfl⟩) hw hA ⟨by decide, by decide⟩ (fun v_8 ws H locs hp_v_8 hw hF9 => ?_)
          have m_v_3 := AEL.over hw8 hF9 h_vu_2 m_v_3 (by decide)
          have m_v_7 := AEL.over hw8 hF9 h_vu_2 m_v_7 (by decide)
          have m_u_2 := FLD.over hF9 m_u_2 (by decide)
          have x_RH_p0 := AX.over hF9 x_RH_p0 (by decide)
          have x_RLT_p0_2_6 := AX.over hF9 x_RLT_p0_2_6 (by decide)
          have r_v_8 : RI v_8 0 1 := hp_v_8.1
          by_cases c9_v_8 : v_8 = 0
          · have r_v_8 : RI v_8 0 0 := by rw [c9_v_8]; exact rl_0
            refine tk_ir (va_runV (As := [.int v_6, .int v_8]) (rest := []) ⟨hx, hb, hml, hown, hts⟩ (c_X10_put__12 l D cy z H.size Ps ws hw.1 p0 v_6 v_8 (fun f => RH2p f ∧ (f (Int32.toNatClampNeg 2)).toInt < Int32.toInt 6 ∧ True) (fun f => RH2p f ∧ (f (Int32.toNatClampNeg 2)).toInt < Int32.toInt 6 ∧ True) h_p0 r_v_6 r_v_8 (AX.and hw x_RH_p0 (AX.and hw x_RLT_p0_2_6 (rx_true hw h_p0))) (fun f9 v9 hv9 H9 => ⟨(have h9 := H9.1; RH_keep h9 (by have k4 := r_v_6.cl (by decide); have k5 := r_v_6; unfold RI at k5; omega)), (have h9 := H9.2.1; by show _ < _; rw [pk_un (by have k4 := r_v_6.cl (by decide); have k5 := r_v_6; unfold RI at k5; have k6 : Int32.toNatClampNeg 2 = 2 := (by decide); omega)]; exact h9), trivial⟩)) (cwV 2 hts (gV tw_1362 tw_1364 ts_51 tw_15 tw_1365) rfl rfl rfl (by decide +kernel) ⟨Nat.le_of_ble_eq_true rfl, Nat.le_of_ble_eq_true rfl⟩) (tg_preV hw hK hSD hA (ci := 10) (q := (RX10, TX10, 49)) rfl h_p0 rfl) rfl rfl hl.1 rfl (lv_room (Nat.le_of_ble_eq_true rfl)) dX10_readParcel_47 ⟨Nat.le_of_ble_eq_true rfl, Nat.le_of_ble_eq_true rfl⟩) hw hA (fun v_9  H locs hp_v_9 hw => ?_)
            have r_v_9 : RI v_9 0 0 := hp_v_9.1
            by_cases c9_v_9 : v_9 = 0
            · have r_v_9 : RI v_9 0 0 := by rw [c9_v_9]; exact rl_0
              have x_RH_p0 : AX 15 35 (fun f => RH2p f) Ps ws p0 := AX.imp ((hp_v_9.2.1 c9_v_9).1) (fun _ h9 => h9.1)
              have x_RLT_p0_2_6 : AX 15 35 (fun f => (f (Int32.toNatClampNeg 2)).toInt < Int32.toInt 6) Ps ws p0 := AX.imp ((hp_v_9.2.1 c9_v_9).1) (fun _ h9 => h9.2.1)
              refine lv_if_ne (tgt := 55) hx hb dX10_readParcel_50 (by decide) (fun c_50 => ?_) (fun c_50 => ?_)
              · exact absurd (r_v_9.eq.trans rl_0.eq.symm) ((ti_ne c_50))
              · refine lv_iconst (v := 0) hx hb dX10_readParcel_53 (by decide) ?_
                subst hQ
                exact W.zret (v := 0) hx hb hr (rfl) (fun t ht hW => ⟨⟨0, ws, rfl, ⟨⟨rl_0.to (by decide), (fun h0 => trivial), (fun h0 => absurd rfl h0)⟩, hw.1, hw.2.2.2.2.1⟩, by rw [ht]; exact hw.2.1, va_K.moved hW.alike hK, hw.2.2.1⟩, hw.2.2.2.1.F ht⟩) hw.2.2.2.1.2.2 dX10_readParcel_54
            · exact absurd (Int32.toInt_inj.mp (by rw [Int32.toInt_zero]; unfold RI at r_v_9; omega)) c9_v_9
          · have r_v_8 : RI v_8 1 1 := rc_neL r_v_8 rl_0 (ti_ne c9_v_8) (by decide)
            have r_v_7 : RI v_7 1 4 := ((hp_v_8.2.2 c9_v_8).1)
            obtain ⟨v_10, m_v_10, r_v_10⟩ := ((hp_v_8.2.2 c9_v_8).2.1)
            have x_TOK_p0_gh := ((hp_v_8.2.2 c9_v_8).2.2.1)
            have hw8 := hw
            refine tk_i (va_runV (As := [.int v_6, .int v_8]) (rest := []) ⟨hx, hb, hml, hown, hts⟩ (c_X10_put__13 l D cy z H.size Ps ws hw.1 p0 v_6 v_8 v_10 (fun f => RH2p f ∧ (f (Int32.toNatClampNeg 2)).toInt < Int32.toInt 6 ∧ True) (fun f => RH2p f ∧ (f (Int32.toNatClampNeg 2)).toInt < Int32.toInt 6 ∧ True) h_p0 r_v_6 r_v_8 r_v_10 m_v_10 (AX.and hw x_RH_p0 (AX.and hw x_RLT_p0_2_6 (rx_true hw h_p0))) (fun f9 v9 hv9 H9 => ⟨(have h9 := H9.1; RH_keep h9 (by have k4 := r_v_6.cl (by decide); have k5 := r_v_6; unfold RI at k5; omega)), (have h9 := H9.2.1; by show _ < _; rw [pk_un (by have k4 := r_v_6.cl (by decide); have k5 := r_v_6; unfold RI at k5; have k6 : Int32.toNatClampNeg 2 = 2 := (by decide); omega)]; exact h9), trivial⟩)) (cwV 2 hts (gV tw_1362 tw_1364 ts_51 tw_15 tw_1365) rfl rfl rfl (by decide +kernel) ⟨Nat.le_of_ble_eq_true rfl, Nat.le_of_ble_eq_true rfl⟩) (tg_preV hw hK hSD hA (ci := 10) (q := (RX10, TX10, 49)) rfl h_p0 rfl) rfl rfl hl.1 rfl (lv_room (Nat.le_of_ble_eq_true rfl)) dX10_readParcel_47 ⟨Nat.le_of_ble_eq_true rfl, Nat.le_of_ble_eq_true rfl⟩) hw hA ⟨by decide, by decide⟩ (fun v_11 ws H locs hp_v_11 hw hF9 => ?_)
            have m_u_2 := FLD.over hF9 m_u_2 (by decide)
            have m_v_10 := FLD.over hF9 m_v_10 (by decide)
            have x_TOK_p0_gh := TKP.over hF9 x_TOK_p0_gh (by decide)
            have r_v_11 : RI v_11 1 1 := hp_v_11.1
            by_cases c9_v_11 : v_11 = 0
            · exact absurd (ti_eq c9_v_11) (by unfold RI at r_v_11; rw [Int32.toInt_zero]; omega)
            · obtain ⟨v_12, m_v_12, r_v_12⟩ := ((hp_v_11.2.2 c9_v_11).1)
              have x_RH_p0 : AX 15 35 (fun f => RH2p f) Ps ws p0 := AX.imp ((hp_v_11.2.2 c9_v_11).2.1) (fun _ h9 => h9.1)
              have x_RLT_p0_2_6 : AX 15 35 (fun f => (f (Int32.toNatClampNeg 2)).toInt < Int32.toInt 6) Ps ws p0 := AX.imp ((hp_v_11.2.2 c9_v_11).2.1) (fun _ h9 => h9.2.1)
              refine lv_if_ne (tgt := 55) hx hb dX10_readParcel_50 (by decide) (fun c_50 => ?_) (fun c_50 => ?_)
              · refine lv_aload_n hx hb dX10_readParcel_55 rfl (lv_at hl 1 rfl) ?_
                refine tg_mem (ci := 10) (C := RX10) (T := TX10) (N := 49) hx hb hts inX10 hown hK hw 15 m_u_2 rfl (by decide) (hts _ tw_1152) (fun _ h9 => h9) dX10_readParcel_56 ?_
                refine lv_iconst (v := 2) hx hb dX10_readParcel_59 (by decide) ?_
                refine lv_dup2_11 hx hb dX10_readParcel_60 rfl rfl ?_
                refine tg_iald (lo := 0) (hi := 6) hx hb hK hw h_vu_2 rfl 2 2 rl_2 (by decide) (by decide +kernel) dX10_readParcel_61 (fun v_13 r_v_13 m_v_13 o_v_13 => ?_)
                have r_v_13 : RI v_13 0 5 := by obtain ⟨f9, h9, q9, g9⟩ := AX.use hw x_RLT_p0_2_6 h_vu_2 rfl m_u_2; have e9 := g9 _ _ m_v_13; have j9 : Int32.toNatClampNeg 2 = 2 := (by decide); rw [j9] at e9; have h8 : (f9 2).toInt < 6 := h9; rw [e9] at h8; exact ⟨r_v_13.1, by omega⟩
                refine lv_iconst (v := 1) hx hb dX10_readParcel_62 (by decide) ?_
                refine lv_iadd hx hb dX10_readParcel_63 (lv_topi (fun v_14 e_v_14 => ?_))
                obtain ⟨t_v_14, r_v_14⟩ := tq_add (lo := 1) (hi := 6) r_v_13 rl_1 (by decide +kernel) e_v_14
                have t_v_14 : v_14.toInt = v_13.toInt + 1 := t_v_14
                have hw8 := hw
                refine tg_iast hx hb hK hw h_vu_2 rfl 2 2 rl_2 (by decide) r_v_14 (by decide +kernel) (fun _ _ _ _ _ => trivial) (by decide) dX10_readParcel_64 (fun ws H locs hw hF9 hU9 => ?_)
                have x_RH_p0 : AX 15 35 (fun f => RH2p f) Ps ws p0 := AX.ast hF9 hU9 x_RH_p0 m_u_2 (fun f9 h9 => RH_keep h9 (by decide))
                have x_TOK_p0_gh := TKP.over hF9 x_TOK_p0_gh (by decide)
                have m_u_2 := FLD.over hF9 m_u_2 (by decide)
                have m_v_12 := FLD.over hF9 m_v_12 (by decide)
                refine lv_iconst (v := 1) hx hb dX10_readParcel_65 (by decide) ?_
                subst hQ
                exact W.zret (v := 1) hx hb hr (rfl) (fun t ht hW => ⟨⟨1, ws, rfl, ⟨⟨rl_1.to (by decide), (fun _ => trivial), (fun h0 => ⟨⟨_, m_v_12, r_v_12⟩, x_TOK_p0_gh, x_RH_p0, trivial⟩)⟩, hw.1, hw.2.2.2.2.1⟩, by rw [ht]; exact hw.2.1, va_K.moved hW.alike hK, hw.2.2.1⟩, hw.2.2.2.1.F ht⟩) hw.2.2.2.1.2.2 dX10_readParcel_66
              · have r_v_11 : RI v_11 1 0 := rc_eq1 r_v_11 rl_0 (ti_eq c_50) (by decide)
                exact (r_v_11.no (by decide)).elim
    · have r_v_1 : RI v_1 1 0 := rc_eq1 r_v_1 rl_0 (ti_eq c_7) (by decide)
      exact (r_v_1.no (by decide)).elim
abbrev wr_X10_readFirst__2 : List (Nat × Nat) := [(10, 5), (10, 6), (10, 7), (10, 8), (10, 9), (10, 10), (10, 11), (10, 12)]
abbrev wa_X10_readFirst__2 : List Nat := []
set_option maxHeartbeats 4000000 in
set_option maxRecDepth 100000 in
theorem c_X10_readFirst__2 (l : Launch) (D : va_G) (cy : Nat → ClassId) (z : Nat → Nat) (sz : Nat) (Ps : PSI) (w0 : va_W) (hT : HT cy GG Ps w0) (p0 : Nat) (p1 : Int32) (p2 : Int32) (gh : Int) (h_p0 : (p0, 55) ∈ Ps) (r_p1 : RI p1 1 1) (r_p2 : RI p2 4 4) (x_TO_p0_gh : TOP w0 p0 (gh)) : Met l yX10_readFirst (Cond.code yX10_readFirst cX10_readFirst 3 (some .boolean) :: gT) ({ frames := 3, cells := 0, slots := 0, locals := 600 } : Room) (va_Pc [.ref p0, .int p1, .int p2] (PRE D cy z w0 sz)) (va_Qi (fun (r : Int32) (u : va_W) => (RI r 0 1 ∧ (r = 0 → True) ∧ (¬ r = 0 → TKP u p0 (gh) ∧ AX 15 35 (fun f => (f (Int32.toNatClampNeg p1)).toInt < Int32.toInt p2) Ps u p0 ∧ True)) ∧ HT cy GG Ps u ∧ FR wr_X10_readFirst__2 wa_X10_readFirst__2 Ps w0 u) (BB D cy (va_A w0 sz) (fun (u : va_W) => u)) (va_A w0 sz)) 0 0 (va_A w0 sz) := by
  refine Met.ofW (cc := cX10_readFirst) (maxL := 3) (ret := (some .boolean)) (by decide) rfl ?_
  intro p e s m args below meth c s₁ B hml hv
  obtain ⟨rfl, hsz, hP, hK, hD0, hSD⟩ := hv
  have hx := B.exec
  have hb := B.bytes
  have hr := B.returns
  have hlocks := B.notSynchronized
  have hts : ∀ w ∈ gT, w.before _ s = true := fun w h => atoms_spec (ws := Cond.code yX10_readFirst cX10_readFirst 3 (some .boolean) :: gT) B.pre w (List.mem_cons_of_mem _ h)
  have hown : s.vm.findClass RX10 = some m.cls := findClass_of_methodNamed B.named
  subst hsz
  have hD := hD0.self (sz := s.heap.size)
  generalize hAe : va_A w0 s.heap.size = A at hD hSD ⊢
  have hA : ∀ q : Nat, s.heap.size ≤ q → A q := fun q h => by rw [← hAe]; exact Or.inr h
  have hl := lv_entry ([.ref p0, .int p1, .int p2]) (n := 3) (Nat.le_of_ble_eq_true rfl)
  rw [lg_entry_eq]
  generalize (lg_sl ([.ref p0, .int p1, .int p2]) ++ List.replicate (3 - (lg_sl ([.ref p0, .int p1, .int p2])).length) Slot.unset).toArray = ls at hl ⊢
  have hl : lv_has ls 3 [(0, .ref p0), (1, .int p1), (2, .int p2)] := hl
  refine nameQ (fun Q hQ => ?_)
  have hw : WD D cy GG A s wr_X10_readFirst__2 wa_X10_readFirst__2 Ps w0 Ps w0 s.heap [] := ⟨hT, hP, hD, va_S.rf, FR.rf, hT.1, [], (List.append_nil _).symm⟩
  refine lv_aload_n hx hb dX10_readFirst_0 rfl (lv_at hl 0 rfl) ?_
  refine tg_get (ci := 10) (ts := ty_MODEL) (C := RX10) (T := TX10) (N := 49) hx hb hts inX10 hown hK hw h_p0 rfl rfl 15 (by decide) (hts _ tw_1152) (fun _ h9 => h9) (ft := vR 35) rfl dX10_readFirst_1 (fun u_1 hv_u_1 m_u_1 => ?_)
  obtain ⟨vu_1, rfl, h_vu_1⟩ := hv_u_1
  refine lv_iload_n hx hb dX10_readFirst_4 rfl (lv_at hl 1 rfl) ?_
  refine tg_iald (lo := 0) (hi := 4) hx hb hK hw h_vu_1 rfl 1 1 r_p1 (by decide) (by decide +kernel) dX10_readFirst_5 (fun v_2 r_v_2 m_v_2 o_v_2 => ?_)
  refine lv_iload_n hx hb dX10_readFirst_6 rfl (lv_at hl 2 rfl) ?_
  refine lv_icmp_ne (tgt := 16) hx hb dX10_readFirst_7 (by decide) (fun c_7 => ?_) (fun c_7 => ?_)
  · have r_v_2 : RI v_2 0 3 := rc_neU r_v_2 r_p2 (ti_ne c_7) (by decide)
    have x_RLT_p0_p1_p2 : AX 15 35 (fun f => (f (Int32.toNatClampNeg p1)).toInt < Int32.toInt p2) Ps w0 p0 := AX.mk hw h_vu_1 rfl m_u_1 (fun f9 g9 _ => by have e9 := g9 _ _ m_v_2; have j9 : Int32.toNatClampNeg p1 = Int32.toNatClampNeg p1 := rfl; rw [j9] at e9; show _; rw [e9]; have k1 := r_v_2.2; have k2 := r_p2.1; omega)
    refine lv_aload_n hx hb dX10_readFirst_16 rfl (lv_at hl 0 rfl) ?_
    refine tk_v (va_runV (As := []) (rest := []) ⟨hx, hb, hml, hown, hts⟩ (c_X10_go__1 l D cy z s.heap.size Ps w0 hw.1 p0 (gh) h_p0 x_TO_p0_gh) (cwV 0 hts (gV tw_1298 tw_1300 ts_40 tw_15 tw_1301) rfl rfl rfl (by decide +kernel) ⟨Nat.le_of_ble_eq_true rfl, Nat.le_of_ble_eq_true rfl⟩) (tg_preV hw hK hSD hA (ci := 10) (q := (RX10, TX10, 49)) rfl h_p0 rfl) rfl rfl hl.1 rfl (lv_room (Nat.le_of_ble_eq_true rfl)) dX10_readFirst_17 ⟨Nat.le_of_ble_eq_true rfl, Nat.le_of_ble_eq_true rfl⟩) hw hA ⟨by decide, by decide⟩ (fun ws H locs hp_v_3 hw hF9 => ?_)
    have x_RLT_p0_p1_p2 := AX.over hF9 x_RLT_p0_p1_p2 (by decide)
    have x_TOK_p0_gh := (hp_v_3.1)
    refine lv_iconst (v := 1) hx hb dX10_readFirst_20 (by decide) ?_
    subst hQ
    exact W.zret (v := 1) hx hb hr (rfl) (fun t ht hW => ⟨⟨1, ws, rfl, ⟨⟨rl_1.to (by decide), (fun _ => trivial), (fun h0 => ⟨x_TOK_p0_gh, x_RLT_p0_p1_p2, trivial⟩)⟩, hw.1, hw.2.2.2.2.1⟩, by rw [ht]; exact hw.2.1, va_K.moved hW.alike hK, hw.2.2.1⟩, hw.2.2.2.1.F ht⟩) hw.2.2.2.1.2.2 dX10_readFirst_21
  · have r_v_2 : RI v_2 4 4 := rc_eq1 r_v_2 r_p2 (ti_eq c_7) (by decide)
    refine lv_aload_n hx hb dX10_readFirst_10 rfl (lv_at hl 0 rfl) ?_
    refine lv_iconst (v := 4) hx hb dX10_readFirst_11 (by decide) ?_
    refine tk_i (va_runV (As := [.int 4]) (rest := []) ⟨hx, hb, hml, hown, hts⟩ (c_X10_bad l D cy z s.heap.size Ps w0 hw.1 p0 4 h_p0 (rl_4.to (by decide))) (cwV 1 hts (gV tw_1336 tw_1338 ts_46 tw_15 tw_1339) rfl rfl rfl (by decide +kernel) ⟨Nat.le_of_ble_eq_true rfl, Nat.le_of_ble_eq_true rfl⟩) (tg_preV hw hK hSD hA (ci := 10) (q := (RX10, TX10, 49)) rfl h_p0 rfl) rfl rfl hl.1 rfl (lv_room (Nat.le_of_ble_eq_true rfl)) dX10_readFirst_12 ⟨Nat.le_of_ble_eq_true rfl, Nat.le_of_ble_eq_true rfl⟩) hw hA ⟨by decide, by decide⟩ (fun v_4 ws H locs hp_v_4 hw hF9 => ?_)
    have x_TO_p0_gh := TOP.over hF9 x_TO_p0_gh (by decide)
    have r_v_4 : RI v_4 0 0 := hp_v_4.1
    subst hQ
    exact W.zret (v := v_4) hx hb hr (tq_nz (r_v_4.to (by decide))) (fun t ht hW => ⟨⟨v_4, ws, rfl, ⟨⟨r_v_4.to (by decide), (fun h0 => trivial), (fun h0 => absurd (Int32.toInt_inj.mp (by have h8 := r_v_4; unfold RI at h8; rw [Int32.toInt_zero]; omega)) h0)⟩, hw.1, hw.2.2.2.2.1⟩, by rw [ht]; exact hw.2.1, va_K.moved hW.alike hK, hw.2.2.1⟩, hw.2.2.2.1.F ht⟩) hw.2.2.2.1.2.2 dX10_readFirst_15
abbrev wr_X10_readNew__2 : List (Nat × Nat) := [(10, 5), (10, 6), (10, 7), (10, 8), (10, 9), (10, 10), (10, 11), (10, 12)]
abbrev wa_X10_readNew__2 : List Nat := [42]
set_option maxHeartbeats 4000000 in
set_option maxRecDepth 100000 in
theorem c_X10_readNew__2 (l : Launch) (D : va_G) (cy : Nat → ClassId) (z : Nat → Nat) (sz : Nat) (Ps : PSI) (w0 : va_W) (hT : HT cy GG Ps w0) (p0 : Nat) (p1 : Int32) (gh : Int) (h_p0 : (p0, 55) ∈ Ps) (r_p1 : RI p1 6 9) (x_TO_p0_gh : TOP w0 p0 (gh)) : Met l yX10_readNew (Cond.code yX10_readNew cX10_readNew 2 (some .boolean) :: gT) ({ frames := 4, cells := 0, slots := 0, locals := 800 } : Room) (va_Pc [.ref p0, .int p1] (PRE D cy z w0 sz)) (va_Qi (fun (r : Int32) (u : va_W) => (RI r 0 1 ∧ (r = 0 → True) ∧ (¬ r = 0 → TKP u p0 (gh) ∧ True)) ∧ HT cy GG Ps u ∧ FR wr_X10_readNew__2 wa_X10_readNew__2 Ps w0 u) (BB D cy (va_A w0 sz) (fun (u : va_W) => u)) (va_A w0 sz)) 0 0 (va_A w0 sz) := by
  refine Met.ofW (cc := cX10_readNew) (maxL := 2) (ret := (some .boolean)) (by decide) rfl ?_
  intro p e s m args below meth c s₁ B hml hv
  obtain ⟨rfl, hsz, hP, hK, hD0, hSD⟩ := hv
  have hx := B.exec
  have hb := B.bytes
  have hr := B.returns
  have hlocks := B.notSynchronized
  have hts : ∀ w ∈ gT, w.before _ s = true := fun w h => atoms_spec (ws := Cond.code yX10_readNew cX10_readNew 2 (some .boolean) :: gT) B.pre w (List.mem_cons_of_mem _ h)
  have hown : s.vm.findClass RX10 = some m.cls := findClass_of_methodNamed B.named
  subst hsz
  have hD := hD0.self (sz := s.heap.size)
  generalize hAe : va_A w0 s.heap.size = A at hD hSD ⊢
  have hA : ∀ q : Nat, s.heap.size ≤ q → A q := fun q h => by rw [← hAe]; exact Or.inr h
  have hl := lv_entry ([.ref p0, .int p1]) (n := 2) (Nat.le_of_ble_eq_true rfl)
  rw [lg_entry_eq]
  generalize (lg_sl ([.ref p0, .int p1]) ++ List.replicate (2 - (lg_sl ([.ref p0, .int p1])).length) Slot.unset).toArray = ls at hl ⊢
  have hl : lv_has ls 2 [(0, .ref p0), (1, .int p1)] := hl
  refine nameQ (fun Q hQ => ?_)
  have hw : WD D cy GG A s wr_X10_readNew__2 wa_X10_readNew__2 Ps w0 Ps w0 s.heap [] := ⟨hT, hP, hD, va_S.rf, FR.rf, hT.1, [], (List.append_nil _).symm⟩
  refine lv_aload_n hx hb dX10_readNew_0 rfl (lv_at hl 0 rfl) ?_
  refine tk_ir (va_runV (As := []) (rest := []) ⟨hx, hb, hml, hown, hts⟩ (c_X10_isName l D cy z s.heap.size Ps w0 hw.1 p0 h_p0) (cwV 0 hts (gV tw_1344 tw_1346 ts_48 tw_15 tw_1347) rfl rfl rfl (by decide +kernel) ⟨Nat.le_of_ble_eq_true rfl, Nat.le_of_ble_eq_true rfl⟩) (tg_preV hw hK hSD hA (ci := 10) (q := (RX10, TX10, 49)) rfl h_p0 rfl) rfl rfl hl.1 rfl (lv_room (Nat.le_of_ble_eq_true rfl)) dX10_readNew_1 ⟨Nat.le_of_ble_eq_true rfl, Nat.le_of_ble_eq_true rfl⟩) hw hA (fun v_1  H locs hp_v_1 hw => ?_)
  have r_v_1 : RI v_1 0 1 := hp_v_1.1
  refine lv_if_ne (tgt := 13) hx hb dX10_readNew_4 (by decide) (fun c_4 => ?_) (fun c_4 => ?_)
  · have r_v_1 : RI v_1 1 1 := rc_neL r_v_1 rl_0 (ti_ne c_4) (by decide)
    refine lv_aload_n hx hb dX10_readNew_13 rfl (lv_at hl 0 rfl) ?_
    refine tk_ir (va_runV (As := []) (rest := []) ⟨hx, hb, hml, hown, hts⟩ (c_X10_isTaken l D cy z H.size Ps w0 hw.1 p0 h_p0) (cwV 0 hts (gV tw_1348 tw_1350 ts_49 tw_15 tw_1351) rfl rfl rfl (by decide +kernel) ⟨Nat.le_of_ble_eq_true rfl, Nat.le_of_ble_eq_true rfl⟩) (tg_preV hw hK hSD hA (ci := 10) (q := (RX10, TX10, 49)) rfl h_p0 rfl) rfl rfl hl.1 rfl (lv_room (Nat.le_of_ble_eq_true rfl)) dX10_readNew_14 ⟨Nat.le_of_ble_eq_true rfl, Nat.le_of_ble_eq_true rfl⟩) hw hA (fun v_2  H locs hp_v_2 hw => ?_)
    have r_v_2 : RI v_2 0 1 := hp_v_2.1
    refine lv_if_eq (tgt := 26) hx hb dX10_readNew_17 (by decide) (fun c_17 => ?_) (fun c_17 => ?_)
    · have r_v_2 : RI v_2 0 0 := rc_eq1 r_v_2 rl_0 (ti_eq c_17) (by decide)
      refine lv_aload_n hx hb dX10_readNew_26 rfl (lv_at hl 0 rfl) ?_
      refine tg_get (ci := 10) (ts := ty_MODEL) (C := RX10) (T := TX10) (N := 49) hx hb hts inX10 hown hK hw h_p0 rfl rfl 21 (by decide) (hts _ tw_1158) (fun _ h9 => h9) (ft := vR 42) rfl dX10_readNew_27 (fun u_3 hv_u_3 m_u_3 => ?_)
      obtain ⟨vu_3, rfl, h_vu_3⟩ := hv_u_3
      refine lv_iload_n hx hb dX10_readNew_30 rfl (lv_at hl 1 rfl) ?_
      refine lv_aload_n hx hb dX10_readNew_31 rfl (lv_at hl 0 rfl) ?_
      refine tg_get (ci := 10) (ts := ty_MODEL) (C := RX10) (T := TX10) (N := 49) hx hb hts inX10 hown hK hw h_p0 rfl rfl 12 (by decide) (hts _ tw_1149) (fun _ h9 => h9) (ft := vJ (-9223372036854775808) 9223372036854775807) rfl dX10_readNew_32 (fun u_4 hv_u_4 m_u_4 => ?_)
      obtain ⟨vu_4, rfl, r_vu_4⟩ := hv_u_4
      refine tg_last hx hb hK hw h_vu_3 rfl r_p1 (by decide) r_vu_4 (by decide) (by decide) dX10_readNew_35 (fun ws H locs hw hF9 => ?_)
      have x_TO_p0_gh := TOP.over hF9 x_TO_p0_gh (by decide)
      refine lv_aload_n hx hb dX10_readNew_36 rfl (lv_at hl 0 rfl) ?_
      refine tk_v (va_runV (As := []) (rest := []) ⟨hx, hb, hml, hown, hts⟩ (c_X10_go__1 l D cy z H.size Ps ws hw.1 p0 (gh) h_p0 x_TO_p0_gh) (cwV 0 hts (gV tw_1298 tw_1300 ts_40 tw_15 tw_1301) rfl rfl rfl (by decide +kernel) ⟨Nat.le_of_ble_eq_true rfl, Nat.le_of_ble_eq_true rfl⟩) (tg_preV hw hK hSD hA (ci := 10) (q := (RX10, TX10, 49)) rfl h_p0 rfl) rfl rfl hl.1 rfl (lv_room (Nat.le_of_ble_eq_true rfl)) dX10_readNew_37 ⟨Nat.le_of_ble_eq_true rfl, Nat.le_of_ble_eq_true rfl⟩) hw hA ⟨by decide, by decide⟩ (fun ws H locs hp_v_5 hw hF9 => ?_)
      have x_TOK_p0_gh := (hp_v_5.1)
      refine lv_iconst (v := 1) hx hb dX10_readNew_40 (by decide) ?_
      subst hQ
      exact W.zret (v := 1) hx hb hr (rfl) (fun t ht hW => ⟨⟨1, ws, rfl, ⟨⟨rl_1.to (by decide), (fun _ => trivial), (fun h0 => ⟨x_TOK_p0_gh, trivial⟩)⟩, hw.1, hw.2.2.2.2.1⟩, by rw [ht]; exact hw.2.1, va_K.moved hW.alike hK, hw.2.2.1⟩, hw.2.2.2.1.F ht⟩) hw.2.2.2.1.2.2 dX10_readNew_41
    · have r_v_2 : RI v_2 1 1 := rc_neL r_v_2 rl_0 (ti_ne c_17) (by decide)
      refine lv_aload_n hx hb dX10_readNew_20 rfl (lv_at hl 0 rfl) ?_
      refine lv_iconst (v := 3) hx hb dX10_readNew_21 (by decide) ?_
      refine tk_i (va_runV (As := [.int 3]) (rest := []) ⟨hx, hb, hml, hown, hts⟩ (c_X10_bad l D cy z H.size Ps w0 hw.1 p0 3 h_p0 (rl_3.to (by decide))) (cwV 1 hts (gV tw_1336 tw_1338 ts_46 tw_15 tw_1339) rfl rfl rfl (by decide +kernel) ⟨Nat.le_of_ble_eq_true rfl, Nat.le_of_ble_eq_true rfl⟩) (tg_preV hw hK hSD hA (ci := 10) (q := (RX10, TX10, 49)) rfl h_p0 rfl) rfl rfl hl.1 rfl (lv_room (Nat.le_of_ble_eq_true rfl)) dX10_readNew_22 ⟨Nat.le_of_ble_eq_true rfl, Nat.le_of_ble_eq_true rfl⟩) hw hA ⟨by decide, by decide⟩ (fun v_6 ws H locs hp_v_6 hw hF9 => ?_)
      have x_TO_p0_gh := TOP.over hF9 x_TO_p0_gh (by decide)
      have r_v_6 : RI v_6 0 0 := hp_v_6.1
      subst hQ
      exact W.zret (v := v_6) hx hb hr (tq_nz (r_v_6.to (by decide))) (fun t ht hW => ⟨⟨v_6, ws, rfl, ⟨⟨r_v_6.to (by decide), (fun h0 => trivial), (fun h0 => absurd (Int32.toInt_inj.mp (by have h8 := r_v_6; unfold RI at h8; rw [Int32.toInt_zero]; omega)) h0)⟩, hw.1, hw.2.2.2.2.1⟩, by rw [ht]; exact hw.2.1, va_K.moved hW.alike hK, hw.2.2.1⟩, hw.2.2.2.1.F ht⟩) hw.2.2.2.1.2.2 dX10_readNew_25
  · have r_v_1 : RI v_1 0 0 := rc_eq1 r_v_1 rl_0 (ti_eq c_4) (by decide)
    refine lv_aload_n hx hb dX10_readNew_7 rfl (lv_at hl 0 rfl) ?_
    refine lv_iconst (v := 1) hx hb dX10_readNew_8 (by decide) ?_
    refine tk_i (va_runV (As := [.int 1]) (rest := []) ⟨hx, hb, hml, hown, hts⟩ (c_X10_bad l D cy z H.size Ps w0 hw.1 p0 1 h_p0 (rl_1.to (by decide))) (cwV 1 hts (gV tw_1336 tw_1338 ts_46 tw_15 tw_1339) rfl rfl rfl (by decide +kernel) ⟨Nat.le_of_ble_eq_true rfl, Nat.le_of_ble_eq_true rfl⟩) (tg_preV hw hK hSD hA (ci := 10) (q := (RX10, TX10, 49)) rfl h_p0 rfl) rfl rfl hl.1 rfl (lv_room (Nat.le_of_ble_eq_true rfl)) dX10_readNew_9 ⟨Nat.le_of_ble_eq_true rfl, Nat.le_of_ble_eq_true rfl⟩) hw hA ⟨by decide, by decide⟩ (fun v_7 ws H locs hp_v_7 hw hF9 => ?_)
    have x_TO_p0_gh := TOP.over hF9 x_TO_p0_gh (by decide)
    have r_v_7 : RI v_7 0 0 := hp_v_7.1
    subst hQ
    exact W.zret (v := v_7) hx hb hr (tq_nz (r_v_7.to (by decide))) (fun t ht hW => ⟨⟨v_7, ws, rfl, ⟨⟨r_v_7.to (by decide), (fun h0 => trivial), (fun h0 => absurd (Int32.toInt_inj.mp (by have h8 := r_v_7; unfold RI at h8; rw [Int32.toInt_zero]; omega)) h0)⟩, hw.1, hw.2.2.2.2.1⟩, by rw [ht]; exact hw.2.1, va_K.moved hW.alike hK, hw.2.2.1⟩, hw.2.2.2.1.F ht⟩) hw.2.2.2.1.2.2 dX10_readNew_12
abbrev wr_X10_readRoom : List (Nat × Nat) := [(10, 5), (10, 6), (10, 7), (10, 8), (10, 9), (10, 10), (10, 11), (10, 12)]
abbrev wa_X10_readRoom : List Nat := [35, 42]
set_option maxHeartbeats 4000000 in
set_option maxRecDepth 100000 in
theorem c_X10_readRoom (l : Launch) (D : va_G) (cy : Nat → ClassId) (z : Nat → Nat) (sz : Nat) (Ps : PSI) (w0 : va_W) (hT : HT cy GG Ps w0) (p0 : Nat) (gh : Int) (h_p0 : (p0, 55) ∈ Ps) (x_TO_p0_gh : TOP w0 p0 (gh)) (x_RH_p0 : AX 15 35 (fun f => RH2p f) Ps w0 p0) : Met l yX10_readRoom (Cond.code yX10_readRoom cX10_readRoom 1 (some .boolean) :: gT) ({ frames := 5, cells := 0, slots := 0, locals := 1000 } : Room) (va_Pc [.ref p0] (PRE D cy z w0 sz)) (va_Qi (fun (r : Int32) (u : va_W) => (RI r 0 1 ∧ (r = 0 → True) ∧ (¬ r = 0 → TKP u p0 (gh) ∧ AX 15 35 (fun f => RH2p f) Ps u p0 ∧ True)) ∧ HT cy GG Ps u ∧ FR wr_X10_readRoom wa_X10_readRoom Ps w0 u) (BB D cy (va_A w0 sz) (fun (u : va_W) => u)) (va_A w0 sz)) 0 0 (va_A w0 sz) := by
  refine Met.ofW (cc := cX10_readRoom) (maxL := 1) (ret := (some .boolean)) (by decide) rfl ?_
  intro p e s m args below meth c s₁ B hml hv
  obtain ⟨rfl, hsz, hP, hK, hD0, hSD⟩ := hv
  have hx := B.exec
  have hb := B.bytes
  have hr := B.returns
  have hlocks := B.notSynchronized
  have hts : ∀ w ∈ gT, w.before _ s = true := fun w h => atoms_spec (ws := Cond.code yX10_readRoom cX10_readRoom 1 (some .boolean) :: gT) B.pre w (List.mem_cons_of_mem _ h)
  have hown : s.vm.findClass RX10 = some m.cls := findClass_of_methodNamed B.named
  subst hsz
  have hD := hD0.self (sz := s.heap.size)
  generalize hAe : va_A w0 s.heap.size = A at hD hSD ⊢
  have hA : ∀ q : Nat, s.heap.size ≤ q → A q := fun q h => by rw [← hAe]; exact Or.inr h
  have hl := lv_entry ([.ref p0]) (n := 1) (Nat.le_of_ble_eq_true rfl)
  rw [lg_entry_eq]
  generalize (lg_sl ([.ref p0]) ++ List.replicate (1 - (lg_sl ([.ref p0])).length) Slot.unset).toArray = ls at hl ⊢
  have hl : lv_has ls 1 [(0, .ref p0)] := hl
  refine nameQ (fun Q hQ => ?_)
  have hw : WD D cy GG A s wr_X10_readRoom wa_X10_readRoom Ps w0 Ps w0 s.heap [] := ⟨hT, hP, hD, va_S.rf, FR.rf, hT.1, [], (List.append_nil _).symm⟩
  refine lv_aload_n hx hb dX10_readRoom_0 rfl (lv_at hl 0 rfl) ?_
  refine lv_iconst (v := 1) hx hb dX10_readRoom_1 (by decide) ?_
  refine lv_iconst (v := 4) hx hb dX10_readRoom_2 (by decide) ?_
  refine tk_i (va_runV (As := [.int 1, .int 4]) (rest := []) ⟨hx, hb, hml, hown, hts⟩ (c_X10_readFirst__2 l D cy z s.heap.size Ps w0 hw.1 p0 1 4 (gh) h_p0 rl_1 rl_4 x_TO_p0_gh) (cwV 2 hts (gV tw_1332 tw_1334 ts_45 tw_15 tw_1335) rfl rfl rfl (by decide +kernel) ⟨Nat.le_of_ble_eq_true rfl, Nat.le_of_ble_eq_true rfl⟩) (tg_preV hw hK hSD hA (ci := 10) (q := (RX10, TX10, 49)) rfl h_p0 rfl) rfl rfl hl.1 rfl (lv_room (Nat.le_of_ble_eq_true rfl)) dX10_readRoom_3 ⟨Nat.le_of_ble_eq_true rfl, Nat.le_of_ble_eq_true rfl⟩) hw hA ⟨by decide, by decide⟩ (fun v_1 ws H locs hp_v_1 hw hF9 => ?_)
  have x_RH_p0 := AX.over hF9 x_RH_p0 (by decide)
  have r_v_1 : RI v_1 0 1 := hp_v_1.1
  by_cases c9_v_1 : v_1 = 0
  · have r_v_1 : RI v_1 0 0 := by rw [c9_v_1]; exact rl_0
    refine lv_if_eq (tgt := 25) hx hb dX10_readRoom_6 (by decide) (fun c_6 => ?_) (fun c_6 => ?_)
    · refine lv_iconst (v := 0) hx hb dX10_readRoom_25 (by decide) ?_
      subst hQ
      exact W.zret (v := 0) hx hb hr (rfl) (fun t ht hW => ⟨⟨0, ws, rfl, ⟨⟨rl_0.to (by decide), (fun h0 => trivial), (fun h0 => absurd rfl h0)⟩, hw.1, hw.2.2.2.2.1⟩, by rw [ht]; exact hw.2.1, va_K.moved hW.alike hK, hw.2.2.1⟩, hw.2.2.2.1.F ht⟩) hw.2.2.2.1.2.2 dX10_readRoom_26
    · exact absurd (r_v_1.eq.trans rl_0.eq.symm) ((ti_ne c_6))
  · have r_v_1 : RI v_1 1 1 := rc_neL r_v_1 rl_0 (ti_ne c9_v_1) (by decide)
    have x_TOK_p0_gh := ((hp_v_1.2.2 c9_v_1).1)
    have x_RLT_p0_1_4 := ((hp_v_1.2.2 c9_v_1).2.1)
    refine lv_if_eq (tgt := 25) hx hb dX10_readRoom_6 (by decide) (fun c_6 => ?_) (fun c_6 => ?_)
    · have r_v_1 : RI v_1 1 0 := rc_eq1 r_v_1 rl_0 (ti_eq c_6) (by decide)
      exact (r_v_1.no (by decide)).elim
    · refine lv_aload_n hx hb dX10_readRoom_9 rfl (lv_at hl 0 rfl) ?_
      refine lv_bipush (v := 6) hx hb dX10_readRoom_10 (by decide) ?_
      refine lv_aload_n hx hb dX10_readRoom_12 rfl (lv_at hl 0 rfl) ?_
      refine tg_get (ci := 10) (ts := ty_MODEL) (C := RX10) (T := TX10) (N := 49) hx hb hts inX10 hown hK hw h_p0 rfl rfl 15 (by decide) (hts _ tw_1152) (fun _ h9 => h9) (ft := vR 35) rfl dX10_readRoom_13 (fun u_2 hv_u_2 m_u_2 => ?_)
      obtain ⟨vu_2, rfl, h_vu_2⟩ := hv_u_2
      refine lv_iconst (v := 1) hx hb dX10_readRoom_16 (by decide) ?_
      refine tg_iald (lo := 0) (hi := 4) hx hb hK hw h_vu_2 rfl 1 1 rl_1 (by decide) (by decide +kernel) dX10_readRoom_17 (fun v_3 r_v_3 m_v_3 o_v_3 => ?_)
      have r_v_3 : RI v_3 0 3 := by obtain ⟨f9, h9, q9, g9⟩ := AX.use hw x_RLT_p0_1_4 h_vu_2 rfl m_u_2; have e9 := g9 _ _ m_v_3; have j9 : Int32.toNatClampNeg 1 = 1 := (by decide); rw [j9] at e9; have h8 : (f9 1).toInt < 4 := h9; rw [e9] at h8; exact ⟨r_v_3.1, by omega⟩
      refine lv_iadd hx hb dX10_readRoom_18 (lv_topi (fun v_4 e_v_4 => ?_))
      obtain ⟨t_v_4, r_v_4⟩ := tq_add (lo := 6) (hi := 9) rl_6 r_v_3 (by decide +kernel) e_v_4
      have t_v_4 : v_4.toInt = 6 + v_3.toInt := t_v_4
      have x_TO_p0_gh : TOP ws p0 (gh) := TKP.top x_TOK_p0_gh
      have hw8 := hw
      refine tk_i (va_runV (As := [.int v_4]) (rest := []) ⟨hx, hb, hml, hown, hts⟩ (c_X10_readNew__2 l D cy z H.size Ps ws hw.1 p0 v_4 (gh) h_p0 r_v_4 x_TO_p0_gh) (cwV 1 hts (gV tw_1340 tw_1342 ts_47 tw_15 tw_1343) rfl rfl rfl (by decide +kernel) ⟨Nat.le_of_ble_eq_true rfl, Nat.le_of_ble_eq_true rfl⟩) (tg_preV hw hK hSD hA (ci := 10) (q := (RX10, TX10, 49)) rfl h_p0 rfl) rfl rfl hl.1 rfl (lv_room (Nat.le_of_ble_eq_true rfl)) dX10_readRoom_19 ⟨Nat.le_of_ble_eq_true rfl, Nat.le_of_ble_eq_true rfl⟩) hw hA ⟨by decide, by decide⟩ (fun v_5 ws H locs hp_v_5 hw hF9 => ?_)
      have m_v_3 := AEL.over hw8 hF9 h_vu_2 m_v_3 (by decide)
      have m_u_2 := FLD.over hF9 m_u_2 (by decide)
      have x_RH_p0 := AX.over hF9 x_RH_p0 (by decide)
      have x_RLT_p0_1_4 := AX.over hF9 x_RLT_p0_1_4 (by decide)
      have r_v_5 : RI v_5 0 1 := hp_v_5.1
      by_cases c9_v_5 : v_5 = 0
      · have r_v_5 : RI v_5 0 0 := by rw [c9_v_5]; exact rl_0
        refine lv_if_ne (tgt := 27) hx hb dX10_readRoom_22 (by decide) (fun c_22 => ?_) (fun c_22 => ?_)
        · exact absurd (r_v_5.eq.trans rl_0.eq.symm) ((ti_ne c_22))
        · refine lv_iconst (v := 0) hx hb dX10_readRoom_25 (by decide) ?_
          subst hQ
          exact W.zret (v := 0) hx hb hr (rfl) (fun t ht hW => ⟨⟨0, ws, rfl, ⟨⟨rl_0.to (by decide), (fun h0 => trivial), (fun h0 => absurd rfl h0)⟩, hw.1, hw.2.2.2.2.1⟩, by rw [ht]; exact hw.2.1, va_K.moved hW.alike hK, hw.2.2.1⟩, hw.2.2.2.1.F ht⟩) hw.2.2.2.1.2.2 dX10_readRoom_26
      · have r_v_5 : RI v_5 1 1 := rc_neL r_v_5 rl_0 (ti_ne c9_v_5) (by decide)
        have x_TOK_p0_gh := ((hp_v_5.2.2 c9_v_5).1)
        refine lv_if_ne (tgt := 27) hx hb dX10_readRoom_22 (by decide) (fun c_22 => ?_) (fun c_22 => ?_)
        · refine lv_aload_n hx hb dX10_readRoom_27 rfl (lv_at hl 0 rfl) ?_
          refine tg_mem (ci := 10) (C := RX10) (T := TX10) (N := 49) hx hb hts inX10 hown hK hw 15 m_u_2 rfl (by decide) (hts _ tw_1152) (fun _ h9 => h9) dX10_readRoom_28 ?_
          refine lv_iconst (v := 1) hx hb dX10_readRoom_31 (by decide) ?_
          refine lv_dup2_11 hx hb dX10_readRoom_32 rfl rfl ?_
          refine tg_imem hx hb hK hw h_vu_2 rfl rl_1 (by decide) m_v_3 dX10_readRoom_33 ?_
          have r_v_3 : RI v_3 0 3 := by obtain ⟨f9, h9, q9, g9⟩ := AX.use hw x_RLT_p0_1_4 h_vu_2 rfl m_u_2; have e9 := g9 _ _ m_v_3; have j9 : Int32.toNatClampNeg 1 = 1 := (by decide); rw [j9] at e9; have h8 : (f9 1).toInt < 4 := h9; rw [e9] at h8; exact ⟨r_v_3.1, by omega⟩
          refine lv_iconst (v := 1) hx hb dX10_readRoom_34 (by decide) ?_
          refine lv_iadd hx hb dX10_readRoom_35 (lv_topi (fun v_7 e_v_7 => ?_))
          obtain ⟨t_v_7, r_v_7⟩ := tq_add (lo := 1) (hi := 4) r_v_3 rl_1 (by decide +kernel) e_v_7
          have t_v_7 : v_7.toInt = v_3.toInt + 1 := t_v_7
          have hw8 := hw
          refine tg_iast hx hb hK hw h_vu_2 rfl 1 1 rl_1 (by decide) r_v_7 (by decide +kernel) (fun _ _ _ _ _ => trivial) (by decide) dX10_readRoom_36 (fun ws H locs hw hF9 hU9 => ?_)
          have x_RH_p0 : AX 15 35 (fun f => RH2p f) Ps ws p0 := AX.ast hF9 hU9 x_RH_p0 m_u_2 (fun f9 h9 => RH_keep h9 (by decide))
          have x_TOK_p0_gh := TKP.over hF9 x_TOK_p0_gh (by decide)
          have m_u_2 := FLD.over hF9 m_u_2 (by decide)
          refine lv_iconst (v := 1) hx hb dX10_readRoom_37 (by decide) ?_
          subst hQ
          exact W.zret (v := 1) hx hb hr (rfl) (fun t ht hW => ⟨⟨1, ws, rfl, ⟨⟨rl_1.to (by decide), (fun _ => trivial), (fun h0 => ⟨x_TOK_p0_gh, x_RH_p0, trivial⟩)⟩, hw.1, hw.2.2.2.2.1⟩, by rw [ht]; exact hw.2.1, va_K.moved hW.alike hK, hw.2.2.1⟩, hw.2.2.2.1.F ht⟩) hw.2.2.2.1.2.2 dX10_readRoom_38
        · have r_v_5 : RI v_5 1 0 := rc_eq1 r_v_5 rl_0 (ti_eq c_22) (by decide)
          exact (r_v_5.no (by decide)).elim
abbrev wr_X10_readFirst__3 : List (Nat × Nat) := [(10, 5), (10, 6), (10, 7), (10, 8), (10, 9), (10, 10), (10, 11), (10, 12)]
abbrev wa_X10_readFirst__3 : List Nat := []
set_option maxHeartbeats 4000000 in
set_option maxRecDepth 100000 in
theorem c_X10_readFirst__3 (l : Launch) (D : va_G) (cy : Nat → ClassId) (z : Nat → Nat) (sz : Nat) (Ps : PSI) (w0 : va_W) (hT : HT cy GG Ps w0) (p0 : Nat) (p1 : Int32) (p2 : Int32) (gh : Int) (h_p0 : (p0, 55) ∈ Ps) (r_p1 : RI p1 0 0) (r_p2 : RI p2 6 6) (x_TO_p0_gh : TOP w0 p0 (gh)) : Met l yX10_readFirst (Cond.code yX10_readFirst cX10_readFirst 3 (some .boolean) :: gT) ({ frames := 3, cells := 0, slots := 0, locals := 600 } : Room) (va_Pc [.ref p0, .int p1, .int p2] (PRE D cy z w0 sz)) (va_Qi (fun (r : Int32) (u : va_W) => (RI r 0 1 ∧ (r = 0 → True) ∧ (¬ r = 0 → TKP u p0 (gh) ∧ AX 15 35 (fun f => (f (Int32.toNatClampNeg p1)).toInt < Int32.toInt p2) Ps u p0 ∧ True)) ∧ HT cy GG Ps u ∧ FR wr_X10_readFirst__3 wa_X10_readFirst__3 Ps w0 u) (BB D cy (va_A w0 sz) (fun (u : va_W) => u)) (va_A w0 sz)) 0 0 (va_A w0 sz) := by
  refine Met.ofW (cc := cX10_readFirst) (maxL := 3) (ret := (some .boolean)) (by decide) rfl ?_
  intro p e s m args below meth c s₁ B hml hv
  obtain ⟨rfl, hsz, hP, hK, hD0, hSD⟩ := hv
  have hx := B.exec
  have hb := B.bytes
  have hr := B.returns
  have hlocks := B.notSynchronized
  have hts : ∀ w ∈ gT, w.before _ s = true := fun w h => atoms_spec (ws := Cond.code yX10_readFirst cX10_readFirst 3 (some .boolean) :: gT) B.pre w (List.mem_cons_of_mem _ h)
  have hown : s.vm.findClass RX10 = some m.cls := findClass_of_methodNamed B.named
  subst hsz
  have hD := hD0.self (sz := s.heap.size)
  generalize hAe : va_A w0 s.heap.size = A at hD hSD ⊢
  have hA : ∀ q : Nat, s.heap.size ≤ q → A q := fun q h => by rw [← hAe]; exact Or.inr h
  have hl := lv_entry ([.ref p0, .int p1, .int p2]) (n := 3) (Nat.le_of_ble_eq_true rfl)
  rw [lg_entry_eq]
  generalize (lg_sl ([.ref p0, .int p1, .int p2]) ++ List.replicate (3 - (lg_sl ([.ref p0, .int p1, .int p2])).length) Slot.unset).toArray = ls at hl ⊢
  have hl : lv_has ls 3 [(0, .ref p0), (1, .int p1), (2, .int p2)] := hl
  refine nameQ (fun Q hQ => ?_)
  have hw : WD D cy GG A s wr_X10_readFirst__3 wa_X10_readFirst__3 Ps w0 Ps w0 s.heap [] := ⟨hT, hP, hD, va_S.rf, FR.rf, hT.1, [], (List.append_nil _).symm⟩
  refine lv_aload_n hx hb dX10_readFirst_0 rfl (lv_at hl 0 rfl) ?_
  refine tg_get (ci := 10) (ts := ty_MODEL) (C := RX10) (T := TX10) (N := 49) hx hb hts inX10 hown hK hw h_p0 rfl rfl 15 (by decide) (hts _ tw_1152) (fun _ h9 => h9) (ft := vR 35) rfl dX10_readFirst_1 (fun u_1 hv_u_1 m_u_1 => ?_)
  obtain ⟨vu_1, rfl, h_vu_1⟩ := hv_u_1
  refine lv_iload_n hx hb dX10_readFirst_4 rfl (lv_at hl 1 rfl) ?_
  refine tg_iald (lo := 0) (hi := 6) hx hb hK hw h_vu_1 rfl 0 0 r_p1 (by decide) (by decide +kernel) dX10_readFirst_5 (fun v_2 r_v_2 m_v_2 o_v_2 => ?_)
  refine lv_iload_n hx hb dX10_readFirst_6 rfl (lv_at hl 2 rfl) ?_
  refine lv_icmp_ne (tgt := 16) hx hb dX10_readFirst_7 (by decide) (fun c_7 => ?_) (fun c_7 => ?_)
  · have r_v_2 : RI v_2 0 5 := rc_neU r_v_2 r_p2 (ti_ne c_7) (by decide)
    have x_RLT_p0_p1_p2 : AX 15 35 (fun f => (f (Int32.toNatClampNeg p1)).toInt < Int32.toInt p2) Ps w0 p0 := AX.mk hw h_vu_1 rfl m_u_1 (fun f9 g9 _ => by have e9 := g9 _ _ m_v_2; have j9 : Int32.toNatClampNeg p1 = Int32.toNatClampNeg p1 := rfl; rw [j9] at e9; show _; rw [e9]; have k1 := r_v_2.2; have k2 := r_p2.1; omega)
    refine lv_aload_n hx hb dX10_readFirst_16 rfl (lv_at hl 0 rfl) ?_
    refine tk_v (va_runV (As := []) (rest := []) ⟨hx, hb, hml, hown, hts⟩ (c_X10_go__1 l D cy z s.heap.size Ps w0 hw.1 p0 (gh) h_p0 x_TO_p0_gh) (cwV 0 hts (gV tw_1298 tw_1300 ts_40 tw_15 tw_1301) rfl rfl rfl (by decide +kernel) ⟨Nat.le_of_ble_eq_true rfl, Nat.le_of_ble_eq_true rfl⟩) (tg_preV hw hK hSD hA (ci := 10) (q := (RX10, TX10, 49)) rfl h_p0 rfl) rfl rfl hl.1 rfl (lv_room (Nat.le_of_ble_eq_true rfl)) dX10_readFirst_17 ⟨Nat.le_of_ble_eq_true rfl, Nat.le_of_ble_eq_true rfl⟩) hw hA ⟨by decide, by decide⟩ (fun ws H locs hp_v_3 hw hF9 => ?_)
    have x_RLT_p0_p1_p2 := AX.over hF9 x_RLT_p0_p1_p2 (by decide)
    have x_TOK_p0_gh := (hp_v_3.1)
    refine lv_iconst (v := 1) hx hb dX10_readFirst_20 (by decide) ?_
    subst hQ
    exact W.zret (v := 1) hx hb hr (rfl) (fun t ht hW => ⟨⟨1, ws, rfl, ⟨⟨rl_1.to (by decide), (fun _ => trivial), (fun h0 => ⟨x_TOK_p0_gh, x_RLT_p0_p1_p2, trivial⟩)⟩, hw.1, hw.2.2.2.2.1⟩, by rw [ht]; exact hw.2.1, va_K.moved hW.alike hK, hw.2.2.1⟩, hw.2.2.2.1.F ht⟩) hw.2.2.2.1.2.2 dX10_readFirst_21
  · have r_v_2 : RI v_2 6 6 := rc_eq1 r_v_2 r_p2 (ti_eq c_7) (by decide)
    refine lv_aload_n hx hb dX10_readFirst_10 rfl (lv_at hl 0 rfl) ?_
    refine lv_iconst (v := 4) hx hb dX10_readFirst_11 (by decide) ?_
    refine tk_i (va_runV (As := [.int 4]) (rest := []) ⟨hx, hb, hml, hown, hts⟩ (c_X10_bad l D cy z s.heap.size Ps w0 hw.1 p0 4 h_p0 (rl_4.to (by decide))) (cwV 1 hts (gV tw_1336 tw_1338 ts_46 tw_15 tw_1339) rfl rfl rfl (by decide +kernel) ⟨Nat.le_of_ble_eq_true rfl, Nat.le_of_ble_eq_true rfl⟩) (tg_preV hw hK hSD hA (ci := 10) (q := (RX10, TX10, 49)) rfl h_p0 rfl) rfl rfl hl.1 rfl (lv_room (Nat.le_of_ble_eq_true rfl)) dX10_readFirst_12 ⟨Nat.le_of_ble_eq_true rfl, Nat.le_of_ble_eq_true rfl⟩) hw hA ⟨by decide, by decide⟩ (fun v_4 ws H locs hp_v_4 hw hF9 => ?_)
    have x_TO_p0_gh := TOP.over hF9 x_TO_p0_gh (by decide)
    have r_v_4 : RI v_4 0 0 := hp_v_4.1
    subst hQ
    exact W.zret (v := v_4) hx hb hr (tq_nz (r_v_4.to (by decide))) (fun t ht hW => ⟨⟨v_4, ws, rfl, ⟨⟨r_v_4.to (by decide), (fun h0 => trivial), (fun h0 => absurd (Int32.toInt_inj.mp (by have h8 := r_v_4; unfold RI at h8; rw [Int32.toInt_zero]; omega)) h0)⟩, hw.1, hw.2.2.2.2.1⟩, by rw [ht]; exact hw.2.1, va_K.moved hW.alike hK, hw.2.2.1⟩, hw.2.2.2.1.F ht⟩) hw.2.2.2.1.2.2 dX10_readFirst_15
abbrev wr_X10_readNew__3 : List (Nat × Nat) := [(10, 5), (10, 6), (10, 7), (10, 8), (10, 9), (10, 10), (10, 11), (10, 12)]
abbrev wa_X10_readNew__3 : List Nat := [42]
set_option maxHeartbeats 4000000 in
set_option maxRecDepth 100000 in
theorem c_X10_readNew__3 (l : Launch) (D : va_G) (cy : Nat → ClassId) (z : Nat → Nat) (sz : Nat) (Ps : PSI) (w0 : va_W) (hT : HT cy GG Ps w0) (p0 : Nat) (p1 : Int32) (gh : Int) (h_p0 : (p0, 55) ∈ Ps) (r_p1 : RI p1 0 5) (x_TO_p0_gh : TOP w0 p0 (gh)) : Met l yX10_readNew (Cond.code yX10_readNew cX10_readNew 2 (some .boolean) :: gT) ({ frames := 4, cells := 0, slots := 0, locals := 800 } : Room) (va_Pc [.ref p0, .int p1] (PRE D cy z w0 sz)) (va_Qi (fun (r : Int32) (u : va_W) => (RI r 0 1 ∧ (r = 0 → True) ∧ (¬ r = 0 → TKP u p0 (gh) ∧ True)) ∧ HT cy GG Ps u ∧ FR wr_X10_readNew__3 wa_X10_readNew__3 Ps w0 u) (BB D cy (va_A w0 sz) (fun (u : va_W) => u)) (va_A w0 sz)) 0 0 (va_A w0 sz) := by
  refine Met.ofW (cc := cX10_readNew) (maxL := 2) (ret := (some .boolean)) (by decide) rfl ?_
  intro p e s m args below meth c s₁ B hml hv
  obtain ⟨rfl, hsz, hP, hK, hD0, hSD⟩ := hv
  have hx := B.exec
  have hb := B.bytes
  have hr := B.returns
  have hlocks := B.notSynchronized
  have hts : ∀ w ∈ gT, w.before _ s = true := fun w h => atoms_spec (ws := Cond.code yX10_readNew cX10_readNew 2 (some .boolean) :: gT) B.pre w (List.mem_cons_of_mem _ h)
  have hown : s.vm.findClass RX10 = some m.cls := findClass_of_methodNamed B.named
  subst hsz
  have hD := hD0.self (sz := s.heap.size)
  generalize hAe : va_A w0 s.heap.size = A at hD hSD ⊢
  have hA : ∀ q : Nat, s.heap.size ≤ q → A q := fun q h => by rw [← hAe]; exact Or.inr h
  have hl := lv_entry ([.ref p0, .int p1]) (n := 2) (Nat.le_of_ble_eq_true rfl)
  rw [lg_entry_eq]
  generalize (lg_sl ([.ref p0, .int p1]) ++ List.replicate (2 - (lg_sl ([.ref p0, .int p1])).length) Slot.unset).toArray = ls at hl ⊢
  have hl : lv_has ls 2 [(0, .ref p0), (1, .int p1)] := hl
  refine nameQ (fun Q hQ => ?_)
  have hw : WD D cy GG A s wr_X10_readNew__3 wa_X10_readNew__3 Ps w0 Ps w0 s.heap [] := ⟨hT, hP, hD, va_S.rf, FR.rf, hT.1, [], (List.append_nil _).symm⟩
  refine lv_aload_n hx hb dX10_readNew_0 rfl (lv_at hl 0 rfl) ?_
  refine tk_ir (va_runV (As := []) (rest := []) ⟨hx, hb, hml, hown, hts⟩ (c_X10_isName l D cy z s.heap.size Ps w0 hw.1 p0 h_p0) (cwV 0 hts (gV tw_1344 tw_1346 ts_48 tw_15 tw_1347) rfl rfl rfl (by decide +kernel) ⟨Nat.le_of_ble_eq_true rfl, Nat.le_of_ble_eq_true rfl⟩) (tg_preV hw hK hSD hA (ci := 10) (q := (RX10, TX10, 49)) rfl h_p0 rfl) rfl rfl hl.1 rfl (lv_room (Nat.le_of_ble_eq_true rfl)) dX10_readNew_1 ⟨Nat.le_of_ble_eq_true rfl, Nat.le_of_ble_eq_true rfl⟩) hw hA (fun v_1  H locs hp_v_1 hw => ?_)
  have r_v_1 : RI v_1 0 1 := hp_v_1.1
  refine lv_if_ne (tgt := 13) hx hb dX10_readNew_4 (by decide) (fun c_4 => ?_) (fun c_4 => ?_)
  · have r_v_1 : RI v_1 1 1 := rc_neL r_v_1 rl_0 (ti_ne c_4) (by decide)
    refine lv_aload_n hx hb dX10_readNew_13 rfl (lv_at hl 0 rfl) ?_
    refine tk_ir (va_runV (As := []) (rest := []) ⟨hx, hb, hml, hown, hts⟩ (c_X10_isTaken l D cy z H.size Ps w0 hw.1 p0 h_p0) (cwV 0 hts (gV tw_1348 tw_1350 ts_49 tw_15 tw_1351) rfl rfl rfl (by decide +kernel) ⟨Nat.le_of_ble_eq_true rfl, Nat.le_of_ble_eq_true rfl⟩) (tg_preV hw hK hSD hA (ci := 10) (q := (RX10, TX10, 49)) rfl h_p0 rfl) rfl rfl hl.1 rfl (lv_room (Nat.le_of_ble_eq_true rfl)) dX10_readNew_14 ⟨Nat.le_of_ble_eq_true rfl, Nat.le_of_ble_eq_true rfl⟩) hw hA (fun v_2  H locs hp_v_2 hw => ?_)
    have r_v_2 : RI v_2 0 1 := hp_v_2.1
    refine lv_if_eq (tgt := 26) hx hb dX10_readNew_17 (by decide) (fun c_17 => ?_) (fun c_17 => ?_)
    · have r_v_2 : RI v_2 0 0 := rc_eq1 r_v_2 rl_0 (ti_eq c_17) (by decide)
      refine lv_aload_n hx hb dX10_readNew_26 rfl (lv_at hl 0 rfl) ?_
      refine tg_get (ci := 10) (ts := ty_MODEL) (C := RX10) (T := TX10) (N := 49) hx hb hts inX10 hown hK hw h_p0 rfl rfl 21 (by decide) (hts _ tw_1158) (fun _ h9 => h9) (ft := vR 42) rfl dX10_readNew_27 (fun u_3 hv_u_3 m_u_3 => ?_)
      obtain ⟨vu_3, rfl, h_vu_3⟩ := hv_u_3
      refine lv_iload_n hx hb dX10_readNew_30 rfl (lv_at hl 1 rfl) ?_
      refine lv_aload_n hx hb dX10_readNew_31 rfl (lv_at hl 0 rfl) ?_
      refine tg_get (ci := 10) (ts := ty_MODEL) (C := RX10) (T := TX10) (N := 49) hx hb hts inX10 hown hK hw h_p0 rfl rfl 12 (by decide) (hts _ tw_1149) (fun _ h9 => h9) (ft := vJ (-9223372036854775808) 9223372036854775807) rfl dX10_readNew_32 (fun u_4 hv_u_4 m_u_4 => ?_)
      obtain ⟨vu_4, rfl, r_vu_4⟩ := hv_u_4
      refine tg_last hx hb hK hw h_vu_3 rfl r_p1 (by decide) r_vu_4 (by decide) (by decide) dX10_readNew_35 (fun ws H locs hw hF9 => ?_)
      have x_TO_p0_gh := TOP.over hF9 x_TO_p0_gh (by decide)
      refine lv_aload_n hx hb dX10_readNew_36 rfl (lv_at hl 0 rfl) ?_
      refine tk_v (va_runV (As := []) (rest := []) ⟨hx, hb, hml, hown, hts⟩ (c_X10_go__1 l D cy z H.size Ps ws hw.1 p0 (gh) h_p0 x_TO_p0_gh) (cwV 0 hts (gV tw_1298 tw_1300 ts_40 tw_15 tw_1301) rfl rfl rfl (by decide +kernel) ⟨Nat.le_of_ble_eq_true rfl, Nat.le_of_ble_eq_true rfl⟩) (tg_preV hw hK hSD hA (ci := 10) (q := (RX10, TX10, 49)) rfl h_p0 rfl) rfl rfl hl.1 rfl (lv_room (Nat.le_of_ble_eq_true rfl)) dX10_readNew_37 ⟨Nat.le_of_ble_eq_true rfl, Nat.le_of_ble_eq_true rfl⟩) hw hA ⟨by decide, by decide⟩ (fun ws H locs hp_v_5 hw hF9 => ?_)
      have x_TOK_p0_gh := (hp_v_5.1)
      refine lv_iconst (v := 1) hx hb dX10_readNew_40 (by decide) ?_
      subst hQ
      exact W.zret (v := 1) hx hb hr (rfl) (fun t ht hW => ⟨⟨1, ws, rfl, ⟨⟨rl_1.to (by decide), (fun _ => trivial), (fun h0 => ⟨x_TOK_p0_gh, trivial⟩)⟩, hw.1, hw.2.2.2.2.1⟩, by rw [ht]; exact hw.2.1, va_K.moved hW.alike hK, hw.2.2.1⟩, hw.2.2.2.1.F ht⟩) hw.2.2.2.1.2.2 dX10_readNew_41
    · have r_v_2 : RI v_2 1 1 := rc_neL r_v_2 rl_0 (ti_ne c_17) (by decide)
      refine lv_aload_n hx hb dX10_readNew_20 rfl (lv_at hl 0 rfl) ?_
      refine lv_iconst (v := 3) hx hb dX10_readNew_21 (by decide) ?_
      refine tk_i (va_runV (As := [.int 3]) (rest := []) ⟨hx, hb, hml, hown, hts⟩ (c_X10_bad l D cy z H.size Ps w0 hw.1 p0 3 h_p0 (rl_3.to (by decide))) (cwV 1 hts (gV tw_1336 tw_1338 ts_46 tw_15 tw_1339) rfl rfl rfl (by decide +kernel) ⟨Nat.le_of_ble_eq_true rfl, Nat.le_of_ble_eq_true rfl⟩) (tg_preV hw hK hSD hA (ci := 10) (q := (RX10, TX10, 49)) rfl h_p0 rfl) rfl rfl hl.1 rfl (lv_room (Nat.le_of_ble_eq_true rfl)) dX10_readNew_22 ⟨Nat.le_of_ble_eq_true rfl, Nat.le_of_ble_eq_true rfl⟩) hw hA ⟨by decide, by decide⟩ (fun v_6 ws H locs hp_v_6 hw hF9 => ?_)
      have x_TO_p0_gh := TOP.over hF9 x_TO_p0_gh (by decide)
      have r_v_6 : RI v_6 0 0 := hp_v_6.1
      subst hQ
      exact W.zret (v := v_6) hx hb hr (tq_nz (r_v_6.to (by decide))) (fun t ht hW => ⟨⟨v_6, ws, rfl, ⟨⟨r_v_6.to (by decide), (fun h0 => trivial), (fun h0 => absurd (Int32.toInt_inj.mp (by have h8 := r_v_6; unfold RI at h8; rw [Int32.toInt_zero]; omega)) h0)⟩, hw.1, hw.2.2.2.2.1⟩, by rw [ht]; exact hw.2.1, va_K.moved hW.alike hK, hw.2.2.1⟩, hw.2.2.2.1.F ht⟩) hw.2.2.2.1.2.2 dX10_readNew_25
  · have r_v_1 : RI v_1 0 0 := rc_eq1 r_v_1 rl_0 (ti_eq c_4) (by decide)
    refine lv_aload_n hx hb dX10_readNew_7 rfl (lv_at hl 0 rfl) ?_
    refine lv_iconst (v := 1) hx hb dX10_readNew_8 (by decide) ?_
    refine tk_i (va_runV (As := [.int 1]) (rest := []) ⟨hx, hb, hml, hown, hts⟩ (c_X10_bad l D cy z H.size Ps w0 hw.1 p0 1 h_p0 (rl_1.to (by decide))) (cwV 1 hts (gV tw_1336 tw_1338 ts_46 tw_15 tw_1339) rfl rfl rfl (by decide +kernel) ⟨Nat.le_of_ble_eq_true rfl, Nat.le_of_ble_eq_true rfl⟩) (tg_preV hw hK hSD hA (ci := 10) (q := (RX10, TX10, 49)) rfl h_p0 rfl) rfl rfl hl.1 rfl (lv_room (Nat.le_of_ble_eq_true rfl)) dX10_readNew_9 ⟨Nat.le_of_ble_eq_true rfl, Nat.le_of_ble_eq_true rfl⟩) hw hA ⟨by decide, by decide⟩ (fun v_7 ws H locs hp_v_7 hw hF9 => ?_)
    have x_TO_p0_gh := TOP.over hF9 x_TO_p0_gh (by decide)
    have r_v_7 : RI v_7 0 0 := hp_v_7.1
    subst hQ
    exact W.zret (v := v_7) hx hb hr (tq_nz (r_v_7.to (by decide))) (fun t ht hW => ⟨⟨v_7, ws, rfl, ⟨⟨r_v_7.to (by decide), (fun h0 => trivial), (fun h0 => absurd (Int32.toInt_inj.mp (by have h8 := r_v_7; unfold RI at h8; rw [Int32.toInt_zero]; omega)) h0)⟩, hw.1, hw.2.2.2.2.1⟩, by rw [ht]; exact hw.2.1, va_K.moved hW.alike hK, hw.2.2.1⟩, hw.2.2.2.1.F ht⟩) hw.2.2.2.1.2.2 dX10_readNew_12
abbrev wr_X10_readNumber__4 : List (Nat × Nat) := [(10, 5), (10, 6), (10, 7), (10, 8), (10, 9), (10, 10), (10, 11), (10, 12), (10, 13)]
abbrev wa_X10_readNumber__4 : List Nat := []
set_option maxHeartbeats 4000000 in
set_option maxRecDepth 100000 in
theorem c_X10_readNumber__4 (l : Launch) (D : va_G) (cy : Nat → ClassId) (z : Nat → Nat) (sz : Nat) (Ps : PSI) (w0 : va_W) (hT : HT cy GG Ps w0) (p0 : Nat) (p1 : Int32) (p2 : Int32) (gh : Int) (h_p0 : (p0, 55) ∈ Ps) (r_p1 : RI p1 1 1) (r_p2 : RI p2 60 60) (x_TO_p0_gh : TOP w0 p0 (gh)) : Met l yX10_readNumber (Cond.code yX10_readNumber cX10_readNumber 3 (some .boolean) :: gT) ({ frames := 3, cells := 0, slots := 0, locals := 600 } : Room) (va_Pc [.ref p0, .int p1, .int p2] (PRE D cy z w0 sz)) (va_Qi (fun (r : Int32) (u : va_W) => (RI r 0 1 ∧ (r = 0 → True) ∧ (¬ r = 0 → (∃ v9 : Int32, FLD u p0 10 13 (.int v9) ∧ RI v9 1 60) ∧ TKP u p0 (gh) ∧ True)) ∧ HT cy GG Ps u ∧ FR wr_X10_readNumber__4 wa_X10_readNumber__4 Ps w0 u) (BB D cy (va_A w0 sz) (fun (u : va_W) => u)) (va_A w0 sz)) 0 0 (va_A w0 sz) := by
  refine Met.ofW (cc := cX10_readNumber) (maxL := 3) (ret := (some .boolean)) (by decide) rfl ?_
  intro p e s m args below meth c s₁ B hml hv
  obtain ⟨rfl, hsz, hP, hK, hD0, hSD⟩ := hv
  have hx := B.exec
  have hb := B.bytes
  have hr := B.returns
  have hlocks := B.notSynchronized
  have hts : ∀ w ∈ gT, w.before _ s = true := fun w h => atoms_spec (ws := Cond.code yX10_readNumber cX10_readNumber 3 (some .boolean) :: gT) B.pre w (List.mem_cons_of_mem _ h)
  have hown : s.vm.findClass RX10 = some m.cls := findClass_of_methodNamed B.named
  subst hsz
  have hD := hD0.self (sz := s.heap.size)
  generalize hAe : va_A w0 s.heap.size = A at hD hSD ⊢
  have hA : ∀ q : Nat, s.heap.size ≤ q → A q := fun q h => by rw [← hAe]; exact Or.inr h
  have hl := lv_entry ([.ref p0, .int p1, .int p2]) (n := 3) (Nat.le_of_ble_eq_true rfl)
  rw [lg_entry_eq]
  generalize (lg_sl ([.ref p0, .int p1, .int p2]) ++ List.replicate (3 - (lg_sl ([.ref p0, .int p1, .int p2])).length) Slot.unset).toArray = ls at hl ⊢
  have hl : lv_has ls 3 [(0, .ref p0), (1, .int p1), (2, .int p2)] := hl
  refine nameQ (fun Q hQ => ?_)
  have hw : WD D cy GG A s wr_X10_readNumber__4 wa_X10_readNumber__4 Ps w0 Ps w0 s.heap [] := ⟨hT, hP, hD, va_S.rf, FR.rf, hT.1, [], (List.append_nil _).symm⟩
  refine lv_aload_n hx hb dX10_readNumber_0 rfl (lv_at hl 0 rfl) ?_
  refine tg_get (ci := 10) (ts := ty_MODEL) (C := RX10) (T := TX10) (N := 49) hx hb hts inX10 hown hK hw h_p0 rfl rfl 7 (by decide) (hts _ tw_1144) (fun _ h9 => h9) (ft := vI (-2147483648) 2147483647) rfl dX10_readNumber_1 (fun u_1 hv_u_1 m_u_1 => ?_)
  obtain ⟨vu_1, rfl, r_vu_1⟩ := hv_u_1
  refine lv_iconst (v := 3) hx hb dX10_readNumber_4 (by decide) ?_
  refine lv_icmp_eq (tgt := 14) hx hb dX10_readNumber_5 (by decide) (fun c_5 => ?_) (fun c_5 => ?_)
  · have r_vu_1 : RI vu_1 3 3 := rc_eq1 r_vu_1 rl_3 (ti_eq c_5) (by decide)
    refine lv_aload_n hx hb dX10_readNumber_14 rfl (lv_at hl 0 rfl) ?_
    refine tg_get (ci := 10) (ts := ty_MODEL) (C := RX10) (T := TX10) (N := 49) hx hb hts inX10 hown hK hw h_p0 rfl rfl 8 (by decide) (hts _ tw_1145) (fun _ h9 => h9) (ft := vI (-2147483648) 2147483647) rfl dX10_readNumber_15 (fun u_2 hv_u_2 m_u_2 => ?_)
    obtain ⟨vu_2, rfl, r_vu_2⟩ := hv_u_2
    refine lv_iload_n hx hb dX10_readNumber_18 rfl (lv_at hl 1 rfl) ?_
    refine lv_iload_n hx hb dX10_readNumber_19 rfl (lv_at hl 2 rfl) ?_
    refine tk_ir (va_runS (As := [.int vu_2, .int p1, .int p2]) (rest := []) ⟨hx, hb, hml, hown, hts⟩ (c_X10_isIn__3 l D cy z s.heap.size Ps w0 hw.1 vu_2 p1 p2 r_vu_2 r_p1 r_p2) (va_cwS 3 hts (gS tw_1359 tw_1360 tw_15 tw_1361) rfl rfl rfl (by decide +kernel) ⟨Nat.le_of_ble_eq_true rfl, Nat.le_of_ble_eq_true rfl⟩) (tg_preS hw hK hSD hA) rfl rfl hl.1 rfl (lv_room (Nat.le_of_ble_eq_true rfl)) dX10_readNumber_20 ⟨Nat.le_of_ble_eq_true rfl, Nat.le_of_ble_eq_true rfl⟩) hw hA (fun v_3  H locs hp_v_3 hw => ?_)
    have r_v_3 : RI v_3 0 1 := hp_v_3.1
    refine lv_if_ne (tgt := 32) hx hb dX10_readNumber_23 (by decide) (fun c_23 => ?_) (fun c_23 => ?_)
    · have r_v_3 : RI v_3 1 1 := rc_neL r_v_3 rl_0 (ti_ne c_23) (by decide)
      have r_vu_2 : RI vu_2 1 60 := ((hp_v_3.2.2 c_23).1)
      refine lv_aload_n hx hb dX10_readNumber_32 rfl (lv_at hl 0 rfl) ?_
      refine lv_aload_n hx hb dX10_readNumber_33 rfl (lv_at hl 0 rfl) ?_
      refine tg_mem (ci := 10) (C := RX10) (T := TX10) (N := 49) hx hb hts inX10 hown hK hw 8 m_u_2 rfl (by decide) (hts _ tw_1145) (fun _ h9 => h9) dX10_readNumber_34 ?_
      refine tg_put (ci := 10) (ts := ty_MODEL) (v := .int vu_2) (ty := .int) (C := RX10) (T := TX10) (N := 49) hx hb hts inX10 tyX10 tyX10_ok nmX10 hown hK hw h_p0 rfl rfl 13 (by decide) (hts _ tw_1150) (fun _ h9 => h9) rfl (by decide +kernel) rfl rfl (ft := vI (-2147483648) 2147483647) rfl ⟨_, rfl, (r_vu_2.to (by decide))⟩ (by decide) dX10_readNumber_37 (fun ws H locs hw n_k_4 hF9 => ?_)
      have m_u_1 := FLD.over hF9 m_u_1 (by decide)
      have m_u_2 := FLD.over hF9 m_u_2 (by decide)
      have x_TO_p0_gh := TOP.over hF9 x_TO_p0_gh (by decide)
      refine lv_aload_n hx hb dX10_readNumber_40 rfl (lv_at hl 0 rfl) ?_
      refine tk_v (va_runV (As := []) (rest := []) ⟨hx, hb, hml, hown, hts⟩ (c_X10_go__1 l D cy z H.size Ps ws hw.1 p0 (gh) h_p0 x_TO_p0_gh) (cwV 0 hts (gV tw_1298 tw_1300 ts_40 tw_15 tw_1301) rfl rfl rfl (by decide +kernel) ⟨Nat.le_of_ble_eq_true rfl, Nat.le_of_ble_eq_true rfl⟩) (tg_preV hw hK hSD hA (ci := 10) (q := (RX10, TX10, 49)) rfl h_p0 rfl) rfl rfl hl.1 rfl (lv_room (Nat.le_of_ble_eq_true rfl)) dX10_readNumber_41 ⟨Nat.le_of_ble_eq_true rfl, Nat.le_of_ble_eq_true rfl⟩) hw hA ⟨by decide, by decide⟩ (fun ws H locs hp_v_5 hw hF9 => ?_)
      have n_k_4 := FLD.over hF9 n_k_4 (by decide)
      have x_TOK_p0_gh := (hp_v_5.1)
      refine lv_iconst (v := 1) hx hb dX10_readNumber_44 (by decide) ?_
      subst hQ
      exact W.zret (v := 1) hx hb hr (rfl) (fun t ht hW => ⟨⟨1, ws, rfl, ⟨⟨rl_1.to (by decide), (fun _ => trivial), (fun h0 => ⟨⟨_, n_k_4, r_vu_2⟩, x_TOK_p0_gh, trivial⟩)⟩, hw.1, hw.2.2.2.2.1⟩, by rw [ht]; exact hw.2.1, va_K.moved hW.alike hK, hw.2.2.1⟩, hw.2.2.2.1.F ht⟩) hw.2.2.2.1.2.2 dX10_readNumber_45
    · have r_v_3 : RI v_3 0 0 := rc_eq1 r_v_3 rl_0 (ti_eq c_23) (by decide)
      refine lv_aload_n hx hb dX10_readNumber_26 rfl (lv_at hl 0 rfl) ?_
      refine lv_iconst (v := 2) hx hb dX10_readNumber_27 (by decide) ?_
      refine tk_i (va_runV (As := [.int 2]) (rest := []) ⟨hx, hb, hml, hown, hts⟩ (c_X10_bad l D cy z H.size Ps w0 hw.1 p0 2 h_p0 (rl_2.to (by decide))) (cwV 1 hts (gV tw_1336 tw_1338 ts_46 tw_15 tw_1339) rfl rfl rfl (by decide +kernel) ⟨Nat.le_of_ble_eq_true rfl, Nat.le_of_ble_eq_true rfl⟩) (tg_preV hw hK hSD hA (ci := 10) (q := (RX10, TX10, 49)) rfl h_p0 rfl) rfl rfl hl.1 rfl (lv_room (Nat.le_of_ble_eq_true rfl)) dX10_readNumber_28 ⟨Nat.le_of_ble_eq_true rfl, Nat.le_of_ble_eq_true rfl⟩) hw hA ⟨by decide, by decide⟩ (fun v_6 ws H locs hp_v_6 hw hF9 => ?_)
      have m_u_1 := FLD.over hF9 m_u_1 (by decide)
      have m_u_2 := FLD.over hF9 m_u_2 (by decide)
      have x_TO_p0_gh := TOP.over hF9 x_TO_p0_gh (by decide)
      have r_v_6 : RI v_6 0 0 := hp_v_6.1
      subst hQ
      exact W.zret (v := v_6) hx hb hr (tq_nz (r_v_6.to (by decide))) (fun t ht hW => ⟨⟨v_6, ws, rfl, ⟨⟨r_v_6.to (by decide), (fun h0 => trivial), (fun h0 => absurd (Int32.toInt_inj.mp (by have h8 := r_v_6; unfold RI at h8; rw [Int32.toInt_zero]; omega)) h0)⟩, hw.1, hw.2.2.2.2.1⟩, by rw [ht]; exact hw.2.1, va_K.moved hW.alike hK, hw.2.2.1⟩, hw.2.2.2.1.F ht⟩) hw.2.2.2.1.2.2 dX10_readNumber_31
  · refine lv_aload_n hx hb dX10_readNumber_8 rfl (lv_at hl 0 rfl) ?_
    refine lv_iconst (v := 1) hx hb dX10_readNumber_9 (by decide) ?_
    refine tk_i (va_runV (As := [.int 1]) (rest := []) ⟨hx, hb, hml, hown, hts⟩ (c_X10_bad l D cy z s.heap.size Ps w0 hw.1 p0 1 h_p0 (rl_1.to (by decide))) (cwV 1 hts (gV tw_1336 tw_1338 ts_46 tw_15 tw_1339) rfl rfl rfl (by decide +kernel) ⟨Nat.le_of_ble_eq_true rfl, Nat.le_of_ble_eq_true rfl⟩) (tg_preV hw hK hSD hA (ci := 10) (q := (RX10, TX10, 49)) rfl h_p0 rfl) rfl rfl hl.1 rfl (lv_room (Nat.le_of_ble_eq_true rfl)) dX10_readNumber_10 ⟨Nat.le_of_ble_eq_true rfl, Nat.le_of_ble_eq_true rfl⟩) hw hA ⟨by decide, by decide⟩ (fun v_7 ws H locs hp_v_7 hw hF9 => ?_)
    have m_u_1 := FLD.over hF9 m_u_1 (by decide)
    have x_TO_p0_gh := TOP.over hF9 x_TO_p0_gh (by decide)
    have r_v_7 : RI v_7 0 0 := hp_v_7.1
    subst hQ
    exact W.zret (v := v_7) hx hb hr (tq_nz (r_v_7.to (by decide))) (fun t ht hW => ⟨⟨v_7, ws, rfl, ⟨⟨r_v_7.to (by decide), (fun h0 => trivial), (fun h0 => absurd (Int32.toInt_inj.mp (by have h8 := r_v_7; unfold RI at h8; rw [Int32.toInt_zero]; omega)) h0)⟩, hw.1, hw.2.2.2.2.1⟩, by rw [ht]; exact hw.2.1, va_K.moved hW.alike hK, hw.2.2.1⟩, hw.2.2.2.1.F ht⟩) hw.2.2.2.1.2.2 dX10_readNumber_13
abbrev wr_X10_put__14 : List (Nat × Nat) := []
abbrev wa_X10_put__14 : List Nat := []
set_option maxHeartbeats 4000000 in
set_option maxRecDepth 100000 in
theorem c_X10_put__14 (l : Launch) (D : va_G) (cy : Nat → ClassId) (z : Nat → Nat) (sz : Nat) (Ps : PSI) (w0 : va_W) (hT : HT cy GG Ps w0) (p0 : Nat) (p1 : Int32) (p2 : Int32) (F : (Nat → Int32) → Prop) (F2 : (Nat → Int32) → Prop) (h_p0 : (p0, 55) ∈ Ps) (r_p1 : RI p1 6 11) (r_p2 : RI p2 0 0) (x_F : AX 15 35 F Ps w0 p0) (hF : ∀ (f : Nat → Int32) (v : Int32), RI v (-2147483648) 2147483647 → F f → F2 (upd f (Int32.toNatClampNeg p1) v)) : Met l yX10_put (Cond.code yX10_put cX10_put 3 (some .boolean) :: gT) ({ frames := 0, cells := 0, slots := 0, locals := 200 } : Room) (va_Pc [.ref p0, .int p1, .int p2] (PRE D cy z w0 sz)) (va_Qi (fun (r : Int32) (u : Unit) => RI r 0 0 ∧ (r = 0 → AX 15 35 F Ps w0 p0 ∧ True) ∧ (¬ r = 0 → AX 15 35 F2 Ps w0 p0 ∧ True)) (BB D cy (va_A w0 sz) (fun (u : Unit) => w0)) (va_A w0 sz)) 0 0 (va_A w0 sz) := by
  refine Met.ofW (cc := cX10_put) (maxL := 3) (ret := (some .boolean)) (by decide) rfl ?_
  intro p e s m args below meth c s₁ B hml hv
  obtain ⟨rfl, hsz, hP, hK, hD0, hSD⟩ := hv
  have hx := B.exec
  have hb := B.bytes
  have hr := B.returns
  have hlocks := B.notSynchronized
  have hts : ∀ w ∈ gT, w.before _ s = true := fun w h => atoms_spec (ws := Cond.code yX10_put cX10_put 3 (some .boolean) :: gT) B.pre w (List.mem_cons_of_mem _ h)
  have hown : s.vm.findClass RX10 = some m.cls := findClass_of_methodNamed B.named
  subst hsz
  have hD := hD0.self (sz := s.heap.size)
  generalize hAe : va_A w0 s.heap.size = A at hD hSD ⊢
  have hA : ∀ q : Nat, s.heap.size ≤ q → A q := fun q h => by rw [← hAe]; exact Or.inr h
  have hl := lv_entry ([.ref p0, .int p1, .int p2]) (n := 3) (Nat.le_of_ble_eq_true rfl)
  rw [lg_entry_eq]
  generalize (lg_sl ([.ref p0, .int p1, .int p2]) ++ List.replicate (3 - (lg_sl ([.ref p0, .int p1, .int p2])).length) Slot.unset).toArray = ls at hl ⊢
  have hl : lv_has ls 3 [(0, .ref p0), (1, .int p1), (2, .int p2)] := hl
  refine nameQ (fun Q hQ => ?_)
  have hw : WD D cy GG A s wr_X10_put__14 wa_X10_put__14 Ps w0 Ps w0 s.heap [] := ⟨hT, hP, hD, va_S.rf, FR.rf, hT.1, [], (List.append_nil _).symm⟩
  refine lv_iload_n hx hb dX10_put_0 rfl (lv_at hl 2 rfl) ?_
  refine lv_if_eq (tgt := 14) hx hb dX10_put_1 (by decide) (fun c_1 => ?_) (fun c_1 => ?_)
  · refine lv_iload_n hx hb dX10_put_14 rfl (lv_at hl 2 rfl) ?_
    subst hQ
    exact W.zret (v := p2) hx hb hr (tq_nz (r_p2.to (by decide))) (fun t ht hW => ⟨⟨p2, (), rfl, ⟨r_p2.to (by decide), (fun h0 => ⟨x_F, trivial⟩), (fun h0 => absurd (Int32.toInt_inj.mp (by have h8 := r_p2; unfold RI at h8; rw [Int32.toInt_zero]; omega)) h0)⟩, by rw [ht]; exact hw.2.1, va_K.moved hW.alike hK, hw.2.2.1⟩, hw.2.2.2.1.F ht⟩) hw.2.2.2.1.2.2 dX10_put_15
  · exact absurd (r_p2.eq.trans rl_0.eq.symm) ((ti_ne c_1))
abbrev wr_X10_put__15 : List (Nat × Nat) := []
abbrev wa_X10_put__15 : List Nat := [35]
set_option maxHeartbeats 4000000 in
set_option maxRecDepth 100000 in
theorem c_X10_put__15 (l : Launch) (D : va_G) (cy : Nat → ClassId) (z : Nat → Nat) (sz : Nat) (Ps : PSI) (w0 : va_W) (hT : HT cy GG Ps w0) (p0 : Nat) (p1 : Int32) (p2 : Int32) (f0_13 : Int32) (F : (Nat → Int32) → Prop) (F2 : (Nat → Int32) → Prop) (h_p0 : (p0, 55) ∈ Ps) (r_p1 : RI p1 6 11) (r_p2 : RI p2 1 1) (r_f0_13 : RI f0_13 1 60) (m_f0_13 : FLD w0 p0 10 13 (.int f0_13)) (x_F : AX 15 35 F Ps w0 p0) (hF : ∀ (f : Nat → Int32) (v : Int32), RI v 1 60 → F f → F2 (upd f (Int32.toNatClampNeg p1) v)) : Met l yX10_put (Cond.code yX10_put cX10_put 3 (some .boolean) :: gT) ({ frames := 0, cells := 0, slots := 0, locals := 200 } : Room) (va_Pc [.ref p0, .int p1, .int p2] (PRE D cy z w0 sz)) (va_Qi (fun (r : Int32) (u : va_W) => (RI r 1 1 ∧ (r = 0 → AX 15 35 F Ps u p0 ∧ True) ∧ (¬ r = 0 → (∃ v9 : Int32, FLD u p0 10 13 (.int v9) ∧ RI v9 1 60) ∧ AX 15 35 F2 Ps u p0 ∧ True)) ∧ HT cy GG Ps u ∧ FR wr_X10_put__15 wa_X10_put__15 Ps w0 u) (BB D cy (va_A w0 sz) (fun (u : va_W) => u)) (va_A w0 sz)) 0 0 (va_A w0 sz) := by
  refine Met.ofW (cc := cX10_put) (maxL := 3) (ret := (some .boolean)) (by decide) rfl ?_
  intro p e s m args below meth c s₁ B hml hv
  obtain ⟨rfl, hsz, hP, hK, hD0, hSD⟩ := hv
  have hx := B.exec
  have hb := B.bytes
  have hr := B.returns
  have hlocks := B.notSynchronized
  have hts : ∀ w ∈ gT, w.before _ s = true := fun w h => atoms_spec (ws := Cond.code yX10_put cX10_put 3 (some .boolean) :: gT) B.pre w (List.mem_cons_of_mem _ h)
  have hown : s.vm.findClass RX10 = some m.cls := findClass_of_methodNamed B.named
  subst hsz
  have hD := hD0.self (sz := s.heap.size)
  generalize hAe : va_A w0 s.heap.size = A at hD hSD ⊢
  have hA : ∀ q : Nat, s.heap.size ≤ q → A q := fun q h => by rw [← hAe]; exact Or.inr h
  have hl := lv_entry ([.ref p0, .int p1, .int p2]) (n := 3) (Nat.le_of_ble_eq_true rfl)
  rw [lg_entry_eq]
  generalize (lg_sl ([.ref p0, .int p1, .int p2]) ++ List.replicate (3 - (lg_sl ([.ref p0, .int p1, .int p2])).length) Slot.unset).toArray = ls at hl ⊢
  have hl : lv_has ls 3 [(0, .ref p0), (1, .int p1), (2, .int p2)] := hl
  refine nameQ (fun Q hQ => ?_)
  have hw : WD D cy GG A s wr_X10_put__15 wa_X10_put__15 Ps w0 Ps w0 s.heap [] := ⟨hT, hP, hD, va_S.rf, FR.rf, hT.1, [], (List.append_nil _).symm⟩
  refine lv_iload_n hx hb dX10_put_0 rfl (lv_at hl 2 rfl) ?_
  refine lv_if_eq (tgt := 14) hx hb dX10_put_1 (by decide) (fun c_1 => ?_) (fun c_1 => ?_)
  · have r_p2 : RI p2 1 0 := rc_eq1 r_p2 rl_0 (ti_eq c_1) (by decide)
    exact (r_p2.no (by decide)).elim
  · refine lv_aload_n hx hb dX10_put_4 rfl (lv_at hl 0 rfl) ?_
    refine tg_get (ci := 10) (ts := ty_MODEL) (C := RX10) (T := TX10) (N := 49) hx hb hts inX10 hown hK hw h_p0 rfl rfl 15 (by decide) (hts _ tw_1152) (fun _ h9 => h9) (ft := vR 35) rfl dX10_put_5 (fun u_1 hv_u_1 m_u_1 => ?_)
    obtain ⟨vu_1, rfl, h_vu_1⟩ := hv_u_1
    refine lv_iload_n hx hb dX10_put_8 rfl (lv_at hl 1 rfl) ?_
    refine lv_aload_n hx hb dX10_put_9 rfl (lv_at hl 0 rfl) ?_
    refine tg_mem (ci := 10) (C := RX10) (T := TX10) (N := 49) hx hb hts inX10 hown hK hw 13 m_f0_13 rfl (by decide) (hts _ tw_1150) (fun _ h9 => h9) dX10_put_10 ?_
    refine tg_iast hx hb hK hw h_vu_1 rfl 6 11 r_p1 (by decide) r_f0_13 (by decide +kernel) (fun _ _ _ _ _ => trivial) (by decide) dX10_put_13 (fun ws H locs hw hF9 hU9 => ?_)
    have x_GFRB_p0 : AX 15 35 F2 Ps ws p0 := AX.ast hF9 hU9 x_F m_u_1 (fun f9 h9 => hF f9 _ r_f0_13 h9)
    have m_f0_13 := FLD.over hF9 m_f0_13 (by decide)
    refine lv_iload_n hx hb dX10_put_14 rfl (lv_at hl 2 rfl) ?_
    subst hQ
    exact W.zret (v := p2) hx hb hr (tq_nz (r_p2.to (by decide))) (fun t ht hW => ⟨⟨p2, ws, rfl, ⟨⟨r_p2.to (by decide), (fun h0 => absurd (ti_eq h0) (by have h8 := r_p2; unfold RI at h8; rw [Int32.toInt_zero]; omega)), (fun h0 => ⟨⟨_, m_f0_13, r_f0_13⟩, x_GFRB_p0, trivial⟩)⟩, hw.1, hw.2.2.2.2.1⟩, by rw [ht]; exact hw.2.1, va_K.moved hW.alike hK, hw.2.2.1⟩, hw.2.2.2.1.F ht⟩) hw.2.2.2.1.2.2 dX10_put_15
abbrev wr_X10_readNewIdea : List (Nat × Nat) := [(10, 5), (10, 6), (10, 7), (10, 8), (10, 9), (10, 10), (10, 11), (10, 12), (10, 13)]
abbrev wa_X10_readNewIdea : List Nat := [35, 42]
set_option maxHeartbeats 4000000 in
set_option maxRecDepth 100000 in
theorem c_X10_readNewIdea (l : Launch) (D : va_G) (cy : Nat → ClassId) (z : Nat → Nat) (sz : Nat) (Ps : PSI) (w0 : va_W) (hT : HT cy GG Ps w0) (p0 : Nat) (gh : Int) (h_p0 : (p0, 55) ∈ Ps) (x_TO_p0_gh : TOP w0 p0 (gh)) (x_RH_p0 : AX 15 35 (fun f => RH2p f) Ps w0 p0) : Met l yX10_readNewIdea (Cond.code yX10_readNewIdea cX10_readNewIdea 2 (some .boolean) :: gT) ({ frames := 5, cells := 0, slots := 0, locals := 1000 } : Room) (va_Pc [.ref p0] (PRE D cy z w0 sz)) (va_Qi (fun (r : Int32) (u : va_W) => (RI r 0 1 ∧ (r = 0 → True) ∧ (¬ r = 0 → (∃ v9 : Int32, FLD u p0 10 13 (.int v9) ∧ RI v9 1 60) ∧ TKP u p0 (gh) ∧ AX 15 35 (fun f => RH2p f) Ps u p0 ∧ True)) ∧ HT cy GG Ps u ∧ FR wr_X10_readNewIdea wa_X10_readNewIdea Ps w0 u) (BB D cy (va_A w0 sz) (fun (u : va_W) => u)) (va_A w0 sz)) 0 0 (va_A w0 sz) := by
  refine Met.ofW (cc := cX10_readNewIdea) (maxL := 2) (ret := (some .boolean)) (by decide) rfl ?_
  intro p e s m args below meth c s₁ B hml hv
  obtain ⟨rfl, hsz, hP, hK, hD0, hSD⟩ := hv
  have hx := B.exec
  have hb := B.bytes
  have hr := B.returns
  have hlocks := B.notSynchronized
  have hts : ∀ w ∈ gT, w.before _ s = true := fun w h => atoms_spec (ws := Cond.code yX10_readNewIdea cX10_readNewIdea 2 (some .boolean) :: gT) B.pre w (List.mem_cons_of_mem _ h)
  have hown : s.vm.findClass RX10 = some m.cls := findClass_of_methodNamed B.named
  subst hsz
  have hD := hD0.self (sz := s.heap.size)
  generalize hAe : va_A w0 s.heap.size = A at hD hSD ⊢
  have hA : ∀ q : Nat, s.heap.size ≤ q → A q := fun q h => by rw [← hAe]; exact Or.inr h
  have hl := lv_entry ([.ref p0]) (n := 2) (Nat.le_of_ble_eq_true rfl)
  rw [lg_entry_eq]
  generalize (lg_sl ([.ref p0]) ++ List.replicate (2 - (lg_sl ([.ref p0])).length) Slot.unset).toArray = ls at hl ⊢
  have hl : lv_has ls 2 [(0, .ref p0)] := hl
  refine nameQ (fun Q hQ => ?_)
  have hw : WD D cy GG A s wr_X10_readNewIdea wa_X10_readNewIdea Ps w0 Ps w0 s.heap [] := ⟨hT, hP, hD, va_S.rf, FR.rf, hT.1, [], (List.append_nil _).symm⟩
  refine lv_aload_n hx hb dX10_readNewIdea_0 rfl (lv_at hl 0 rfl) ?_
  refine lv_iconst (v := 0) hx hb dX10_readNewIdea_1 (by decide) ?_
  refine lv_bipush (v := 6) hx hb dX10_readNewIdea_2 (by decide) ?_
  refine tk_i (va_runV (As := [.int 0, .int 6]) (rest := []) ⟨hx, hb, hml, hown, hts⟩ (c_X10_readFirst__3 l D cy z s.heap.size Ps w0 hw.1 p0 0 6 (gh) h_p0 rl_0 rl_6 x_TO_p0_gh) (cwV 2 hts (gV tw_1332 tw_1334 ts_45 tw_15 tw_1335) rfl rfl rfl (by decide +kernel) ⟨Nat.le_of_ble_eq_true rfl, Nat.le_of_ble_eq_true rfl⟩) (tg_preV hw hK hSD hA (ci := 10) (q := (RX10, TX10, 49)) rfl h_p0 rfl) rfl rfl hl.1 rfl (lv_room (Nat.le_of_ble_eq_true rfl)) dX10_readNewIdea_4 ⟨Nat.le_of_ble_eq_true rfl, Nat.le_of_ble_eq_true rfl⟩) hw hA ⟨by decide, by decide⟩ (fun v_1 ws H locs hp_v_1 hw hF9 => ?_)
  have x_RH_p0 := AX.over hF9 x_RH_p0 (by decide)
  have r_v_1 : RI v_1 0 1 := hp_v_1.1
  by_cases c9_v_1 : v_1 = 0
  · have r_v_1 : RI v_1 0 0 := by rw [c9_v_1]; exact rl_0
    refine lv_if_ne (tgt := 12) hx hb dX10_readNewIdea_7 (by decide) (fun c_7 => ?_) (fun c_7 => ?_)
    · exact absurd (r_v_1.eq.trans rl_0.eq.symm) ((ti_ne c_7))
    · refine lv_iconst (v := 0) hx hb dX10_readNewIdea_10 (by decide) ?_
      subst hQ
      exact W.zret (v := 0) hx hb hr (rfl) (fun t ht hW => ⟨⟨0, ws, rfl, ⟨⟨rl_0.to (by decide), (fun h0 => trivial), (fun h0 => absurd rfl h0)⟩, hw.1, hw.2.2.2.2.1⟩, by rw [ht]; exact hw.2.1, va_K.moved hW.alike hK, hw.2.2.1⟩, hw.2.2.2.1.F ht⟩) hw.2.2.2.1.2.2 dX10_readNewIdea_11
  · have r_v_1 : RI v_1 1 1 := rc_neL r_v_1 rl_0 (ti_ne c9_v_1) (by decide)
    have x_TOK_p0_gh := ((hp_v_1.2.2 c9_v_1).1)
    have x_RLT_p0_0_6 := ((hp_v_1.2.2 c9_v_1).2.1)
    refine lv_if_ne (tgt := 12) hx hb dX10_readNewIdea_7 (by decide) (fun c_7 => ?_) (fun c_7 => ?_)
    · refine lv_aload_n hx hb dX10_readNewIdea_12 rfl (lv_at hl 0 rfl) ?_
      refine tg_get (ci := 10) (ts := ty_MODEL) (C := RX10) (T := TX10) (N := 49) hx hb hts inX10 hown hK hw h_p0 rfl rfl 15 (by decide) (hts _ tw_1152) (fun _ h9 => h9) (ft := vR 35) rfl dX10_readNewIdea_13 (fun u_2 hv_u_2 m_u_2 => ?_)
      obtain ⟨vu_2, rfl, h_vu_2⟩ := hv_u_2
      refine lv_iconst (v := 0) hx hb dX10_readNewIdea_16 (by decide) ?_
      refine tg_iald (lo := 0) (hi := 6) hx hb hK hw h_vu_2 rfl 0 0 rl_0 (by decide) (by decide +kernel) dX10_readNewIdea_17 (fun v_3 r_v_3 m_v_3 o_v_3 => ?_)
      have r_v_3 : RI v_3 0 5 := by obtain ⟨f9, h9, q9, g9⟩ := AX.use hw x_RLT_p0_0_6 h_vu_2 rfl m_u_2; have e9 := g9 _ _ m_v_3; have j9 : Int32.toNatClampNeg 0 = 0 := (by decide); rw [j9] at e9; have h8 : (f9 0).toInt < 6 := h9; rw [e9] at h8; exact ⟨r_v_3.1, by omega⟩
      refine lv_istore_n (lv' := [(1, .int v_3), (0, .ref p0)]) hx hb dX10_readNewIdea_18 rfl hl (by decide) rfl (fun ls hl => ?_)
      have x_EQ0_p0_v_3 : AX 15 35 (fun f => f 0 = v_3) Ps ws p0 := AX.mk hw h_vu_2 rfl m_u_2 (fun f9 g9 _ => by have e9 := g9 _ _ m_v_3; have j9 : Int32.toNatClampNeg 0 = 0 := (by decide); rw [j9] at e9; exact e9)
      refine lv_aload_n hx hb dX10_readNewIdea_19 rfl (lv_at hl 1 rfl) ?_
      refine lv_iload_n hx hb dX10_readNewIdea_20 rfl (lv_at hl 0 rfl) ?_
      have x_TO_p0_gh : TOP ws p0 (gh) := TKP.top x_TOK_p0_gh
      have hw8 := hw
      refine tk_i (va_runV (As := [.int v_3]) (rest := []) ⟨hx, hb, hml, hown, hts⟩ (c_X10_readNew__3 l D cy z H.size Ps ws hw.1 p0 v_3 (gh) h_p0 r_v_3 x_TO_p0_gh) (cwV 1 hts (gV tw_1340 tw_1342 ts_47 tw_15 tw_1343) rfl rfl rfl (by decide +kernel) ⟨Nat.le_of_ble_eq_true rfl, Nat.le_of_ble_eq_true rfl⟩) (tg_preV hw hK hSD hA (ci := 10) (q := (RX10, TX10, 49)) rfl h_p0 rfl) rfl rfl hl.1 rfl (lv_room (Nat.le_of_ble_eq_true rfl)) dX10_readNewIdea_21 ⟨Nat.le_of_ble_eq_true rfl, Nat.le_of_ble_eq_true rfl⟩) hw hA ⟨by decide, by decide⟩ (fun v_4 ws H locs hp_v_4 hw hF9 => ?_)
      have m_v_3 := AEL.over hw8 hF9 h_vu_2 m_v_3 (by decide)
      have m_u_2 := FLD.over hF9 m_u_2 (by decide)
      have x_RH_p0 := AX.over hF9 x_RH_p0 (by decide)
      have x_RLT_p0_0_6 := AX.over hF9 x_RLT_p0_0_6 (by decide)
      have x_EQ0_p0_v_3 := AX.over hF9 x_EQ0_p0_v_3 (by decide)
      have r_v_4 : RI v_4 0 1 := hp_v_4.1
      by_cases c9_v_4 : v_4 = 0
      · have r_v_4 : RI v_4 0 0 := by rw [c9_v_4]; exact rl_0
        refine lv_if_eq (tgt := 45) hx hb dX10_readNewIdea_24 (by decide) (fun c_24 => ?_) (fun c_24 => ?_)
        · refine lv_iconst (v := 0) hx hb dX10_readNewIdea_45 (by decide) ?_
          subst hQ
          exact W.zret (v := 0) hx hb hr (rfl) (fun t ht hW => ⟨⟨0, ws, rfl, ⟨⟨rl_0.to (by decide), (fun h0 => trivial), (fun h0 => absurd rfl h0)⟩, hw.1, hw.2.2.2.2.1⟩, by rw [ht]; exact hw.2.1, va_K.moved hW.alike hK, hw.2.2.1⟩, hw.2.2.2.1.F ht⟩) hw.2.2.2.1.2.2 dX10_readNewIdea_46
        · exact absurd (r_v_4.eq.trans rl_0.eq.symm) ((ti_ne c_24))
      · have r_v_4 : RI v_4 1 1 := rc_neL r_v_4 rl_0 (ti_ne c9_v_4) (by decide)
        have x_TOK_p0_gh := ((hp_v_4.2.2 c9_v_4).1)
        refine lv_if_eq (tgt := 45) hx hb dX10_readNewIdea_24 (by decide) (fun c_24 => ?_) (fun c_24 => ?_)
        · have r_v_4 : RI v_4 1 0 := rc_eq1 r_v_4 rl_0 (ti_eq c_24) (by decide)
          exact (r_v_4.no (by decide)).elim
        · refine lv_aload_n hx hb dX10_readNewIdea_27 rfl (lv_at hl 1 rfl) ?_
          refine lv_bipush (v := 6) hx hb dX10_readNewIdea_28 (by decide) ?_
          refine lv_iload_n hx hb dX10_readNewIdea_30 rfl (lv_at hl 0 rfl) ?_
          refine lv_iadd hx hb dX10_readNewIdea_31 (lv_topi (fun v_5 e_v_5 => ?_))
          obtain ⟨t_v_5, r_v_5⟩ := tq_add (lo := 6) (hi := 11) rl_6 r_v_3 (by decide +kernel) e_v_5
          have t_v_5 : v_5.toInt = 6 + v_3.toInt := t_v_5
          refine lv_aload_n hx hb dX10_readNewIdea_32 rfl (lv_at hl 1 rfl) ?_
          refine lv_iconst (v := 1) hx hb dX10_readNewIdea_33 (by decide) ?_
          refine lv_bipush (v := 60) hx hb dX10_readNewIdea_34 (by decide) ?_
          have x_TO_p0_gh : TOP ws p0 (gh) := TKP.top x_TOK_p0_gh
          have hw8 := hw
          refine tk_i (va_runV (As := [.int 1, .int 60]) (rest := [.int v_5, .ref p0]) ⟨hx, hb, hml, hown, hts⟩ (c_X10_readNumber__4 l D cy z H.size Ps ws hw.1 p0 1 60 (gh) h_p0 rl_1 rl_60 x_TO_p0_gh) (cwV 2 hts (gV tw_1355 tw_1357 ts_50 tw_15 tw_1358) rfl rfl rfl (by decide +kernel) ⟨Nat.le_of_ble_eq_true rfl, Nat.le_of_ble_eq_true rfl⟩) (tg_preV hw hK hSD hA (ci := 10) (q := (RX10, TX10, 49)) rfl h_p0 rfl) rfl rfl hl.1 rfl (lv_room (Nat.le_of_ble_eq_true rfl)) dX10_readNewIdea_36 ⟨Nat.le_of_ble_eq_true rfl, Nat.le_of_ble_eq_true rfl⟩) hw hA ⟨by decide, by decide⟩ (fun v_6 ws H locs hp_v_6 hw hF9 => ?_)
          have m_v_3 := AEL.over hw8 hF9 h_vu_2 m_v_3 (by decide)
          have m_u_2 := FLD.over hF9 m_u_2 (by decide)
          have x_RH_p0 := AX.over hF9 x_RH_p0 (by decide)
          have x_RLT_p0_0_6 := AX.over hF9 x_RLT_p0_0_6 (by decide)
          have x_EQ0_p0_v_3 := AX.over hF9 x_EQ0_p0_v_3 (by decide)
          have r_v_6 : RI v_6 0 1 := hp_v_6.1
          by_cases c9_v_6 : v_6 = 0
          · have r_v_6 : RI v_6 0 0 := by rw [c9_v_6]; exact rl_0
            refine tk_ir (va_runV (As := [.int v_5, .int v_6]) (rest := []) ⟨hx, hb, hml, hown, hts⟩ (c_X10_put__14 l D cy z H.size Ps ws hw.1 p0 v_5 v_6 (fun f => RH2p f ∧ (f (Int32.toNatClampNeg 0)).toInt < Int32.toInt 6 ∧ f 0 = v_3 ∧ True) (fun f => (f (Int32.toNatClampNeg 0)).toInt < Int32.toInt 6 ∧ f 0 = v_3 ∧ True) h_p0 r_v_5 r_v_6 (AX.and hw x_RH_p0 (AX.and hw x_RLT_p0_0_6 (AX.and hw x_EQ0_p0_v_3 (rx_true hw h_p0)))) (fun f9 v9 hv9 H9 => ⟨(have h9 := H9.2.1; by show _ < _; rw [pk_un (by have k4 := r_v_5.cl (by decide); have k5 := r_v_5; unfold RI at k5; have k6 : Int32.toNatClampNeg 0 = 0 := (by decide); omega)]; exact h9), (have h9 := H9.2.2.1; by show _ = _; rw [pk_un (by have k4 := r_v_5.cl (by decide); have k5 := r_v_5; unfold RI at k5; omega)]; exact h9), trivial⟩)) (cwV 2 hts (gV tw_1362 tw_1364 ts_51 tw_15 tw_1365) rfl rfl rfl (by decide +kernel) ⟨Nat.le_of_ble_eq_true rfl, Nat.le_of_ble_eq_true rfl⟩) (tg_preV hw hK hSD hA (ci := 10) (q := (RX10, TX10, 49)) rfl h_p0 rfl) rfl rfl hl.1 rfl (lv_room (Nat.le_of_ble_eq_true rfl)) dX10_readNewIdea_39 ⟨Nat.le_of_ble_eq_true rfl, Nat.le_of_ble_eq_true rfl⟩) hw hA (fun v_7  H locs hp_v_7 hw => ?_)
            have r_v_7 : RI v_7 0 0 := hp_v_7.1
            by_cases c9_v_7 : v_7 = 0
            · have r_v_7 : RI v_7 0 0 := by rw [c9_v_7]; exact rl_0
              have x_RH_p0 : AX 15 35 (fun f => RH2p f) Ps ws p0 := AX.imp ((hp_v_7.2.1 c9_v_7).1) (fun _ h9 => h9.1)
              have x_RLT_p0_0_6 : AX 15 35 (fun f => (f (Int32.toNatClampNeg 0)).toInt < Int32.toInt 6) Ps ws p0 := AX.imp ((hp_v_7.2.1 c9_v_7).1) (fun _ h9 => h9.2.1)
              have x_EQ0_p0_v_3 : AX 15 35 (fun f => f 0 = v_3) Ps ws p0 := AX.imp ((hp_v_7.2.1 c9_v_7).1) (fun _ h9 => h9.2.2.1)
              refine lv_if_ne (tgt := 47) hx hb dX10_readNewIdea_42 (by decide) (fun c_42 => ?_) (fun c_42 => ?_)
              · exact absurd (r_v_7.eq.trans rl_0.eq.symm) ((ti_ne c_42))
              · refine lv_iconst (v := 0) hx hb dX10_readNewIdea_45 (by decide) ?_
                subst hQ
                exact W.zret (v := 0) hx hb hr (rfl) (fun t ht hW => ⟨⟨0, ws, rfl, ⟨⟨rl_0.to (by decide), (fun h0 => trivial), (fun h0 => absurd rfl h0)⟩, hw.1, hw.2.2.2.2.1⟩, by rw [ht]; exact hw.2.1, va_K.moved hW.alike hK, hw.2.2.1⟩, hw.2.2.2.1.F ht⟩) hw.2.2.2.1.2.2 dX10_readNewIdea_46
            · exact absurd (Int32.toInt_inj.mp (by rw [Int32.toInt_zero]; unfold RI at r_v_7; omega)) c9_v_7
          · have r_v_6 : RI v_6 1 1 := rc_neL r_v_6 rl_0 (ti_ne c9_v_6) (by decide)
            obtain ⟨v_8, m_v_8, r_v_8⟩ := ((hp_v_6.2.2 c9_v_6).1)
            have x_TOK_p0_gh := ((hp_v_6.2.2 c9_v_6).2.1)
            have hw8 := hw
            refine tk_i (va_runV (As := [.int v_5, .int v_6]) (rest := []) ⟨hx, hb, hml, hown, hts⟩ (c_X10_put__15 l D cy z H.size Ps ws hw.1 p0 v_5 v_6 v_8 (fun f => RH2p f ∧ (f (Int32.toNatClampNeg 0)).toInt < Int32.toInt 6 ∧ f 0 = v_3 ∧ True) (fun f => RH2p f ∧ (f (Int32.toNatClampNeg 0)).toInt < Int32.toInt 6 ∧ f 0 = v_3 ∧ 1 ≤ (f (6 + Int32.toNatClampNeg v_3)).toInt ∧ True) h_p0 r_v_5 r_v_6 r_v_8 m_v_8 (AX.and hw x_RH_p0 (AX.and hw x_RLT_p0_0_6 (AX.and hw x_EQ0_p0_v_3 (rx_true hw h_p0)))) (fun f9 v9 hv9 H9 => ⟨(have h9 := H9.1; RH_put h9 (Int.le_trans (by decide) hv9.1) (by have k4 := r_v_5.cl (by decide); have k5 := r_v_5; unfold RI at k5; omega)), (have h9 := H9.2.1; by show _ < _; rw [pk_un (by have k4 := r_v_5.cl (by decide); have k5 := r_v_5; unfold RI at k5; have k6 : Int32.toNatClampNeg 0 = 0 := (by decide); omega)]; exact h9), (have h9 := H9.2.2.1; by show _ = _; rw [pk_un (by have k4 := r_v_5.cl (by decide); have k5 := r_v_5; unfold RI at k5; omega)]; exact h9), (by have k4 : Int32.toNatClampNeg v_5 = 6 + Int32.toNatClampNeg v_3 := (by have k1 := r_v_5.cl (by decide); have k2 := r_v_3.cl (by decide); omega); show 1 ≤ _; rw [← k4, pk_us]; exact hv9.1), trivial⟩)) (cwV 2 hts (gV tw_1362 tw_1364 ts_51 tw_15 tw_1365) rfl rfl rfl (by decide +kernel) ⟨Nat.le_of_ble_eq_true rfl, Nat.le_of_ble_eq_true rfl⟩) (tg_preV hw hK hSD hA (ci := 10) (q := (RX10, TX10, 49)) rfl h_p0 rfl) rfl rfl hl.1 rfl (lv_room (Nat.le_of_ble_eq_true rfl)) dX10_readNewIdea_39 ⟨Nat.le_of_ble_eq_true rfl, Nat.le_of_ble_eq_true rfl⟩) hw hA ⟨by decide, by decide⟩ (fun v_9 ws H locs hp_v_9 hw hF9 => ?_)
            have m_u_2 := FLD.over hF9 m_u_2 (by decide)
            have m_v_8 := FLD.over hF9 m_v_8 (by decide)
            have x_TOK_p0_gh := TKP.over hF9 x_TOK_p0_gh (by decide)
            have r_v_9 : RI v_9 1 1 := hp_v_9.1
            by_cases c9_v_9 : v_9 = 0
            · exact absurd (ti_eq c9_v_9) (by unfold RI at r_v_9; rw [Int32.toInt_zero]; omega)
            · obtain ⟨v_10, m_v_10, r_v_10⟩ := ((hp_v_9.2.2 c9_v_9).1)
              have x_RH_p0 : AX 15 35 (fun f => RH2p f) Ps ws p0 := AX.imp ((hp_v_9.2.2 c9_v_9).2.1) (fun _ h9 => h9.1)
              have x_RLT_p0_0_6 : AX 15 35 (fun f => (f (Int32.toNatClampNeg 0)).toInt < Int32.toInt 6) Ps ws p0 := AX.imp ((hp_v_9.2.2 c9_v_9).2.1) (fun _ h9 => h9.2.1)
              have x_EQ0_p0_v_3 : AX 15 35 (fun f => f 0 = v_3) Ps ws p0 := AX.imp ((hp_v_9.2.2 c9_v_9).2.1) (fun _ h9 => h9.2.2.1)
              have x_N1_p0_v_3 : AX 15 35 (fun f => 1 ≤ (f (6 + Int32.toNatClampNeg v_3)).toInt) Ps ws p0 := AX.imp ((hp_v_9.2.2 c9_v_9).2.1) (fun _ h9 => h9.2.2.2.1)
              refine lv_if_ne (tgt := 47) hx hb dX10_readNewIdea_42 (by decide) (fun c_42 => ?_) (fun c_42 => ?_)
              · refine lv_aload_n hx hb dX10_readNewIdea_47 rfl (lv_at hl 1 rfl) ?_
                refine tg_mem (ci := 10) (C := RX10) (T := TX10) (N := 49) hx hb hts inX10 hown hK hw 15 m_u_2 rfl (by decide) (hts _ tw_1152) (fun _ h9 => h9) dX10_readNewIdea_48 ?_
                refine lv_iconst (v := 0) hx hb dX10_readNewIdea_51 (by decide) ?_
                refine lv_dup2_11 hx hb dX10_readNewIdea_52 rfl rfl ?_
                refine tg_iald (lo := 0) (hi := 6) hx hb hK hw h_vu_2 rfl 0 0 rl_0 (by decide) (by decide +kernel) dX10_readNewIdea_53 (fun v_11 r_v_11 m_v_11 o_v_11 => ?_)
                have r_v_11 : RI v_11 0 5 := by obtain ⟨f9, h9, q9, g9⟩ := AX.use hw x_RLT_p0_0_6 h_vu_2 rfl m_u_2; have e9 := g9 _ _ m_v_11; have j9 : Int32.toNatClampNeg 0 = 0 := (by decide); rw [j9] at e9; have h8 : (f9 0).toInt < 6 := h9; rw [e9] at h8; exact ⟨r_v_11.1, by omega⟩
                refine lv_iconst (v := 1) hx hb dX10_readNewIdea_54 (by decide) ?_
                refine lv_iadd hx hb dX10_readNewIdea_55 (lv_topi (fun v_12 e_v_12 => ?_))
                obtain ⟨t_v_12, r_v_12⟩ := tq_add (lo := 1) (hi := 6) r_v_11 rl_1 (by decide +kernel) e_v_12
                have t_v_12 : v_12.toInt = v_11.toInt + 1 := t_v_12
                have x_E9 : AX 15 35 (fun f => f 0 = v_11) Ps ws p0 := AX.mk hw h_vu_2 rfl m_u_2 (fun f9 g9 _ => by have e9 := g9 _ _ m_v_11; have j9 : Int32.toNatClampNeg 0 = 0 := (by decide); rw [j9] at e9; exact e9)
                have x_RHC_p0_v_11 : AX 15 35 (fun f => RH2p f ∧ f 0 = v_11 ∧ 1 ≤ (f (6 + Int32.toNatClampNeg v_11)).toInt) Ps ws p0 := AX.imp (AX.and hw (AX.and hw x_RH_p0 x_E9) (AX.and hw x_EQ0_p0_v_3 x_N1_p0_v_3)) (fun f9 h9 => ⟨h9.1.1, h9.1.2, by have e8 := h9.2.1.symm.trans h9.1.2; have e7 := h9.2.2; rw [e8] at e7; exact e7⟩)
                have hw8 := hw
                refine tg_iast hx hb hK hw h_vu_2 rfl 0 0 rl_0 (by decide) r_v_12 (by decide +kernel) (fun _ _ _ _ _ => trivial) (by decide) dX10_readNewIdea_56 (fun ws H locs hw hF9 hU9 => ?_)
                have x_RH_p0 : AX 15 35 (fun f => RH2p f) Ps ws p0 := AX.ast hF9 hU9 x_RHC_p0_v_11 m_u_2 (fun f9 h9 => RH_inc h9.1 h9.2.1 h9.2.2 (r_v_11.to (by decide)) t_v_12)
                have x_TOK_p0_gh := TKP.over hF9 x_TOK_p0_gh (by decide)
                have m_u_2 := FLD.over hF9 m_u_2 (by decide)
                have m_v_10 := FLD.over hF9 m_v_10 (by decide)
                refine lv_iconst (v := 1) hx hb dX10_readNewIdea_57 (by decide) ?_
                subst hQ
                exact W.zret (v := 1) hx hb hr (rfl) (fun t ht hW => ⟨⟨1, ws, rfl, ⟨⟨rl_1.to (by decide), (fun _ => trivial), (fun h0 => ⟨⟨_, m_v_10, r_v_10⟩, x_TOK_p0_gh, x_RH_p0, trivial⟩)⟩, hw.1, hw.2.2.2.2.1⟩, by rw [ht]; exact hw.2.1, va_K.moved hW.alike hK, hw.2.2.1⟩, hw.2.2.2.1.F ht⟩) hw.2.2.2.1.2.2 dX10_readNewIdea_58
              · have r_v_9 : RI v_9 1 0 := rc_eq1 r_v_9 rl_0 (ti_eq c_42) (by decide)
                exact (r_v_9.no (by decide)).elim
    · have r_v_1 : RI v_1 1 0 := rc_eq1 r_v_1 rl_0 (ti_eq c_7) (by decide)
      exact (r_v_1.no (by decide)).elim
abbrev wr_X10_readLine : List (Nat × Nat) := [(10, 5), (10, 6), (10, 7), (10, 8), (10, 9), (10, 10), (10, 11), (10, 12), (10, 13)]
abbrev wa_X10_readLine : List Nat := [35, 42, 45]
set_option maxHeartbeats 4000000 in
set_option maxRecDepth 100000 in
theorem c_X10_readLine (l : Launch) (D : va_G) (cy : Nat → ClassId) (z : Nat → Nat) (sz : Nat) (Ps : PSI) (w0 : va_W) (hT : HT cy GG Ps w0) (p0 : Nat) (gh : Int) (h_p0 : (p0, 55) ∈ Ps) (x_TO_p0_gh : TOP w0 p0 (gh)) (x_RH_p0 : AX 15 35 (fun f => RH2p f) Ps w0 p0) : Met l yX10_readLine (Cond.code yX10_readLine cX10_readLine 1 (some .boolean) :: gT) ({ frames := 8, cells := 0, slots := 0, locals := 1600 } : Room) (va_Pc [.ref p0] (PRE D cy z w0 sz)) (va_Qi (fun (r : Int32) (u : va_W) => (RI r 0 1 ∧ (r = 0 → True) ∧ (¬ r = 0 → TKP u p0 (gh) ∧ AX 15 35 (fun f => RH2p f) Ps u p0 ∧ True)) ∧ HT cy GG Ps u ∧ FR wr_X10_readLine wa_X10_readLine Ps w0 u) (BB D cy (va_A w0 sz) (fun (u : va_W) => u)) (va_A w0 sz)) 0 0 (va_A w0 sz) := by
  refine Met.ofW (cc := cX10_readLine) (maxL := 1) (ret := (some .boolean)) (by decide) rfl ?_
  intro p e s m args below meth c s₁ B hml hv
  obtain ⟨rfl, hsz, hP, hK, hD0, hSD⟩ := hv
  have hx := B.exec
  have hb := B.bytes
  have hr := B.returns
  have hlocks := B.notSynchronized
  have hts : ∀ w ∈ gT, w.before _ s = true := fun w h => atoms_spec (ws := Cond.code yX10_readLine cX10_readLine 1 (some .boolean) :: gT) B.pre w (List.mem_cons_of_mem _ h)
  have hown : s.vm.findClass RX10 = some m.cls := findClass_of_methodNamed B.named
  subst hsz
  have hD := hD0.self (sz := s.heap.size)
  generalize hAe : va_A w0 s.heap.size = A at hD hSD ⊢
  have hA : ∀ q : Nat, s.heap.size ≤ q → A q := fun q h => by rw [← hAe]; exact Or.inr h
  have hl := lv_entry ([.ref p0]) (n := 1) (Nat.le_of_ble_eq_true rfl)
  rw [lg_entry_eq]
  generalize (lg_sl ([.ref p0]) ++ List.replicate (1 - (lg_sl ([.ref p0])).length) Slot.unset).toArray = ls at hl ⊢
  have hl : lv_has ls 1 [(0, .ref p0)] := hl
  refine nameQ (fun Q hQ => ?_)
  have hw : WD D cy GG A s wr_X10_readLine wa_X10_readLine Ps w0 Ps w0 s.heap [] := ⟨hT, hP, hD, va_S.rf, FR.rf, hT.1, [], (List.append_nil _).symm⟩
  refine lv_aload_n hx hb dX10_readLine_0 rfl (lv_at hl 0 rfl) ?_
  refine lv_iconst (v := 0) hx hb dX10_readLine_1 (by decide) ?_
  refine tk_ir (va_runV (As := [.int 0]) (rest := []) ⟨hx, hb, hml, hown, hts⟩ (c_X10_isWord l D cy z s.heap.size Ps w0 hw.1 p0 0 h_p0 (rl_0.to (by decide))) (cwV 1 hts (gV tw_1318 tw_1320 ts_43 tw_15 tw_1321) rfl rfl rfl (by decide +kernel) ⟨Nat.le_of_ble_eq_true rfl, Nat.le_of_ble_eq_true rfl⟩) (tg_preV hw hK hSD hA (ci := 10) (q := (RX10, TX10, 49)) rfl h_p0 rfl) rfl rfl hl.1 rfl (lv_room (Nat.le_of_ble_eq_true rfl)) dX10_readLine_2 ⟨Nat.le_of_ble_eq_true rfl, Nat.le_of_ble_eq_true rfl⟩) hw hA (fun v_1  H locs hp_v_1 hw => ?_)
  have r_v_1 : RI v_1 0 1 := hp_v_1.1
  refine lv_if_eq (tgt := 13) hx hb dX10_readLine_5 (by decide) (fun c_5 => ?_) (fun c_5 => ?_)
  · have r_v_1 : RI v_1 0 0 := rc_eq1 r_v_1 rl_0 (ti_eq c_5) (by decide)
    refine lv_aload_n hx hb dX10_readLine_13 rfl (lv_at hl 0 rfl) ?_
    refine lv_iconst (v := 1) hx hb dX10_readLine_14 (by decide) ?_
    refine tk_ir (va_runV (As := [.int 1]) (rest := []) ⟨hx, hb, hml, hown, hts⟩ (c_X10_isWord l D cy z H.size Ps w0 hw.1 p0 1 h_p0 (rl_1.to (by decide))) (cwV 1 hts (gV tw_1318 tw_1320 ts_43 tw_15 tw_1321) rfl rfl rfl (by decide +kernel) ⟨Nat.le_of_ble_eq_true rfl, Nat.le_of_ble_eq_true rfl⟩) (tg_preV hw hK hSD hA (ci := 10) (q := (RX10, TX10, 49)) rfl h_p0 rfl) rfl rfl hl.1 rfl (lv_room (Nat.le_of_ble_eq_true rfl)) dX10_readLine_15 ⟨Nat.le_of_ble_eq_true rfl, Nat.le_of_ble_eq_true rfl⟩) hw hA (fun v_2  H locs hp_v_2 hw => ?_)
    have r_v_2 : RI v_2 0 1 := hp_v_2.1
    refine lv_if_eq (tgt := 26) hx hb dX10_readLine_18 (by decide) (fun c_18 => ?_) (fun c_18 => ?_)
    · have r_v_2 : RI v_2 0 0 := rc_eq1 r_v_2 rl_0 (ti_eq c_18) (by decide)
      refine lv_aload_n hx hb dX10_readLine_26 rfl (lv_at hl 0 rfl) ?_
      refine lv_iconst (v := 2) hx hb dX10_readLine_27 (by decide) ?_
      refine tk_ir (va_runV (As := [.int 2]) (rest := []) ⟨hx, hb, hml, hown, hts⟩ (c_X10_isWord l D cy z H.size Ps w0 hw.1 p0 2 h_p0 (rl_2.to (by decide))) (cwV 1 hts (gV tw_1318 tw_1320 ts_43 tw_15 tw_1321) rfl rfl rfl (by decide +kernel) ⟨Nat.le_of_ble_eq_true rfl, Nat.le_of_ble_eq_true rfl⟩) (tg_preV hw hK hSD hA (ci := 10) (q := (RX10, TX10, 49)) rfl h_p0 rfl) rfl rfl hl.1 rfl (lv_room (Nat.le_of_ble_eq_true rfl)) dX10_readLine_28 ⟨Nat.le_of_ble_eq_true rfl, Nat.le_of_ble_eq_true rfl⟩) hw hA (fun v_3  H locs hp_v_3 hw => ?_)
      have r_v_3 : RI v_3 0 1 := hp_v_3.1
      refine lv_if_eq (tgt := 39) hx hb dX10_readLine_31 (by decide) (fun c_31 => ?_) (fun c_31 => ?_)
      · have r_v_3 : RI v_3 0 0 := rc_eq1 r_v_3 rl_0 (ti_eq c_31) (by decide)
        refine lv_aload_n hx hb dX10_readLine_39 rfl (lv_at hl 0 rfl) ?_
        refine lv_iconst (v := 3) hx hb dX10_readLine_40 (by decide) ?_
        refine tk_ir (va_runV (As := [.int 3]) (rest := []) ⟨hx, hb, hml, hown, hts⟩ (c_X10_isWord l D cy z H.size Ps w0 hw.1 p0 3 h_p0 (rl_3.to (by decide))) (cwV 1 hts (gV tw_1318 tw_1320 ts_43 tw_15 tw_1321) rfl rfl rfl (by decide +kernel) ⟨Nat.le_of_ble_eq_true rfl, Nat.le_of_ble_eq_true rfl⟩) (tg_preV hw hK hSD hA (ci := 10) (q := (RX10, TX10, 49)) rfl h_p0 rfl) rfl rfl hl.1 rfl (lv_room (Nat.le_of_ble_eq_true rfl)) dX10_readLine_41 ⟨Nat.le_of_ble_eq_true rfl, Nat.le_of_ble_eq_true rfl⟩) hw hA (fun v_4  H locs hp_v_4 hw => ?_)
        have r_v_4 : RI v_4 0 1 := hp_v_4.1
        refine lv_if_eq (tgt := 52) hx hb dX10_readLine_44 (by decide) (fun c_44 => ?_) (fun c_44 => ?_)
        · have r_v_4 : RI v_4 0 0 := rc_eq1 r_v_4 rl_0 (ti_eq c_44) (by decide)
          refine lv_aload_n hx hb dX10_readLine_52 rfl (lv_at hl 0 rfl) ?_
          refine lv_iconst (v := 4) hx hb dX10_readLine_53 (by decide) ?_
          refine tk_ir (va_runV (As := [.int 4]) (rest := []) ⟨hx, hb, hml, hown, hts⟩ (c_X10_isWord l D cy z H.size Ps w0 hw.1 p0 4 h_p0 (rl_4.to (by decide))) (cwV 1 hts (gV tw_1318 tw_1320 ts_43 tw_15 tw_1321) rfl rfl rfl (by decide +kernel) ⟨Nat.le_of_ble_eq_true rfl, Nat.le_of_ble_eq_true rfl⟩) (tg_preV hw hK hSD hA (ci := 10) (q := (RX10, TX10, 49)) rfl h_p0 rfl) rfl rfl hl.1 rfl (lv_room (Nat.le_of_ble_eq_true rfl)) dX10_readLine_54 ⟨Nat.le_of_ble_eq_true rfl, Nat.le_of_ble_eq_true rfl⟩) hw hA (fun v_5  H locs hp_v_5 hw => ?_)
          have r_v_5 : RI v_5 0 1 := hp_v_5.1
          refine lv_if_eq (tgt := 65) hx hb dX10_readLine_57 (by decide) (fun c_57 => ?_) (fun c_57 => ?_)
          · have r_v_5 : RI v_5 0 0 := rc_eq1 r_v_5 rl_0 (ti_eq c_57) (by decide)
            refine lv_aload_n hx hb dX10_readLine_65 rfl (lv_at hl 0 rfl) ?_
            refine lv_iconst (v := 5) hx hb dX10_readLine_66 (by decide) ?_
            refine tk_ir (va_runV (As := [.int 5]) (rest := []) ⟨hx, hb, hml, hown, hts⟩ (c_X10_isWord l D cy z H.size Ps w0 hw.1 p0 5 h_p0 (rl_5.to (by decide))) (cwV 1 hts (gV tw_1318 tw_1320 ts_43 tw_15 tw_1321) rfl rfl rfl (by decide +kernel) ⟨Nat.le_of_ble_eq_true rfl, Nat.le_of_ble_eq_true rfl⟩) (tg_preV hw hK hSD hA (ci := 10) (q := (RX10, TX10, 49)) rfl h_p0 rfl) rfl rfl hl.1 rfl (lv_room (Nat.le_of_ble_eq_true rfl)) dX10_readLine_67 ⟨Nat.le_of_ble_eq_true rfl, Nat.le_of_ble_eq_true rfl⟩) hw hA (fun v_6  H locs hp_v_6 hw => ?_)
            have r_v_6 : RI v_6 0 1 := hp_v_6.1
            refine lv_if_eq (tgt := 78) hx hb dX10_readLine_70 (by decide) (fun c_70 => ?_) (fun c_70 => ?_)
            · have r_v_6 : RI v_6 0 0 := rc_eq1 r_v_6 rl_0 (ti_eq c_70) (by decide)
              refine lv_aload_n hx hb dX10_readLine_78 rfl (lv_at hl 0 rfl) ?_
              refine lv_bipush (v := 6) hx hb dX10_readLine_79 (by decide) ?_
              refine tk_ir (va_runV (As := [.int 6]) (rest := []) ⟨hx, hb, hml, hown, hts⟩ (c_X10_isWord l D cy z H.size Ps w0 hw.1 p0 6 h_p0 (rl_6.to (by decide))) (cwV 1 hts (gV tw_1318 tw_1320 ts_43 tw_15 tw_1321) rfl rfl rfl (by decide +kernel) ⟨Nat.le_of_ble_eq_true rfl, Nat.le_of_ble_eq_true rfl⟩) (tg_preV hw hK hSD hA (ci := 10) (q := (RX10, TX10, 49)) rfl h_p0 rfl) rfl rfl hl.1 rfl (lv_room (Nat.le_of_ble_eq_true rfl)) dX10_readLine_81 ⟨Nat.le_of_ble_eq_true rfl, Nat.le_of_ble_eq_true rfl⟩) hw hA (fun v_7  H locs hp_v_7 hw => ?_)
              have r_v_7 : RI v_7 0 1 := hp_v_7.1
              refine lv_if_eq (tgt := 92) hx hb dX10_readLine_84 (by decide) (fun c_84 => ?_) (fun c_84 => ?_)
              · have r_v_7 : RI v_7 0 0 := rc_eq1 r_v_7 rl_0 (ti_eq c_84) (by decide)
                refine lv_aload_n hx hb dX10_readLine_92 rfl (lv_at hl 0 rfl) ?_
                refine lv_bipush (v := 7) hx hb dX10_readLine_93 (by decide) ?_
                refine tk_ir (va_runV (As := [.int 7]) (rest := []) ⟨hx, hb, hml, hown, hts⟩ (c_X10_isWord l D cy z H.size Ps w0 hw.1 p0 7 h_p0 (rl_7.to (by decide))) (cwV 1 hts (gV tw_1318 tw_1320 ts_43 tw_15 tw_1321) rfl rfl rfl (by decide +kernel) ⟨Nat.le_of_ble_eq_true rfl, Nat.le_of_ble_eq_true rfl⟩) (tg_preV hw hK hSD hA (ci := 10) (q := (RX10, TX10, 49)) rfl h_p0 rfl) rfl rfl hl.1 rfl (lv_room (Nat.le_of_ble_eq_true rfl)) dX10_readLine_95 ⟨Nat.le_of_ble_eq_true rfl, Nat.le_of_ble_eq_true rfl⟩) hw hA (fun v_8  H locs hp_v_8 hw => ?_)
                have r_v_8 : RI v_8 0 1 := hp_v_8.1
                refine lv_if_eq (tgt := 110) hx hb dX10_readLine_98 (by decide) (fun c_98 => ?_) (fun c_98 => ?_)
                · have r_v_8 : RI v_8 0 0 := rc_eq1 r_v_8 rl_0 (ti_eq c_98) (by decide)
                  refine lv_aload_n hx hb dX10_readLine_110 rfl (lv_at hl 0 rfl) ?_
                  refine lv_bipush (v := 8) hx hb dX10_readLine_111 (by decide) ?_
                  refine tk_ir (va_runV (As := [.int 8]) (rest := []) ⟨hx, hb, hml, hown, hts⟩ (c_X10_isWord l D cy z H.size Ps w0 hw.1 p0 8 h_p0 (rl_8.to (by decide))) (cwV 1 hts (gV tw_1318 tw_1320 ts_43 tw_15 tw_1321) rfl rfl rfl (by decide +kernel) ⟨Nat.le_of_ble_eq_true rfl, Nat.le_of_ble_eq_true rfl⟩) (tg_preV hw hK hSD hA (ci := 10) (q := (RX10, TX10, 49)) rfl h_p0 rfl) rfl rfl hl.1 rfl (lv_room (Nat.le_of_ble_eq_true rfl)) dX10_readLine_113 ⟨Nat.le_of_ble_eq_true rfl, Nat.le_of_ble_eq_true rfl⟩) hw hA (fun v_9  H locs hp_v_9 hw => ?_)
                  have r_v_9 : RI v_9 0 1 := hp_v_9.1
                  refine lv_if_eq (tgt := 131) hx hb dX10_readLine_116 (by decide) (fun c_116 => ?_) (fun c_116 => ?_)
                  · have r_v_9 : RI v_9 0 0 := rc_eq1 r_v_9 rl_0 (ti_eq c_116) (by decide)
                    refine lv_aload_n hx hb dX10_readLine_131 rfl (lv_at hl 0 rfl) ?_
                    refine lv_iconst (v := 1) hx hb dX10_readLine_132 (by decide) ?_
                    refine tk_i (va_runV (As := [.int 1]) (rest := []) ⟨hx, hb, hml, hown, hts⟩ (c_X10_bad l D cy z H.size Ps w0 hw.1 p0 1 h_p0 (rl_1.to (by decide))) (cwV 1 hts (gV tw_1336 tw_1338 ts_46 tw_15 tw_1339) rfl rfl rfl (by decide +kernel) ⟨Nat.le_of_ble_eq_true rfl, Nat.le_of_ble_eq_true rfl⟩) (tg_preV hw hK hSD hA (ci := 10) (q := (RX10, TX10, 49)) rfl h_p0 rfl) rfl rfl hl.1 rfl (lv_room (Nat.le_of_ble_eq_true rfl)) dX10_readLine_133 ⟨Nat.le_of_ble_eq_true rfl, Nat.le_of_ble_eq_true rfl⟩) hw hA ⟨by decide, by decide⟩ (fun v_10 ws H locs hp_v_10 hw hF9 => ?_)
                    have x_TO_p0_gh := TOP.over hF9 x_TO_p0_gh (by decide)
                    have x_RH_p0 := AX.over hF9 x_RH_p0 (by decide)
                    have r_v_10 : RI v_10 0 0 := hp_v_10.1
                    subst hQ
                    exact W.zret (v := v_10) hx hb hr (tq_nz (r_v_10.to (by decide))) (fun t ht hW => ⟨⟨v_10, ws, rfl, ⟨⟨r_v_10.to (by decide), (fun h0 => trivial), (fun h0 => absurd (Int32.toInt_inj.mp (by have h8 := r_v_10; unfold RI at h8; rw [Int32.toInt_zero]; omega)) h0)⟩, hw.1, hw.2.2.2.2.1⟩, by rw [ht]; exact hw.2.1, va_K.moved hW.alike hK, hw.2.2.1⟩, hw.2.2.2.1.F ht⟩) hw.2.2.2.1.2.2 dX10_readLine_136
                  · have r_v_9 : RI v_9 1 1 := rc_neL r_v_9 rl_0 (ti_ne c_116) (by decide)
                    refine lv_aload_n hx hb dX10_readLine_119 rfl (lv_at hl 0 rfl) ?_
                    refine lv_iconst (v := 1) hx hb dX10_readLine_120 (by decide) ?_
                    refine lv_iconst (v := 5) hx hb dX10_readLine_121 (by decide) ?_
                    refine lv_iconst (v := 1) hx hb dX10_readLine_122 (by decide) ?_
                    refine lv_bipush (v := 20) hx hb dX10_readLine_123 (by decide) ?_
                    refine tk_i (va_runV (As := [.int 1, .int 5, .int 1, .int 20]) (rest := []) ⟨hx, hb, hml, hown, hts⟩ (c_X10_readOnce l D cy z H.size Ps w0 hw.1 p0 1 5 1 20 (gh) h_p0 rl_1 rl_5 rl_1 rl_20 x_TO_p0_gh x_RH_p0) (cwV 4 hts (gV tw_1405 tw_1407 ts_61 tw_15 tw_1408) rfl rfl rfl (by decide +kernel) ⟨Nat.le_of_ble_eq_true rfl, Nat.le_of_ble_eq_true rfl⟩) (tg_preV hw hK hSD hA (ci := 10) (q := (RX10, TX10, 49)) rfl h_p0 rfl) rfl rfl hl.1 rfl (lv_room (Nat.le_of_ble_eq_true rfl)) dX10_readLine_125 ⟨Nat.le_of_ble_eq_true rfl, Nat.le_of_ble_eq_true rfl⟩) hw hA ⟨by decide, by decide⟩ (fun v_11 ws H locs hp_v_11 hw hF9 => ?_)
                    have r_v_11 : RI v_11 0 1 := hp_v_11.1
                    by_cases c9_v_11 : v_11 = 0
                    · have r_v_11 : RI v_11 0 0 := by rw [c9_v_11]; exact rl_0
                      refine lv_goto (tgt := 136) hx hb dX10_readLine_128 (by decide) ?_
                      subst hQ
                      exact W.zret (v := v_11) hx hb hr (tq_nz (r_v_11.to (by decide))) (fun t ht hW => ⟨⟨v_11, ws, rfl, ⟨⟨r_v_11.to (by decide), (fun h0 => trivial), (fun h0 => absurd (Int32.toInt_inj.mp (by have h8 := r_v_11; unfold RI at h8; rw [Int32.toInt_zero]; omega)) h0)⟩, hw.1, hw.2.2.2.2.1⟩, by rw [ht]; exact hw.2.1, va_K.moved hW.alike hK, hw.2.2.1⟩, hw.2.2.2.1.F ht⟩) hw.2.2.2.1.2.2 dX10_readLine_136
                    · have r_v_11 : RI v_11 1 1 := rc_neL r_v_11 rl_0 (ti_ne c9_v_11) (by decide)
                      obtain ⟨v_12, m_v_12, r_v_12⟩ := ((hp_v_11.2.2 c9_v_11).1)
                      have x_TOK_p0_gh := ((hp_v_11.2.2 c9_v_11).2.1)
                      have x_RH_p0 := ((hp_v_11.2.2 c9_v_11).2.2.1)
                      refine lv_goto (tgt := 136) hx hb dX10_readLine_128 (by decide) ?_
                      subst hQ
                      exact W.zret (v := v_11) hx hb hr (tq_nz (r_v_11.to (by decide))) (fun t ht hW => ⟨⟨v_11, ws, rfl, ⟨⟨r_v_11.to (by decide), (fun _ => trivial), (fun h0 => ⟨x_TOK_p0_gh, x_RH_p0, trivial⟩)⟩, hw.1, hw.2.2.2.2.1⟩, by rw [ht]; exact hw.2.1, va_K.moved hW.alike hK, hw.2.2.1⟩, hw.2.2.2.1.F ht⟩) hw.2.2.2.1.2.2 dX10_readLine_136
                · have r_v_8 : RI v_8 1 1 := rc_neL r_v_8 rl_0 (ti_ne c_98) (by decide)
                  refine lv_aload_n hx hb dX10_readLine_101 rfl (lv_at hl 0 rfl) ?_
                  refine lv_iconst (v := 0) hx hb dX10_readLine_102 (by decide) ?_
                  refine lv_iconst (v := 4) hx hb dX10_readLine_103 (by decide) ?_
                  refine lv_iconst (v := 0) hx hb dX10_readLine_104 (by decide) ?_
                  refine lv_iconst (v := 5) hx hb dX10_readLine_105 (by decide) ?_
                  refine tk_i (va_runV (As := [.int 0, .int 4, .int 0, .int 5]) (rest := []) ⟨hx, hb, hml, hown, hts⟩ (c_X10_readOnce__1 l D cy z H.size Ps w0 hw.1 p0 0 4 0 5 (gh) h_p0 rl_0 rl_4 rl_0 rl_5 x_TO_p0_gh x_RH_p0) (cwV 4 hts (gV tw_1405 tw_1407 ts_61 tw_15 tw_1408) rfl rfl rfl (by decide +kernel) ⟨Nat.le_of_ble_eq_true rfl, Nat.le_of_ble_eq_true rfl⟩) (tg_preV hw hK hSD hA (ci := 10) (q := (RX10, TX10, 49)) rfl h_p0 rfl) rfl rfl hl.1 rfl (lv_room (Nat.le_of_ble_eq_true rfl)) dX10_readLine_106 ⟨Nat.le_of_ble_eq_true rfl, Nat.le_of_ble_eq_true rfl⟩) hw hA ⟨by decide, by decide⟩ (fun v_13 ws H locs hp_v_13 hw hF9 => ?_)
                  have r_v_13 : RI v_13 0 1 := hp_v_13.1
                  by_cases c9_v_13 : v_13 = 0
                  · have r_v_13 : RI v_13 0 0 := by rw [c9_v_13]; exact rl_0
                    subst hQ
                    exact W.zret (v := v_13) hx hb hr (tq_nz (r_v_13.to (by decide))) (fun t ht hW => ⟨⟨v_13, ws, rfl, ⟨⟨r_v_13.to (by decide), (fun h0 => trivial), (fun h0 => absurd (Int32.toInt_inj.mp (by have h8 := r_v_13; unfold RI at h8; rw [Int32.toInt_zero]; omega)) h0)⟩, hw.1, hw.2.2.2.2.1⟩, by rw [ht]; exact hw.2.1, va_K.moved hW.alike hK, hw.2.2.1⟩, hw.2.2.2.1.F ht⟩) hw.2.2.2.1.2.2 dX10_readLine_109
                  · have r_v_13 : RI v_13 1 1 := rc_neL r_v_13 rl_0 (ti_ne c9_v_13) (by decide)
                    obtain ⟨v_14, m_v_14, r_v_14⟩ := ((hp_v_13.2.2 c9_v_13).1)
                    have x_TOK_p0_gh := ((hp_v_13.2.2 c9_v_13).2.1)
                    have x_RH_p0 := ((hp_v_13.2.2 c9_v_13).2.2.1)
                    subst hQ
                    exact W.zret (v := v_13) hx hb hr (tq_nz (r_v_13.to (by decide))) (fun t ht hW => ⟨⟨v_13, ws, rfl, ⟨⟨r_v_13.to (by decide), (fun _ => trivial), (fun h0 => ⟨x_TOK_p0_gh, x_RH_p0, trivial⟩)⟩, hw.1, hw.2.2.2.2.1⟩, by rw [ht]; exact hw.2.1, va_K.moved hW.alike hK, hw.2.2.1⟩, hw.2.2.2.1.F ht⟩) hw.2.2.2.1.2.2 dX10_readLine_109
              · have r_v_7 : RI v_7 1 1 := rc_neL r_v_7 rl_0 (ti_ne c_84) (by decide)
                refine lv_aload_n hx hb dX10_readLine_87 rfl (lv_at hl 0 rfl) ?_
                refine tk_i (va_runV (As := []) (rest := []) ⟨hx, hb, hml, hown, hts⟩ (c_X10_readQuarrel l D cy z H.size Ps w0 hw.1 p0 (gh) h_p0 x_TO_p0_gh x_RH_p0) (cwV 0 hts (gV tw_1398 tw_1400 ts_60 tw_15 tw_1401) rfl rfl rfl (by decide +kernel) ⟨Nat.le_of_ble_eq_true rfl, Nat.le_of_ble_eq_true rfl⟩) (tg_preV hw hK hSD hA (ci := 10) (q := (RX10, TX10, 49)) rfl h_p0 rfl) rfl rfl hl.1 rfl (lv_room (Nat.le_of_ble_eq_true rfl)) dX10_readLine_88 ⟨Nat.le_of_ble_eq_true rfl, Nat.le_of_ble_eq_true rfl⟩) hw hA ⟨by decide, by decide⟩ (fun v_15 ws H locs hp_v_15 hw hF9 => ?_)
                have r_v_15 : RI v_15 0 1 := hp_v_15.1
                by_cases c9_v_15 : v_15 = 0
                · have r_v_15 : RI v_15 0 0 := by rw [c9_v_15]; exact rl_0
                  subst hQ
                  exact W.zret (v := v_15) hx hb hr (tq_nz (r_v_15.to (by decide))) (fun t ht hW => ⟨⟨v_15, ws, rfl, ⟨⟨r_v_15.to (by decide), (fun h0 => trivial), (fun h0 => absurd (Int32.toInt_inj.mp (by have h8 := r_v_15; unfold RI at h8; rw [Int32.toInt_zero]; omega)) h0)⟩, hw.1, hw.2.2.2.2.1⟩, by rw [ht]; exact hw.2.1, va_K.moved hW.alike hK, hw.2.2.1⟩, hw.2.2.2.1.F ht⟩) hw.2.2.2.1.2.2 dX10_readLine_91
                · have r_v_15 : RI v_15 1 1 := rc_neL r_v_15 rl_0 (ti_ne c9_v_15) (by decide)
                  obtain ⟨v_16, m_v_16, r_v_16⟩ := ((hp_v_15.2.2 c9_v_15).1)
                  have x_TOK_p0_gh := ((hp_v_15.2.2 c9_v_15).2.1)
                  have x_RH_p0 := ((hp_v_15.2.2 c9_v_15).2.2.1)
                  subst hQ
                  exact W.zret (v := v_15) hx hb hr (tq_nz (r_v_15.to (by decide))) (fun t ht hW => ⟨⟨v_15, ws, rfl, ⟨⟨r_v_15.to (by decide), (fun _ => trivial), (fun h0 => ⟨x_TOK_p0_gh, x_RH_p0, trivial⟩)⟩, hw.1, hw.2.2.2.2.1⟩, by rw [ht]; exact hw.2.1, va_K.moved hW.alike hK, hw.2.2.1⟩, hw.2.2.2.1.F ht⟩) hw.2.2.2.1.2.2 dX10_readLine_91
            · have r_v_6 : RI v_6 1 1 := rc_neL r_v_6 rl_0 (ti_ne c_70) (by decide)
              refine lv_aload_n hx hb dX10_readLine_73 rfl (lv_at hl 0 rfl) ?_
              refine tk_i (va_runV (As := []) (rest := []) ⟨hx, hb, hml, hown, hts⟩ (c_X10_readHas l D cy z H.size Ps w0 hw.1 p0 (gh) h_p0 x_TO_p0_gh x_RH_p0) (cwV 0 hts (gV tw_1394 tw_1396 ts_59 tw_15 tw_1397) rfl rfl rfl (by decide +kernel) ⟨Nat.le_of_ble_eq_true rfl, Nat.le_of_ble_eq_true rfl⟩) (tg_preV hw hK hSD hA (ci := 10) (q := (RX10, TX10, 49)) rfl h_p0 rfl) rfl rfl hl.1 rfl (lv_room (Nat.le_of_ble_eq_true rfl)) dX10_readLine_74 ⟨Nat.le_of_ble_eq_true rfl, Nat.le_of_ble_eq_true rfl⟩) hw hA ⟨by decide, by decide⟩ (fun v_17 ws H locs hp_v_17 hw hF9 => ?_)
              have r_v_17 : RI v_17 0 1 := hp_v_17.1
              by_cases c9_v_17 : v_17 = 0
              · have r_v_17 : RI v_17 0 0 := by rw [c9_v_17]; exact rl_0
                subst hQ
                exact W.zret (v := v_17) hx hb hr (tq_nz (r_v_17.to (by decide))) (fun t ht hW => ⟨⟨v_17, ws, rfl, ⟨⟨r_v_17.to (by decide), (fun h0 => trivial), (fun h0 => absurd (Int32.toInt_inj.mp (by have h8 := r_v_17; unfold RI at h8; rw [Int32.toInt_zero]; omega)) h0)⟩, hw.1, hw.2.2.2.2.1⟩, by rw [ht]; exact hw.2.1, va_K.moved hW.alike hK, hw.2.2.1⟩, hw.2.2.2.1.F ht⟩) hw.2.2.2.1.2.2 dX10_readLine_77
              · have r_v_17 : RI v_17 1 1 := rc_neL r_v_17 rl_0 (ti_ne c9_v_17) (by decide)
                obtain ⟨v_18, m_v_18, r_v_18⟩ := ((hp_v_17.2.2 c9_v_17).1)
                have x_TOK_p0_gh := ((hp_v_17.2.2 c9_v_17).2.1)
                have x_RH_p0 := ((hp_v_17.2.2 c9_v_17).2.2.1)
                subst hQ
                exact W.zret (v := v_17) hx hb hr (tq_nz (r_v_17.to (by decide))) (fun t ht hW => ⟨⟨v_17, ws, rfl, ⟨⟨r_v_17.to (by decide), (fun _ => trivial), (fun h0 => ⟨x_TOK_p0_gh, x_RH_p0, trivial⟩)⟩, hw.1, hw.2.2.2.2.1⟩, by rw [ht]; exact hw.2.1, va_K.moved hW.alike hK, hw.2.2.1⟩, hw.2.2.2.1.F ht⟩) hw.2.2.2.1.2.2 dX10_readLine_77
          · have r_v_5 : RI v_5 1 1 := rc_neL r_v_5 rl_0 (ti_ne c_57) (by decide)
            refine lv_aload_n hx hb dX10_readLine_60 rfl (lv_at hl 0 rfl) ?_
            refine tk_i (va_runV (As := []) (rest := []) ⟨hx, hb, hml, hown, hts⟩ (c_X10_readSits l D cy z H.size Ps w0 hw.1 p0 (gh) h_p0 x_TO_p0_gh x_RH_p0) (cwV 0 hts (gV tw_1390 tw_1392 ts_58 tw_15 tw_1393) rfl rfl rfl (by decide +kernel) ⟨Nat.le_of_ble_eq_true rfl, Nat.le_of_ble_eq_true rfl⟩) (tg_preV hw hK hSD hA (ci := 10) (q := (RX10, TX10, 49)) rfl h_p0 rfl) rfl rfl hl.1 rfl (lv_room (Nat.le_of_ble_eq_true rfl)) dX10_readLine_61 ⟨Nat.le_of_ble_eq_true rfl, Nat.le_of_ble_eq_true rfl⟩) hw hA ⟨by decide, by decide⟩ (fun v_19 ws H locs hp_v_19 hw hF9 => ?_)
            have r_v_19 : RI v_19 0 1 := hp_v_19.1
            by_cases c9_v_19 : v_19 = 0
            · have r_v_19 : RI v_19 0 0 := by rw [c9_v_19]; exact rl_0
              subst hQ
              exact W.zret (v := v_19) hx hb hr (tq_nz (r_v_19.to (by decide))) (fun t ht hW => ⟨⟨v_19, ws, rfl, ⟨⟨r_v_19.to (by decide), (fun h0 => trivial), (fun h0 => absurd (Int32.toInt_inj.mp (by have h8 := r_v_19; unfold RI at h8; rw [Int32.toInt_zero]; omega)) h0)⟩, hw.1, hw.2.2.2.2.1⟩, by rw [ht]; exact hw.2.1, va_K.moved hW.alike hK, hw.2.2.1⟩, hw.2.2.2.1.F ht⟩) hw.2.2.2.1.2.2 dX10_readLine_64
            · have r_v_19 : RI v_19 1 1 := rc_neL r_v_19 rl_0 (ti_ne c9_v_19) (by decide)
              obtain ⟨v_20, m_v_20, r_v_20⟩ := ((hp_v_19.2.2 c9_v_19).1)
              have x_TOK_p0_gh := ((hp_v_19.2.2 c9_v_19).2.1)
              have x_RH_p0 := ((hp_v_19.2.2 c9_v_19).2.2.1)
              subst hQ
              exact W.zret (v := v_19) hx hb hr (tq_nz (r_v_19.to (by decide))) (fun t ht hW => ⟨⟨v_19, ws, rfl, ⟨⟨r_v_19.to (by decide), (fun _ => trivial), (fun h0 => ⟨x_TOK_p0_gh, x_RH_p0, trivial⟩)⟩, hw.1, hw.2.2.2.2.1⟩, by rw [ht]; exact hw.2.1, va_K.moved hW.alike hK, hw.2.2.1⟩, hw.2.2.2.1.F ht⟩) hw.2.2.2.1.2.2 dX10_readLine_64
        · have r_v_4 : RI v_4 1 1 := rc_neL r_v_4 rl_0 (ti_ne c_44) (by decide)
          refine lv_aload_n hx hb dX10_readLine_47 rfl (lv_at hl 0 rfl) ?_
          refine tk_i (va_runV (As := []) (rest := []) ⟨hx, hb, hml, hown, hts⟩ (c_X10_readPerson l D cy z H.size Ps w0 hw.1 p0 (gh) h_p0 x_TO_p0_gh x_RH_p0) (cwV 0 hts (gV tw_1382 tw_1384 ts_56 tw_15 tw_1385) rfl rfl rfl (by decide +kernel) ⟨Nat.le_of_ble_eq_true rfl, Nat.le_of_ble_eq_true rfl⟩) (tg_preV hw hK hSD hA (ci := 10) (q := (RX10, TX10, 49)) rfl h_p0 rfl) rfl rfl hl.1 rfl (lv_room (Nat.le_of_ble_eq_true rfl)) dX10_readLine_48 ⟨Nat.le_of_ble_eq_true rfl, Nat.le_of_ble_eq_true rfl⟩) hw hA ⟨by decide, by decide⟩ (fun v_21 ws H locs hp_v_21 hw hF9 => ?_)
          have r_v_21 : RI v_21 0 1 := hp_v_21.1
          by_cases c9_v_21 : v_21 = 0
          · have r_v_21 : RI v_21 0 0 := by rw [c9_v_21]; exact rl_0
            subst hQ
            exact W.zret (v := v_21) hx hb hr (tq_nz (r_v_21.to (by decide))) (fun t ht hW => ⟨⟨v_21, ws, rfl, ⟨⟨r_v_21.to (by decide), (fun h0 => trivial), (fun h0 => absurd (Int32.toInt_inj.mp (by have h8 := r_v_21; unfold RI at h8; rw [Int32.toInt_zero]; omega)) h0)⟩, hw.1, hw.2.2.2.2.1⟩, by rw [ht]; exact hw.2.1, va_K.moved hW.alike hK, hw.2.2.1⟩, hw.2.2.2.1.F ht⟩) hw.2.2.2.1.2.2 dX10_readLine_51
          · have r_v_21 : RI v_21 1 1 := rc_neL r_v_21 rl_0 (ti_ne c9_v_21) (by decide)
            obtain ⟨v_22, m_v_22, r_v_22⟩ := ((hp_v_21.2.2 c9_v_21).1)
            have x_TOK_p0_gh := ((hp_v_21.2.2 c9_v_21).2.1)
            have x_RH_p0 := ((hp_v_21.2.2 c9_v_21).2.2.1)
            subst hQ
            exact W.zret (v := v_21) hx hb hr (tq_nz (r_v_21.to (by decide))) (fun t ht hW => ⟨⟨v_21, ws, rfl, ⟨⟨r_v_21.to (by decide), (fun _ => trivial), (fun h0 => ⟨x_TOK_p0_gh, x_RH_p0, trivial⟩)⟩, hw.1, hw.2.2.2.2.1⟩, by rw [ht]; exact hw.2.1, va_K.moved hW.alike hK, hw.2.2.1⟩, hw.2.2.2.1.F ht⟩) hw.2.2.2.1.2.2 dX10_readLine_51
      · have r_v_3 : RI v_3 1 1 := rc_neL r_v_3 rl_0 (ti_ne c_31) (by decide)
        refine lv_aload_n hx hb dX10_readLine_34 rfl (lv_at hl 0 rfl) ?_
        refine tk_i (va_runV (As := []) (rest := []) ⟨hx, hb, hml, hown, hts⟩ (c_X10_readParcel l D cy z H.size Ps w0 hw.1 p0 (gh) h_p0 x_TO_p0_gh x_RH_p0) (cwV 0 hts (gV tw_1370 tw_1372 ts_53 tw_15 tw_1373) rfl rfl rfl (by decide +kernel) ⟨Nat.le_of_ble_eq_true rfl, Nat.le_of_ble_eq_true rfl⟩) (tg_preV hw hK hSD hA (ci := 10) (q := (RX10, TX10, 49)) rfl h_p0 rfl) rfl rfl hl.1 rfl (lv_room (Nat.le_of_ble_eq_true rfl)) dX10_readLine_35 ⟨Nat.le_of_ble_eq_true rfl, Nat.le_of_ble_eq_true rfl⟩) hw hA ⟨by decide, by decide⟩ (fun v_23 ws H locs hp_v_23 hw hF9 => ?_)
        have r_v_23 : RI v_23 0 1 := hp_v_23.1
        by_cases c9_v_23 : v_23 = 0
        · have r_v_23 : RI v_23 0 0 := by rw [c9_v_23]; exact rl_0
          subst hQ
          exact W.zret (v := v_23) hx hb hr (tq_nz (r_v_23.to (by decide))) (fun t ht hW => ⟨⟨v_23, ws, rfl, ⟨⟨r_v_23.to (by decide), (fun h0 => trivial), (fun h0 => absurd (Int32.toInt_inj.mp (by have h8 := r_v_23; unfold RI at h8; rw [Int32.toInt_zero]; omega)) h0)⟩, hw.1, hw.2.2.2.2.1⟩, by rw [ht]; exact hw.2.1, va_K.moved hW.alike hK, hw.2.2.1⟩, hw.2.2.2.1.F ht⟩) hw.2.2.2.1.2.2 dX10_readLine_38
        · have r_v_23 : RI v_23 1 1 := rc_neL r_v_23 rl_0 (ti_ne c9_v_23) (by decide)
          obtain ⟨v_24, m_v_24, r_v_24⟩ := ((hp_v_23.2.2 c9_v_23).1)
          have x_TOK_p0_gh := ((hp_v_23.2.2 c9_v_23).2.1)
          have x_RH_p0 := ((hp_v_23.2.2 c9_v_23).2.2.1)
          subst hQ
          exact W.zret (v := v_23) hx hb hr (tq_nz (r_v_23.to (by decide))) (fun t ht hW => ⟨⟨v_23, ws, rfl, ⟨⟨r_v_23.to (by decide), (fun _ => trivial), (fun h0 => ⟨x_TOK_p0_gh, x_RH_p0, trivial⟩)⟩, hw.1, hw.2.2.2.2.1⟩, by rw [ht]; exact hw.2.1, va_K.moved hW.alike hK, hw.2.2.1⟩, hw.2.2.2.1.F ht⟩) hw.2.2.2.1.2.2 dX10_readLine_38
    · have r_v_2 : RI v_2 1 1 := rc_neL r_v_2 rl_0 (ti_ne c_18) (by decide)
      refine lv_aload_n hx hb dX10_readLine_21 rfl (lv_at hl 0 rfl) ?_
      refine tk_i (va_runV (As := []) (rest := []) ⟨hx, hb, hml, hown, hts⟩ (c_X10_readRoom l D cy z H.size Ps w0 hw.1 p0 (gh) h_p0 x_TO_p0_gh x_RH_p0) (cwV 0 hts (gV tw_1366 tw_1368 ts_52 tw_15 tw_1369) rfl rfl rfl (by decide +kernel) ⟨Nat.le_of_ble_eq_true rfl, Nat.le_of_ble_eq_true rfl⟩) (tg_preV hw hK hSD hA (ci := 10) (q := (RX10, TX10, 49)) rfl h_p0 rfl) rfl rfl hl.1 rfl (lv_room (Nat.le_of_ble_eq_true rfl)) dX10_readLine_22 ⟨Nat.le_of_ble_eq_true rfl, Nat.le_of_ble_eq_true rfl⟩) hw hA ⟨by decide, by decide⟩ (fun v_25 ws H locs hp_v_25 hw hF9 => ?_)
      have r_v_25 : RI v_25 0 1 := hp_v_25.1
      by_cases c9_v_25 : v_25 = 0
      · have r_v_25 : RI v_25 0 0 := by rw [c9_v_25]; exact rl_0
        subst hQ
        exact W.zret (v := v_25) hx hb hr (tq_nz (r_v_25.to (by decide))) (fun t ht hW => ⟨⟨v_25, ws, rfl, ⟨⟨r_v_25.to (by decide), (fun h0 => trivial), (fun h0 => absurd (Int32.toInt_inj.mp (by have h8 := r_v_25; unfold RI at h8; rw [Int32.toInt_zero]; omega)) h0)⟩, hw.1, hw.2.2.2.2.1⟩, by rw [ht]; exact hw.2.1, va_K.moved hW.alike hK, hw.2.2.1⟩, hw.2.2.2.1.F ht⟩) hw.2.2.2.1.2.2 dX10_readLine_25
      · have r_v_25 : RI v_25 1 1 := rc_neL r_v_25 rl_0 (ti_ne c9_v_25) (by decide)
        have x_TOK_p0_gh := ((hp_v_25.2.2 c9_v_25).1)
        have x_RH_p0 := ((hp_v_25.2.2 c9_v_25).2.1)
        subst hQ
        exact W.zret (v := v_25) hx hb hr (tq_nz (r_v_25.to (by decide))) (fun t ht hW => ⟨⟨v_25, ws, rfl, ⟨⟨r_v_25.to (by decide), (fun _ => trivial), (fun h0 => ⟨x_TOK_p0_gh, x_RH_p0, trivial⟩)⟩, hw.1, hw.2.2.2.2.1⟩, by rw [ht]; exact hw.2.1, va_K.moved hW.alike hK, hw.2.2.1⟩, hw.2.2.2.1.F ht⟩) hw.2.2.2.1.2.2 dX10_readLine_25
  · have r_v_1 : RI v_1 1 1 := rc_neL r_v_1 rl_0 (ti_ne c_5) (by decide)
    refine lv_aload_n hx hb dX10_readLine_8 rfl (lv_at hl 0 rfl) ?_
    refine tk_i (va_runV (As := []) (rest := []) ⟨hx, hb, hml, hown, hts⟩ (c_X10_readNewIdea l D cy z H.size Ps w0 hw.1 p0 (gh) h_p0 x_TO_p0_gh x_RH_p0) (cwV 0 hts (gV tw_1328 tw_1330 ts_44 tw_15 tw_1331) rfl rfl rfl (by decide +kernel) ⟨Nat.le_of_ble_eq_true rfl, Nat.le_of_ble_eq_true rfl⟩) (tg_preV hw hK hSD hA (ci := 10) (q := (RX10, TX10, 49)) rfl h_p0 rfl) rfl rfl hl.1 rfl (lv_room (Nat.le_of_ble_eq_true rfl)) dX10_readLine_9 ⟨Nat.le_of_ble_eq_true rfl, Nat.le_of_ble_eq_true rfl⟩) hw hA ⟨by decide, by decide⟩ (fun v_26 ws H locs hp_v_26 hw hF9 => ?_)
    have r_v_26 : RI v_26 0 1 := hp_v_26.1
    by_cases c9_v_26 : v_26 = 0
    · have r_v_26 : RI v_26 0 0 := by rw [c9_v_26]; exact rl_0
      subst hQ
      exact W.zret (v := v_26) hx hb hr (tq_nz (r_v_26.to (by decide))) (fun t ht hW => ⟨⟨v_26, ws, rfl, ⟨⟨r_v_26.to (by decide), (fun h0 => trivial), (fun h0 => absurd (Int32.toInt_inj.mp (by have h8 := r_v_26; unfold RI at h8; rw [Int32.toInt_zero]; omega)) h0)⟩, hw.1, hw.2.2.2.2.1⟩, by rw [ht]; exact hw.2.1, va_K.moved hW.alike hK, hw.2.2.1⟩, hw.2.2.2.1.F ht⟩) hw.2.2.2.1.2.2 dX10_readLine_12
    · have r_v_26 : RI v_26 1 1 := rc_neL r_v_26 rl_0 (ti_ne c9_v_26) (by decide)
      obtain ⟨v_27, m_v_27, r_v_27⟩ := ((hp_v_26.2.2 c9_v_26).1)
      have x_TOK_p0_gh := ((hp_v_26.2.2 c9_v_26).2.1)
      have x_RH_p0 := ((hp_v_26.2.2 c9_v_26).2.2.1)
      subst hQ
      exact W.zret (v := v_26) hx hb hr (tq_nz (r_v_26.to (by decide))) (fun t ht hW => ⟨⟨v_26, ws, rfl, ⟨⟨r_v_26.to (by decide), (fun _ => trivial), (fun h0 => ⟨x_TOK_p0_gh, x_RH_p0, trivial⟩)⟩, hw.1, hw.2.2.2.2.1⟩, by rw [ht]; exact hw.2.1, va_K.moved hW.alike hK, hw.2.2.1⟩, hw.2.2.2.1.F ht⟩) hw.2.2.2.1.2.2 dX10_readLine_12
abbrev wr_X10_findIn__5 : List (Nat × Nat) := []
abbrev wa_X10_findIn__5 : List Nat := []
set_option maxHeartbeats 4000000 in
set_option maxRecDepth 100000 in
theorem c_X10_findIn__5 (l : Launch) (D : va_G) (cy : Nat → ClassId) (z : Nat → Nat) (sz : Nat) (Ps : PSI) (w0 : va_W) (hT : HT cy GG Ps w0) (p0 : Nat) (p1 : Int32) (p2 : Int32) (p3 : Int64) (h_p0 : (p0, 41) ∈ Ps) (r_p1 : RI p1 10 10) (r_p2 : RI p2 0 6) (r_p3 : RJ p3 (-9223372036854775808) 9223372036854775807) : Met l yX10_findIn (Cond.code yX10_findIn cX10_findIn 6 (some .int) :: gT) ({ frames := 0, cells := 0, slots := 0, locals := 200 } : Room) (va_Pc [.ref p0, .int p1, .int p2, .long p3] (PRE D cy z w0 sz)) (va_Qi (fun (r : Int32) (u : Unit) => RI r (-1) 5 ∧ (r = 0 → True) ∧ (¬ r = 0 → True) ∧ (True) ∧ (r.toInt < 0 → NFD w0 p0 p1 p2 p3 ∧ True) ∧ (0 ≤ r.toInt → FDD w0 p0 p1 p2 p3 ∧ 1 ≤ Int32.toInt p2 ∧ True)) (BB D cy (va_A w0 sz) (fun (u : Unit) => w0)) (va_A w0 sz)) 0 0 (va_A w0 sz) := by
  refine Met.ofW (cc := cX10_findIn) (maxL := 6) (ret := (some .int)) (by decide) rfl ?_
  intro p e s m args below meth c s₁ B hml hv
  obtain ⟨rfl, hsz, hP, hK, hD0, hSD⟩ := hv
  have hx := B.exec
  have hb := B.bytes
  have hr := B.returns
  have hlocks := B.notSynchronized
  have hts : ∀ w ∈ gT, w.before _ s = true := fun w h => atoms_spec (ws := Cond.code yX10_findIn cX10_findIn 6 (some .int) :: gT) B.pre w (List.mem_cons_of_mem _ h)
  have hown : s.vm.findClass RX10 = some m.cls := findClass_of_methodNamed B.named
  subst hsz
  have hD := hD0.self (sz := s.heap.size)
  generalize hAe : va_A w0 s.heap.size = A at hD hSD ⊢
  have hA : ∀ q : Nat, s.heap.size ≤ q → A q := fun q h => by rw [← hAe]; exact Or.inr h
  have hl := lv_entry ([.ref p0, .int p1, .int p2, .long p3]) (n := 6) (Nat.le_of_ble_eq_true rfl)
  rw [lg_entry_eq]
  generalize (lg_sl ([.ref p0, .int p1, .int p2, .long p3]) ++ List.replicate (6 - (lg_sl ([.ref p0, .int p1, .int p2, .long p3])).length) Slot.unset).toArray = ls at hl ⊢
  have hl : lv_has ls 6 [(0, .ref p0), (1, .int p1), (2, .int p2), (3, .long p3)] := hl
  refine nameQ (fun Q hQ => ?_)
  have hw : WD D cy GG A s wr_X10_findIn__5 wa_X10_findIn__5 Ps w0 Ps w0 s.heap [] := ⟨hT, hP, hD, va_S.rf, FR.rf, hT.1, [], (List.append_nil _).symm⟩
  have B3 : ∀ (nf : Nat) (x5 : Int32) (H : Heap) (locs : List Loc) (ls : Array Slot), 6 - x5.toInt < (nf : Int) → RI p1 10 10 → RI p2 0 6 → RJ p3 (-9223372036854775808) 9223372036854775807 → RI x5 0 6 → NFD w0 p0 p1 x5 p3 → WD D cy GG A s wr_X10_findIn__5 wa_X10_findIn__5 Ps w0 Ps w0 H locs → lv_has ls 6 [(0, .ref p0), (1, .int p1), (2, .int p2), (3, .long p3), (5, .int x5)] → W p l e (headSpec (Cond.code yX10_findIn cX10_findIn 6 (some .int) :: gT) ({ frames := 0, cells := 0, slots := 0, locals := 200 } : Room)).room s m ([.ref p0, .int p1, .int p2, .long p3] : List Value).toArray below meth c H locs 0 0 Q (F0 m 3 ls []) := by
    intro nf3
    induction nf3 with
    | zero =>
      intro x5 H locs ls hn3 r_p1 r_p2 r_p3 r_x5 x_NF_p0_p1__5_p3 hw hl
      exact absurd hn3 (by have q0 := r_x5.1; have u0 := r_x5.2; omega)
    | succ nf3 ih3 =>
      intro x5 H locs ls hn3 r_p1 r_p2 r_p3 r_x5 x_NF_p0_p1__5_p3 hw hl
      refine lv_iload hx hb dX10_findIn_3 (lv_at hl 4 rfl) ?_
      refine lv_iload_n hx hb dX10_findIn_5 rfl (lv_at hl 2 rfl) ?_
      refine lv_icmp_ge (tgt := 29) hx hb dX10_findIn_6 (by decide) (fun c_6 => ?_) (fun c_6 => ?_)
      · have x_NF_p0_p1_p2_p3 : NFD w0 p0 p1 p2 p3 := NFD.mono x_NF_p0_p1__5_p3 c_6
        refine lv_iconst (v := (-1)) hx hb dX10_findIn_29 (by decide) ?_
        subst hQ
        exact W.iret (v := (-1)) hx hb hr (fun t ht hW => ⟨⟨(-1), (), rfl, ⟨rl_m1.to (by decide), (fun _ => trivial), (fun h0 => trivial), trivial, (fun h0 => ⟨x_NF_p0_p1_p2_p3, trivial⟩), (fun h0 => absurd h0 (by have h8 := rl_m1; unfold RI at h8; omega))⟩, by rw [ht]; exact hw.2.1, va_K.moved hW.alike hK, hw.2.2.1⟩, hw.2.2.2.1.F ht⟩) hw.2.2.2.1.2.2 dX10_findIn_30
      · have r_x5 : RI x5 0 5 := rc_lt1 r_x5 r_p2 (ti_nle c_6) (by decide)
        have r_p2 : RI p2 1 6 := rc_lt2 r_x5 r_p2 (ti_nle c_6) (by decide)
        refine lv_aload_n hx hb dX10_findIn_9 rfl (lv_at hl 0 rfl) ?_
        refine lv_iload_n hx hb dX10_findIn_10 rfl (lv_at hl 1 rfl) ?_
        refine lv_iload hx hb dX10_findIn_11 (lv_at hl 4 rfl) ?_
        refine lv_iadd hx hb dX10_findIn_13 (lv_topi (fun v_1 e_v_1 => ?_))
        obtain ⟨t_v_1, r_v_1⟩ := tq_add (lo := 10) (hi := 15) r_p1 r_x5 (by decide +kernel) e_v_1
        refine tg_laldE hx hb hK hw h_p0 rfl r_v_1 (by decide) dX10_findIn_14 (fun w_2 r_w_2 l_w_2 => ?_)
        refine lv_lload_n hx hb dX10_findIn_15 rfl (lv_at hl 3 rfl) ?_
        refine W.lcmp hx hb dX10_findIn_16 (lv_topi (fun v_3 e_v_3 => ?_))
        have r_v_3 := ri_any v_3
        refine lv_if_ne (tgt := 23) hx hb dX10_findIn_17 (by decide) (fun c_17 => ?_) (fun c_17 => ?_)
        · obtain ⟨v_4, e_v_4⟩ : ∃ q9 : Int32, q9 = x5 + Int32.ofInt 1 := ⟨_, rfl⟩
          obtain ⟨t_v_4, r_v_4⟩ := tq_add (lo := 1) (hi := 6) r_x5 (show RI (Int32.ofInt 1) 1 1 by unfold RI; decide +kernel) (by decide +kernel) e_v_4
          have t_v_4 : v_4.toInt = x5.toInt + 1 := t_v_4
          refine lv_iinc (v := v_4) (lv' := [(5, .int v_4), (0, .ref p0), (1, .int p1), (2, .int p2), (3, .long p3)]) hx hb dX10_findIn_23 hl (k := 4) rfl e_v_4.symm (by decide) rfl (fun ls hl => ?_)
          refine lv_goto (tgt := 3) hx hb dX10_findIn_26 (by decide) ?_
          have x_NF_p0_p1_v_4_p3 : NFD w0 p0 p1 v_4 p3 := NFD.step hw x_NF_p0_p1__5_p3 l_w_2 (by have k1 := r_v_1.cl (by decide); have k2 := r_p1.cl (by decide); have k3 := r_x5.cl (by decide); omega) (lcmp_ne e_v_3 c_17) t_v_4 r_x5.1
          exact ih3 v_4 _ _ ls (by have q0 := r_v_4.1; have u0 := r_v_4.2; have o0 := r_x5.1; have p0 := r_x5.2; omega) r_p1 (r_p2.to (by decide)) r_p3 (r_v_4.to (by decide)) x_NF_p0_p1_v_4_p3 hw (lv_sub hl [1, 2, 3, 4, 0] rfl)
        · have r_v_3 : RI v_3 0 0 := rc_eq1 r_v_3 rl_0 (ti_eq c_17) (by decide)
          have x_FD_p0_p1_p2_p3 : FDD w0 p0 p1 p2 p3 := FDD.mk l_w_2 (by have k1 := r_v_1.cl (by decide); have k2 := r_p1.cl (by decide); have k3 := r_x5.cl (by decide); omega) (lcmp_eq e_v_3 c_17) (ti_nle c_6) r_x5.1
          have x_POS_p2 : 1 ≤ Int32.toInt p2 := by have k1 := ti_nle c_6; have k2 := r_x5.1; omega
          refine lv_iload hx hb dX10_findIn_20 (lv_at hl 4 rfl) ?_
          subst hQ
          exact W.iret (v := x5) hx hb hr (fun t ht hW => ⟨⟨x5, (), rfl, ⟨r_x5.to (by decide), (fun h0 => trivial), (fun h0 => trivial), trivial, (fun h0 => absurd h0 (by have h8 := r_x5; unfold RI at h8; omega)), (fun h0 => ⟨x_FD_p0_p1_p2_p3, x_POS_p2, trivial⟩)⟩, by rw [ht]; exact hw.2.1, va_K.moved hW.alike hK, hw.2.2.1⟩, hw.2.2.2.1.F ht⟩) hw.2.2.2.1.2.2 dX10_findIn_22
  refine lv_iconst (v := 0) hx hb dX10_findIn_0 (by decide) ?_
  refine lv_istore (lv' := [(5, .int 0), (0, .ref p0), (1, .int p1), (2, .int p2), (3, .long p3)]) hx hb dX10_findIn_1 hl (by decide) rfl (fun ls hl => ?_)
  have x_NF_p0_p1_0_p3 : NFD w0 p0 p1 0 p3 := NFD.zero hw h_p0 rfl
  exact B3 4294967298 0 _ _ ls (by have q0 := rl_0.1; have u0 := rl_0.2; omega) r_p1 r_p2 r_p3 (rl_0.to (by decide)) x_NF_p0_p1_0_p3 hw (lv_sub hl [1, 2, 3, 4, 0] rfl)
abbrev wr_X10_readNamed__1 : List (Nat × Nat) := [(10, 5), (10, 6), (10, 7), (10, 8), (10, 9), (10, 10), (10, 11), (10, 12), (10, 13)]
abbrev wa_X10_readNamed__1 : List Nat := []
set_option maxHeartbeats 4000000 in
set_option maxRecDepth 100000 in
theorem c_X10_readNamed__1 (l : Launch) (D : va_G) (cy : Nat → ClassId) (z : Nat → Nat) (sz : Nat) (Ps : PSI) (w0 : va_W) (hT : HT cy GG Ps w0) (p0 : Nat) (p1 : Int32) (p2 : Int32) (h_p0 : (p0, 55) ∈ Ps) (r_p1 : RI p1 10 10) (r_p2 : RI p2 0 6) : Met l yX10_readNamed (Cond.code yX10_readNamed cX10_readNamed 3 (some .boolean) :: gT) ({ frames := 4, cells := 0, slots := 0, locals := 800 } : Room) (va_Pc [.ref p0, .int p1, .int p2] (PRE D cy z w0 sz)) (va_Qi (fun (r : Int32) (u : va_W) => (RI r 0 1 ∧ (r = 0 → True) ∧ (¬ r = 0 → RI p2 1 6 ∧ (∃ v9 : Int32, FLD u p0 10 13 (.int v9) ∧ RI v9 0 5) ∧ True)) ∧ HT cy GG Ps u ∧ FR wr_X10_readNamed__1 wa_X10_readNamed__1 Ps w0 u) (BB D cy (va_A w0 sz) (fun (u : va_W) => u)) (va_A w0 sz)) 0 0 (va_A w0 sz) := by
  refine Met.ofW (cc := cX10_readNamed) (maxL := 3) (ret := (some .boolean)) (by decide) rfl ?_
  intro p e s m args below meth c s₁ B hml hv
  obtain ⟨rfl, hsz, hP, hK, hD0, hSD⟩ := hv
  have hx := B.exec
  have hb := B.bytes
  have hr := B.returns
  have hlocks := B.notSynchronized
  have hts : ∀ w ∈ gT, w.before _ s = true := fun w h => atoms_spec (ws := Cond.code yX10_readNamed cX10_readNamed 3 (some .boolean) :: gT) B.pre w (List.mem_cons_of_mem _ h)
  have hown : s.vm.findClass RX10 = some m.cls := findClass_of_methodNamed B.named
  subst hsz
  have hD := hD0.self (sz := s.heap.size)
  generalize hAe : va_A w0 s.heap.size = A at hD hSD ⊢
  have hA : ∀ q : Nat, s.heap.size ≤ q → A q := fun q h => by rw [← hAe]; exact Or.inr h
  have hl := lv_entry ([.ref p0, .int p1, .int p2]) (n := 3) (Nat.le_of_ble_eq_true rfl)
  rw [lg_entry_eq]
  generalize (lg_sl ([.ref p0, .int p1, .int p2]) ++ List.replicate (3 - (lg_sl ([.ref p0, .int p1, .int p2])).length) Slot.unset).toArray = ls at hl ⊢
  have hl : lv_has ls 3 [(0, .ref p0), (1, .int p1), (2, .int p2)] := hl
  refine nameQ (fun Q hQ => ?_)
  have hw : WD D cy GG A s wr_X10_readNamed__1 wa_X10_readNamed__1 Ps w0 Ps w0 s.heap [] := ⟨hT, hP, hD, va_S.rf, FR.rf, hT.1, [], (List.append_nil _).symm⟩
  refine lv_aload_n hx hb dX10_readNamed_0 rfl (lv_at hl 0 rfl) ?_
  refine tk_ir (va_runV (As := []) (rest := []) ⟨hx, hb, hml, hown, hts⟩ (c_X10_isName l D cy z s.heap.size Ps w0 hw.1 p0 h_p0) (cwV 0 hts (gV tw_1344 tw_1346 ts_48 tw_15 tw_1347) rfl rfl rfl (by decide +kernel) ⟨Nat.le_of_ble_eq_true rfl, Nat.le_of_ble_eq_true rfl⟩) (tg_preV hw hK hSD hA (ci := 10) (q := (RX10, TX10, 49)) rfl h_p0 rfl) rfl rfl hl.1 rfl (lv_room (Nat.le_of_ble_eq_true rfl)) dX10_readNamed_1 ⟨Nat.le_of_ble_eq_true rfl, Nat.le_of_ble_eq_true rfl⟩) hw hA (fun v_1  H locs hp_v_1 hw => ?_)
  have r_v_1 : RI v_1 0 1 := hp_v_1.1
  refine lv_if_ne (tgt := 13) hx hb dX10_readNamed_4 (by decide) (fun c_4 => ?_) (fun c_4 => ?_)
  · have r_v_1 : RI v_1 1 1 := rc_neL r_v_1 rl_0 (ti_ne c_4) (by decide)
    refine lv_aload_n hx hb dX10_readNamed_13 rfl (lv_at hl 0 rfl) ?_
    refine lv_aload_n hx hb dX10_readNamed_14 rfl (lv_at hl 0 rfl) ?_
    refine tg_get (ci := 10) (ts := ty_MODEL) (C := RX10) (T := TX10) (N := 49) hx hb hts inX10 hown hK hw h_p0 rfl rfl 20 (by decide) (hts _ tw_1157) (fun _ h9 => h9) (ft := vR 41) rfl dX10_readNamed_15 (fun u_2 hv_u_2 m_u_2 => ?_)
    obtain ⟨vu_2, rfl, h_vu_2⟩ := hv_u_2
    refine lv_iload_n hx hb dX10_readNamed_18 rfl (lv_at hl 1 rfl) ?_
    refine lv_iload_n hx hb dX10_readNamed_19 rfl (lv_at hl 2 rfl) ?_
    refine lv_aload_n hx hb dX10_readNamed_20 rfl (lv_at hl 0 rfl) ?_
    refine tg_get (ci := 10) (ts := ty_MODEL) (C := RX10) (T := TX10) (N := 49) hx hb hts inX10 hown hK hw h_p0 rfl rfl 12 (by decide) (hts _ tw_1149) (fun _ h9 => h9) (ft := vJ (-9223372036854775808) 9223372036854775807) rfl dX10_readNamed_21 (fun u_3 hv_u_3 m_u_3 => ?_)
    obtain ⟨vu_3, rfl, r_vu_3⟩ := hv_u_3
    refine tk_ir (va_runS (As := [.ref vu_2, .int p1, .int p2, .long vu_3]) (rest := [.ref p0]) ⟨hx, hb, hml, hown, hts⟩ (c_X10_findIn__5 l D cy z H.size Ps w0 hw.1 vu_2 p1 p2 vu_3 h_vu_2 r_p1 r_p2 r_vu_3) (va_cwS 4 hts (gS tw_1352 tw_1353 tw_15 tw_1354) rfl rfl rfl (by decide +kernel) ⟨Nat.le_of_ble_eq_true rfl, Nat.le_of_ble_eq_true rfl⟩) (tg_preS hw hK hSD hA) rfl rfl hl.1 rfl (lv_room (Nat.le_of_ble_eq_true rfl)) dX10_readNamed_24 ⟨Nat.le_of_ble_eq_true rfl, Nat.le_of_ble_eq_true rfl⟩) hw hA (fun v_4  H locs hp_v_4 hw => ?_)
    have r_v_4 : RI v_4 (-1) 5 := hp_v_4.1
    by_cases c9_v_4 : v_4.toInt < 0
    · have r_v_4 : RI v_4 (-1) (-1) := by unfold RI at r_v_4 ⊢; omega
      have x_NF_vu_2_p1_p2_vu_3 := (hp_v_4.2.2.2.2.1 (by omega)).1
      refine tg_put (ci := 10) (ts := ty_MODEL) (v := .int v_4) (ty := .int) (C := RX10) (T := TX10) (N := 49) hx hb hts inX10 tyX10 tyX10_ok nmX10 hown hK hw h_p0 rfl rfl 13 (by decide) (hts _ tw_1150) (fun _ h9 => h9) rfl (by decide +kernel) rfl rfl (ft := vI (-2147483648) 2147483647) rfl ⟨_, rfl, (r_v_4.to (by decide))⟩ (by decide) dX10_readNamed_27 (fun ws H locs hw n_k_5 hF9 => ?_)
      refine lv_aload_n hx hb dX10_readNamed_30 rfl (lv_at hl 0 rfl) ?_
      refine tg_mem (ci := 10) (C := RX10) (T := TX10) (N := 49) hx hb hts inX10 hown hK hw 13 n_k_5 rfl (by decide) (hts _ tw_1150) (fun _ h9 => h9) dX10_readNamed_31 ?_
      refine lv_iconst (v := (-1)) hx hb dX10_readNamed_34 (by decide) ?_
      refine lv_icmp_ne (tgt := 44) hx hb dX10_readNamed_35 (by decide) (fun c_35 => ?_) (fun c_35 => ?_)
      · exact absurd (r_v_4.eq.trans rl_m1.eq.symm) ((ti_ne c_35))
      · refine lv_aload_n hx hb dX10_readNamed_38 rfl (lv_at hl 0 rfl) ?_
        refine lv_iconst (v := 3) hx hb dX10_readNamed_39 (by decide) ?_
        refine tk_i (va_runV (As := [.int 3]) (rest := []) ⟨hx, hb, hml, hown, hts⟩ (c_X10_bad l D cy z H.size Ps ws hw.1 p0 3 h_p0 (rl_3.to (by decide))) (cwV 1 hts (gV tw_1336 tw_1338 ts_46 tw_15 tw_1339) rfl rfl rfl (by decide +kernel) ⟨Nat.le_of_ble_eq_true rfl, Nat.le_of_ble_eq_true rfl⟩) (tg_preV hw hK hSD hA (ci := 10) (q := (RX10, TX10, 49)) rfl h_p0 rfl) rfl rfl hl.1 rfl (lv_room (Nat.le_of_ble_eq_true rfl)) dX10_readNamed_40 ⟨Nat.le_of_ble_eq_true rfl, Nat.le_of_ble_eq_true rfl⟩) hw hA ⟨by decide, by decide⟩ (fun v_6 ws H locs hp_v_6 hw hF9 => ?_)
        have n_k_5 := FLD.over hF9 n_k_5 (by decide)
        have r_v_6 : RI v_6 0 0 := hp_v_6.1
        subst hQ
        exact W.zret (v := v_6) hx hb hr (tq_nz (r_v_6.to (by decide))) (fun t ht hW => ⟨⟨v_6, ws, rfl, ⟨⟨r_v_6.to (by decide), (fun h0 => trivial), (fun h0 => absurd (Int32.toInt_inj.mp (by have h8 := r_v_6; unfold RI at h8; rw [Int32.toInt_zero]; omega)) h0)⟩, hw.1, hw.2.2.2.2.1⟩, by rw [ht]; exact hw.2.1, va_K.moved hW.alike hK, hw.2.2.1⟩, hw.2.2.2.1.F ht⟩) hw.2.2.2.1.2.2 dX10_readNamed_43
    · have r_v_4 : RI v_4 0 5 := by unfold RI at r_v_4 ⊢; omega
      have x_FD_vu_2_p1_p2_vu_3 := (hp_v_4.2.2.2.2.2 (by omega)).1
      have x_POS_p2 := (hp_v_4.2.2.2.2.2 (by omega)).2.1
      have r_p2 : RI p2 1 6 := ⟨x_POS_p2, r_p2.2⟩
      refine tg_put (ci := 10) (ts := ty_MODEL) (v := .int v_4) (ty := .int) (C := RX10) (T := TX10) (N := 49) hx hb hts inX10 tyX10 tyX10_ok nmX10 hown hK hw h_p0 rfl rfl 13 (by decide) (hts _ tw_1150) (fun _ h9 => h9) rfl (by decide +kernel) rfl rfl (ft := vI (-2147483648) 2147483647) rfl ⟨_, rfl, (r_v_4.to (by decide))⟩ (by decide) dX10_readNamed_27 (fun ws H locs hw n_k_7 hF9 => ?_)
      refine lv_aload_n hx hb dX10_readNamed_30 rfl (lv_at hl 0 rfl) ?_
      refine tg_mem (ci := 10) (C := RX10) (T := TX10) (N := 49) hx hb hts inX10 hown hK hw 13 n_k_7 rfl (by decide) (hts _ tw_1150) (fun _ h9 => h9) dX10_readNamed_31 ?_
      refine lv_iconst (v := (-1)) hx hb dX10_readNamed_34 (by decide) ?_
      refine lv_icmp_ne (tgt := 44) hx hb dX10_readNamed_35 (by decide) (fun c_35 => ?_) (fun c_35 => ?_)
      · refine lv_aload_n hx hb dX10_readNamed_44 rfl (lv_at hl 0 rfl) ?_
        refine tk_v (va_runV (As := []) (rest := []) ⟨hx, hb, hml, hown, hts⟩ (c_X10_go l D cy z H.size Ps ws hw.1 p0 h_p0) (cwV 0 hts (gV tw_1298 tw_1300 ts_40 tw_15 tw_1301) rfl rfl rfl (by decide +kernel) ⟨Nat.le_of_ble_eq_true rfl, Nat.le_of_ble_eq_true rfl⟩) (tg_preV hw hK hSD hA (ci := 10) (q := (RX10, TX10, 49)) rfl h_p0 rfl) rfl rfl hl.1 rfl (lv_room (Nat.le_of_ble_eq_true rfl)) dX10_readNamed_45 ⟨Nat.le_of_ble_eq_true rfl, Nat.le_of_ble_eq_true rfl⟩) hw hA ⟨by decide, by decide⟩ (fun ws H locs hp_v_8 hw hF9 => ?_)
        have n_k_7 := FLD.over hF9 n_k_7 (by decide)
        refine lv_iconst (v := 1) hx hb dX10_readNamed_48 (by decide) ?_
        subst hQ
        exact W.zret (v := 1) hx hb hr (rfl) (fun t ht hW => ⟨⟨1, ws, rfl, ⟨⟨rl_1.to (by decide), (fun _ => trivial), (fun h0 => ⟨r_p2, ⟨_, n_k_7, r_v_4⟩, trivial⟩)⟩, hw.1, hw.2.2.2.2.1⟩, by rw [ht]; exact hw.2.1, va_K.moved hW.alike hK, hw.2.2.1⟩, hw.2.2.2.1.F ht⟩) hw.2.2.2.1.2.2 dX10_readNamed_49
      · have r_v_4 : RI v_4 0 (-1) := rc_eq1 r_v_4 rl_m1 (ti_eq c_35) (by decide)
        exact (r_v_4.no (by decide)).elim
  · have r_v_1 : RI v_1 0 0 := rc_eq1 r_v_1 rl_0 (ti_eq c_4) (by decide)
    refine lv_aload_n hx hb dX10_readNamed_7 rfl (lv_at hl 0 rfl) ?_
    refine lv_iconst (v := 1) hx hb dX10_readNamed_8 (by decide) ?_
    refine tk_i (va_runV (As := [.int 1]) (rest := []) ⟨hx, hb, hml, hown, hts⟩ (c_X10_bad l D cy z H.size Ps w0 hw.1 p0 1 h_p0 (rl_1.to (by decide))) (cwV 1 hts (gV tw_1336 tw_1338 ts_46 tw_15 tw_1339) rfl rfl rfl (by decide +kernel) ⟨Nat.le_of_ble_eq_true rfl, Nat.le_of_ble_eq_true rfl⟩) (tg_preV hw hK hSD hA (ci := 10) (q := (RX10, TX10, 49)) rfl h_p0 rfl) rfl rfl hl.1 rfl (lv_room (Nat.le_of_ble_eq_true rfl)) dX10_readNamed_9 ⟨Nat.le_of_ble_eq_true rfl, Nat.le_of_ble_eq_true rfl⟩) hw hA ⟨by decide, by decide⟩ (fun v_9 ws H locs hp_v_9 hw hF9 => ?_)
    have r_v_9 : RI v_9 0 0 := hp_v_9.1
    subst hQ
    exact W.zret (v := v_9) hx hb hr (tq_nz (r_v_9.to (by decide))) (fun t ht hW => ⟨⟨v_9, ws, rfl, ⟨⟨r_v_9.to (by decide), (fun h0 => trivial), (fun h0 => absurd (Int32.toInt_inj.mp (by have h8 := r_v_9; unfold RI at h8; rw [Int32.toInt_zero]; omega)) h0)⟩, hw.1, hw.2.2.2.2.1⟩, by rw [ht]; exact hw.2.1, va_K.moved hW.alike hK, hw.2.2.1⟩, hw.2.2.2.1.F ht⟩) hw.2.2.2.1.2.2 dX10_readNamed_12
abbrev wr_X10_readParcelName : List (Nat × Nat) := [(10, 5), (10, 6), (10, 7), (10, 8), (10, 9), (10, 10), (10, 11), (10, 12), (10, 13)]
abbrev wa_X10_readParcelName : List Nat := []
set_option maxHeartbeats 4000000 in
set_option maxRecDepth 100000 in
theorem c_X10_readParcelName (l : Launch) (D : va_G) (cy : Nat → ClassId) (z : Nat → Nat) (sz : Nat) (Ps : PSI) (w0 : va_W) (hT : HT cy GG Ps w0) (p0 : Nat) (h_p0 : (p0, 55) ∈ Ps) : Met l yX10_readParcelName (Cond.code yX10_readParcelName cX10_readParcelName 1 (some .boolean) :: gT) ({ frames := 5, cells := 0, slots := 0, locals := 1000 } : Room) (va_Pc [.ref p0] (PRE D cy z w0 sz)) (va_Qi (fun (r : Int32) (u : va_W) => (RI r 0 1 ∧ (r = 0 → True) ∧ (¬ r = 0 → (∃ v9 : Int32, FLD u p0 10 13 (.int v9) ∧ RI v9 0 5) ∧ True)) ∧ HT cy GG Ps u ∧ FR wr_X10_readParcelName wa_X10_readParcelName Ps w0 u) (BB D cy (va_A w0 sz) (fun (u : va_W) => u)) (va_A w0 sz)) 0 0 (va_A w0 sz) := by
  refine Met.ofW (cc := cX10_readParcelName) (maxL := 1) (ret := (some .boolean)) (by decide) rfl ?_
  intro p e s m args below meth c s₁ B hml hv
  obtain ⟨rfl, hsz, hP, hK, hD0, hSD⟩ := hv
  have hx := B.exec
  have hb := B.bytes
  have hr := B.returns
  have hlocks := B.notSynchronized
  have hts : ∀ w ∈ gT, w.before _ s = true := fun w h => atoms_spec (ws := Cond.code yX10_readParcelName cX10_readParcelName 1 (some .boolean) :: gT) B.pre w (List.mem_cons_of_mem _ h)
  have hown : s.vm.findClass RX10 = some m.cls := findClass_of_methodNamed B.named
  subst hsz
  have hD := hD0.self (sz := s.heap.size)
  generalize hAe : va_A w0 s.heap.size = A at hD hSD ⊢
  have hA : ∀ q : Nat, s.heap.size ≤ q → A q := fun q h => by rw [← hAe]; exact Or.inr h
  have hl := lv_entry ([.ref p0]) (n := 1) (Nat.le_of_ble_eq_true rfl)
  rw [lg_entry_eq]
  generalize (lg_sl ([.ref p0]) ++ List.replicate (1 - (lg_sl ([.ref p0])).length) Slot.unset).toArray = ls at hl ⊢
  have hl : lv_has ls 1 [(0, .ref p0)] := hl
  refine nameQ (fun Q hQ => ?_)
  have hw : WD D cy GG A s wr_X10_readParcelName wa_X10_readParcelName Ps w0 Ps w0 s.heap [] := ⟨hT, hP, hD, va_S.rf, FR.rf, hT.1, [], (List.append_nil _).symm⟩
  refine lv_aload_n hx hb dX10_readParcelName_0 rfl (lv_at hl 0 rfl) ?_
  refine lv_bipush (v := 10) hx hb dX10_readParcelName_1 (by decide) ?_
  refine lv_aload_n hx hb dX10_readParcelName_3 rfl (lv_at hl 0 rfl) ?_
  refine tg_get (ci := 10) (ts := ty_MODEL) (C := RX10) (T := TX10) (N := 49) hx hb hts inX10 hown hK hw h_p0 rfl rfl 14 (by decide) (hts _ tw_1151) (fun _ h9 => h9) (ft := vR 34) rfl dX10_readParcelName_4 (fun u_1 hv_u_1 m_u_1 => ?_)
  obtain ⟨vu_1, rfl, h_vu_1⟩ := hv_u_1
  refine lv_iconst (v := 2) hx hb dX10_readParcelName_7 (by decide) ?_
  refine tg_iald (lo := 0) (hi := 6) hx hb hK hw h_vu_1 rfl 2 2 rl_2 (by decide) (by decide +kernel) dX10_readParcelName_8 (fun v_2 r_v_2 m_v_2 o_v_2 => ?_)
  refine tk_i (va_runV (As := [.int 10, .int v_2]) (rest := []) ⟨hx, hb, hml, hown, hts⟩ (c_X10_readNamed__1 l D cy z s.heap.size Ps w0 hw.1 p0 10 v_2 h_p0 rl_10 r_v_2) (cwV 2 hts (gV tw_1723 tw_1725 ts_106 tw_15 tw_1726) rfl rfl rfl (by decide +kernel) ⟨Nat.le_of_ble_eq_true rfl, Nat.le_of_ble_eq_true rfl⟩) (tg_preV hw hK hSD hA (ci := 10) (q := (RX10, TX10, 49)) rfl h_p0 rfl) rfl rfl hl.1 rfl (lv_room (Nat.le_of_ble_eq_true rfl)) dX10_readParcelName_9 ⟨Nat.le_of_ble_eq_true rfl, Nat.le_of_ble_eq_true rfl⟩) hw hA ⟨by decide, by decide⟩ (fun v_3 ws H locs hp_v_3 hw hF9 => ?_)
  have r_v_3 : RI v_3 0 1 := hp_v_3.1
  by_cases c9_v_3 : v_3 = 0
  · have r_v_3 : RI v_3 0 0 := by rw [c9_v_3]; exact rl_0
    subst hQ
    exact W.zret (v := v_3) hx hb hr (tq_nz (r_v_3.to (by decide))) (fun t ht hW => ⟨⟨v_3, ws, rfl, ⟨⟨r_v_3.to (by decide), (fun h0 => trivial), (fun h0 => absurd (Int32.toInt_inj.mp (by have h8 := r_v_3; unfold RI at h8; rw [Int32.toInt_zero]; omega)) h0)⟩, hw.1, hw.2.2.2.2.1⟩, by rw [ht]; exact hw.2.1, va_K.moved hW.alike hK, hw.2.2.1⟩, hw.2.2.2.1.F ht⟩) hw.2.2.2.1.2.2 dX10_readParcelName_12
  · have r_v_3 : RI v_3 1 1 := rc_neL r_v_3 rl_0 (ti_ne c9_v_3) (by decide)
    have r_v_2 : RI v_2 1 6 := ((hp_v_3.2.2 c9_v_3).1)
    obtain ⟨v_4, m_v_4, r_v_4⟩ := ((hp_v_3.2.2 c9_v_3).2.1)
    subst hQ
    exact W.zret (v := v_3) hx hb hr (tq_nz (r_v_3.to (by decide))) (fun t ht hW => ⟨⟨v_3, ws, rfl, ⟨⟨r_v_3.to (by decide), (fun _ => trivial), (fun h0 => ⟨⟨_, m_v_4, r_v_4⟩, trivial⟩)⟩, hw.1, hw.2.2.2.2.1⟩, by rw [ht]; exact hw.2.1, va_K.moved hW.alike hK, hw.2.2.1⟩, hw.2.2.2.1.F ht⟩) hw.2.2.2.1.2.2 dX10_readParcelName_12
abbrev wr_X10_worthOf : List (Nat × Nat) := []
abbrev wa_X10_worthOf : List Nat := [34, 39, 46]
set_option maxHeartbeats 4000000 in
set_option maxRecDepth 100000 in
theorem c_X10_worthOf (l : Launch) (D : va_G) (cy : Nat → ClassId) (z : Nat → Nat) (sz : Nat) (Ps : PSI) (w0 : va_W) (hT : HT cy GG Ps w0) (p0 : Nat) (p1 : Int32) (p2 : Int32) (h_p0 : (p0, 55) ∈ Ps) (r_p1 : RI p1 0 7) (r_p2 : RI p2 0 5) : Met l yX10_worthOf (Cond.code yX10_worthOf cX10_worthOf 4 (some .int) :: gT) ({ frames := 6, cells := 0, slots := 0, locals := 1200 } : Room) (va_Pc [.ref p0, .int p1, .int p2] (PRE D cy z w0 sz)) (va_Qi (fun (r : Int32) (u : va_W) => (RI r (-2147483648) 2147483647 ∧ (r = 0 → True) ∧ (¬ r = 0 → True)) ∧ HT cy GG Ps u ∧ FR wr_X10_worthOf wa_X10_worthOf Ps w0 u) (BB D cy (va_A w0 sz) (fun (u : va_W) => u)) (va_A w0 sz)) 0 0 (va_A w0 sz) := by
  refine Met.ofW (cc := cX10_worthOf) (maxL := 4) (ret := (some .int)) (by decide) rfl ?_
  intro p e s m args below meth c s₁ B hml hv
  obtain ⟨rfl, hsz, hP, hK, hD0, hSD⟩ := hv
  have hx := B.exec
  have hb := B.bytes
  have hr := B.returns
  have hlocks := B.notSynchronized
  have hts : ∀ w ∈ gT, w.before _ s = true := fun w h => atoms_spec (ws := Cond.code yX10_worthOf cX10_worthOf 4 (some .int) :: gT) B.pre w (List.mem_cons_of_mem _ h)
  have hown : s.vm.findClass RX10 = some m.cls := findClass_of_methodNamed B.named
  subst hsz
  have hD := hD0.self (sz := s.heap.size)
  generalize hAe : va_A w0 s.heap.size = A at hD hSD ⊢
  have hA : ∀ q : Nat, s.heap.size ≤ q → A q := fun q h => by rw [← hAe]; exact Or.inr h
  have hl := lv_entry ([.ref p0, .int p1, .int p2]) (n := 4) (Nat.le_of_ble_eq_true rfl)
  rw [lg_entry_eq]
  generalize (lg_sl ([.ref p0, .int p1, .int p2]) ++ List.replicate (4 - (lg_sl ([.ref p0, .int p1, .int p2])).length) Slot.unset).toArray = ls at hl ⊢
  have hl : lv_has ls 4 [(0, .ref p0), (1, .int p1), (2, .int p2)] := hl
  refine nameQ (fun Q hQ => ?_)
  have hw : WD D cy GG A s wr_X10_worthOf wa_X10_worthOf Ps w0 Ps w0 s.heap [] := ⟨hT, hP, hD, va_S.rf, FR.rf, hT.1, [], (List.append_nil _).symm⟩
  have B56 : ∀ (y0 : Int32) (ws : va_W) (H : Heap) (locs : List Loc) (ls : Array Slot), RI p1 0 7 → RI p2 0 5 → RI y0 (-2147483648) 2147483647 → WD D cy GG A s wr_X10_worthOf wa_X10_worthOf Ps w0 Ps ws H locs → lv_has ls 4 [(0, .ref p0), (1, .int p1), (2, .int p2)] → W p l e (headSpec (Cond.code yX10_worthOf cX10_worthOf 4 (some .int) :: gT) ({ frames := 6, cells := 0, slots := 0, locals := 1200 } : Room)).room s m ([.ref p0, .int p1, .int p2] : List Value).toArray below meth c H locs 0 0 Q (F0 m 56 ls [.int y0]) := by
    intro y0 ws H locs ls r_p1 r_p2 r_y0 hw hl
    refine lv_istore_n (lv' := [(3, .int y0), (0, .ref p0), (1, .int p1), (2, .int p2)]) hx hb dX10_worthOf_56 rfl hl (by decide) rfl (fun ls hl => ?_)
    refine lv_aload_n hx hb dX10_worthOf_57 rfl (lv_at hl 1 rfl) ?_
    refine tk_v (va_runV (As := []) (rest := []) ⟨hx, hb, hml, hown, hts⟩ (c_X10_back l D cy z H.size Ps ws hw.1 p0 h_p0) (cwV 0 hts (gV tw_1611 tw_1613 ts_92 tw_15 tw_1614) rfl rfl rfl (by decide +kernel) ⟨Nat.le_of_ble_eq_true rfl, Nat.le_of_ble_eq_true rfl⟩) (tg_preV hw hK hSD hA (ci := 10) (q := (RX10, TX10, 49)) rfl h_p0 rfl) rfl rfl hl.1 rfl (lv_room (Nat.le_of_ble_eq_true rfl)) dX10_worthOf_58 ⟨Nat.le_of_ble_eq_true rfl, Nat.le_of_ble_eq_true rfl⟩) hw hA ⟨by decide, by decide⟩ (fun ws H locs hp_v_1 hw hF9 => ?_)
    refine lv_iload_n hx hb dX10_worthOf_61 rfl (lv_at hl 0 rfl) ?_
    subst hQ
    exact W.iret (v := y0) hx hb hr (fun t ht hW => ⟨⟨y0, ws, rfl, ⟨⟨r_y0.to (by decide), (fun h0 => trivial), (fun h0 => trivial)⟩, hw.1, hw.2.2.2.2.1⟩, by rw [ht]; exact hw.2.1, va_K.moved hW.alike hK, hw.2.2.1⟩, hw.2.2.2.1.F ht⟩) hw.2.2.2.1.2.2 dX10_worthOf_62
  refine lv_aload_n hx hb dX10_worthOf_0 rfl (lv_at hl 0 rfl) ?_
  refine tk_v (va_runV (As := []) (rest := []) ⟨hx, hb, hml, hown, hts⟩ (c_X10_hold l D cy z s.heap.size Ps w0 hw.1 p0 h_p0) (cwV 0 hts (gV tw_1607 tw_1609 ts_91 tw_15 tw_1610) rfl rfl rfl (by decide +kernel) ⟨Nat.le_of_ble_eq_true rfl, Nat.le_of_ble_eq_true rfl⟩) (tg_preV hw hK hSD hA (ci := 10) (q := (RX10, TX10, 49)) rfl h_p0 rfl) rfl rfl hl.1 rfl (lv_room (Nat.le_of_ble_eq_true rfl)) dX10_worthOf_1 ⟨Nat.le_of_ble_eq_true rfl, Nat.le_of_ble_eq_true rfl⟩) hw hA ⟨by decide, by decide⟩ (fun ws H locs hp_v_2 hw hF9 => ?_)
  refine lv_aload_n hx hb dX10_worthOf_4 rfl (lv_at hl 0 rfl) ?_
  refine tg_get (ci := 10) (ts := ty_MODEL) (C := RX10) (T := TX10) (N := 49) hx hb hts inX10 hown hK hw h_p0 rfl rfl 14 (by decide) (hts _ tw_1151) (fun _ h9 => h9) (ft := vR 34) rfl dX10_worthOf_5 (fun u_3 hv_u_3 m_u_3 => ?_)
  obtain ⟨vu_3, rfl, h_vu_3⟩ := hv_u_3
  refine lv_bipush (v := 112) hx hb dX10_worthOf_8 (by decide) ?_
  refine lv_iload_n hx hb dX10_worthOf_10 rfl (lv_at hl 1 rfl) ?_
  refine lv_iadd hx hb dX10_worthOf_11 (lv_topi (fun v_4 e_v_4 => ?_))
  obtain ⟨t_v_4, r_v_4⟩ := tq_add (lo := 112) (hi := 119) rl_112 r_p1 (by decide +kernel) e_v_4
  have t_v_4 : v_4.toInt = 112 + p1.toInt := t_v_4
  refine lv_iload_n hx hb dX10_worthOf_12 rfl (lv_at hl 2 rfl) ?_
  refine tg_iast hx hb hK hw h_vu_3 rfl 112 119 r_v_4 (by decide) r_p2 (by decide +kernel) (RN_upd (by decide) (by decide)) (by decide) dX10_worthOf_13 (fun ws H locs hw hF9 hU9 => ?_)
  refine lv_aload_n hx hb dX10_worthOf_14 rfl (lv_at hl 0 rfl) ?_
  refine lv_bipush (v := 7) hx hb dX10_worthOf_15 (by decide) ?_
  refine tk_i (va_runV (As := [.int 7]) (rest := []) ⟨hx, hb, hml, hown, hts⟩ (c_X10_passDays l D cy z H.size Ps ws hw.1 p0 7 h_p0 (rl_7.to (by decide))) (cwV 1 hts (gV tw_1560 tw_1562 ts_84 tw_15 tw_1563) rfl rfl rfl (by decide +kernel) ⟨Nat.le_of_ble_eq_true rfl, Nat.le_of_ble_eq_true rfl⟩) (tg_preV hw hK hSD hA (ci := 10) (q := (RX10, TX10, 49)) rfl h_p0 rfl) rfl rfl hl.1 rfl (lv_room (Nat.le_of_ble_eq_true rfl)) dX10_worthOf_17 ⟨Nat.le_of_ble_eq_true rfl, Nat.le_of_ble_eq_true rfl⟩) hw hA ⟨by decide, by decide⟩ (fun v_5 ws H locs hp_v_5 hw hF9 => ?_)
  have r_v_5 : RI v_5 (-2147483648) 2147483647 := hp_v_5.1
  refine lv_pop hx hb dX10_worthOf_20 rfl ?_
  refine lv_aload_n hx hb dX10_worthOf_21 rfl (lv_at hl 0 rfl) ?_
  refine lv_iload_n hx hb dX10_worthOf_22 rfl (lv_at hl 2 rfl) ?_
  refine tk_ir (va_runV (As := [.int p2]) (rest := []) ⟨hx, hb, hml, hown, hts⟩ (c_X10_whatIs l D cy z H.size Ps ws hw.1 p0 p2 h_p0 r_p2) (cwV 1 hts (gV tw_1449 tw_1451 ts_69 tw_15 tw_1452) rfl rfl rfl (by decide +kernel) ⟨Nat.le_of_ble_eq_true rfl, Nat.le_of_ble_eq_true rfl⟩) (tg_preV hw hK hSD hA (ci := 10) (q := (RX10, TX10, 49)) rfl h_p0 rfl) rfl rfl hl.1 rfl (lv_room (Nat.le_of_ble_eq_true rfl)) dX10_worthOf_23 ⟨Nat.le_of_ble_eq_true rfl, Nat.le_of_ble_eq_true rfl⟩) hw hA (fun v_6  H locs hp_v_6 hw => ?_)
  have r_v_6 : RI v_6 (-1) 5 := hp_v_6.1
  by_cases c9_v_6 : v_6.toInt < 0
  · have r_v_6 : RI v_6 (-1) (-1) := by unfold RI at r_v_6 ⊢; omega
    have x_NB_p0_p2 := (hp_v_6.2.2.2.2.1 (by omega)).1
    refine lv_aload_n hx hb dX10_worthOf_26 rfl (lv_at hl 0 rfl) ?_
    refine tg_get (ci := 10) (ts := ty_MODEL) (C := RX10) (T := TX10) (N := 49) hx hb hts inX10 hown hK hw h_p0 rfl rfl 14 (by decide) (hts _ tw_1151) (fun _ h9 => h9) (ft := vR 34) rfl dX10_worthOf_27 (fun u_7 hv_u_7 m_u_7 => ?_)
    obtain ⟨vu_7, rfl, h_vu_7⟩ := hv_u_7
    refine lv_bipush (v := 104) hx hb dX10_worthOf_30 (by decide) ?_
    refine lv_iload_n hx hb dX10_worthOf_32 rfl (lv_at hl 1 rfl) ?_
    refine lv_iadd hx hb dX10_worthOf_33 (lv_topi (fun v_8 e_v_8 => ?_))
    obtain ⟨t_v_8, r_v_8⟩ := tq_add (lo := 104) (hi := 111) rl_104 r_p1 (by decide +kernel) e_v_8
    have t_v_8 : v_8.toInt = 104 + p1.toInt := t_v_8
    refine tg_iald (lo := 0) (hi := 5) hx hb hK hw h_vu_7 rfl 104 111 r_v_8 (by decide) (by decide +kernel) dX10_worthOf_34 (fun v_9 r_v_9 m_v_9 o_v_9 => ?_)
    refine lv_icmp_ne (tgt := 55) hx hb dX10_worthOf_35 (by decide) (fun c_35 => ?_) (fun c_35 => ?_)
    · refine lv_iconst (v := 0) hx hb dX10_worthOf_55 (by decide) ?_
      exact B56 0 ws _ _ ls r_p1 r_p2 (rl_0.to (by decide)) hw hl
    · have r_v_6 : RI v_6 0 (-1) := rc_eq1 r_v_6 r_v_9 (ti_eq c_35) (by decide)
      have r_v_9 : RI v_9 0 (-1) := rc_eq2 r_v_6 r_v_9 (ti_eq c_35) (by decide)
      exact (r_v_6.no (by decide)).elim
  · have r_v_6 : RI v_6 0 5 := by unfold RI at r_v_6 ⊢; omega
    have x_WB_p0_p2_v_6 := (hp_v_6.2.2.2.2.2 (by omega)).1
    refine lv_aload_n hx hb dX10_worthOf_26 rfl (lv_at hl 0 rfl) ?_
    refine tg_get (ci := 10) (ts := ty_MODEL) (C := RX10) (T := TX10) (N := 49) hx hb hts inX10 hown hK hw h_p0 rfl rfl 14 (by decide) (hts _ tw_1151) (fun _ h9 => h9) (ft := vR 34) rfl dX10_worthOf_27 (fun u_10 hv_u_10 m_u_10 => ?_)
    obtain ⟨vu_10, rfl, h_vu_10⟩ := hv_u_10
    refine lv_bipush (v := 104) hx hb dX10_worthOf_30 (by decide) ?_
    refine lv_iload_n hx hb dX10_worthOf_32 rfl (lv_at hl 1 rfl) ?_
    refine lv_iadd hx hb dX10_worthOf_33 (lv_topi (fun v_11 e_v_11 => ?_))
    obtain ⟨t_v_11, r_v_11⟩ := tq_add (lo := 104) (hi := 111) rl_104 r_p1 (by decide +kernel) e_v_11
    have t_v_11 : v_11.toInt = 104 + p1.toInt := t_v_11
    refine tg_iald (lo := 0) (hi := 5) hx hb hK hw h_vu_10 rfl 104 111 r_v_11 (by decide) (by decide +kernel) dX10_worthOf_34 (fun v_12 r_v_12 m_v_12 o_v_12 => ?_)
    refine lv_icmp_ne (tgt := 55) hx hb dX10_worthOf_35 (by decide) (fun c_35 => ?_) (fun c_35 => ?_)
    · refine lv_iconst (v := 0) hx hb dX10_worthOf_55 (by decide) ?_
      exact B56 0 ws _ _ ls r_p1 r_p2 (rl_0.to (by decide)) hw hl
    · refine lv_aload_n hx hb dX10_worthOf_38 rfl (lv_at hl 0 rfl) ?_
      refine lv_iload_n hx hb dX10_worthOf_39 rfl (lv_at hl 2 rfl) ?_
      refine lv_aload_n hx hb dX10_worthOf_40 rfl (lv_at hl 0 rfl) ?_
      refine tg_mem (ci := 10) (C := RX10) (T := TX10) (N := 49) hx hb hts inX10 hown hK hw 14 m_u_10 rfl (by decide) (hts _ tw_1151) (fun _ h9 => h9) dX10_worthOf_41 ?_
      refine lv_bipush (v := 104) hx hb dX10_worthOf_44 (by decide) ?_
      refine lv_iload_n hx hb dX10_worthOf_46 rfl (lv_at hl 1 rfl) ?_
      refine lv_iadd hx hb dX10_worthOf_47 (lv_topi (fun v_13 e_v_13 => ?_))
      obtain ⟨t_v_13, r_v_13⟩ := tq_add (lo := 104) (hi := 111) rl_104 r_p1 (by decide +kernel) e_v_13
      have t_v_13 : v_13.toInt = 104 + p1.toInt := t_v_13
      refine tg_iald (lo := 0) (hi := 5) hx hb hK hw h_vu_10 rfl 104 111 r_v_13 (by decide) (by decide +kernel) dX10_worthOf_48 (fun v_14 r_v_14 m_v_14 o_v_14 => ?_)
      refine tk_ir (va_runV (As := [.int p2, .int v_14]) (rest := []) ⟨hx, hb, hml, hown, hts⟩ (c_X10_muchOf l D cy z H.size Ps ws hw.1 p0 p2 v_14 h_p0 r_p2 r_v_14) (cwV 2 hts (gV tw_1437 tw_1439 ts_67 tw_15 tw_1440) rfl rfl rfl (by decide +kernel) ⟨Nat.le_of_ble_eq_true rfl, Nat.le_of_ble_eq_true rfl⟩) (tg_preV hw hK hSD hA (ci := 10) (q := (RX10, TX10, 49)) rfl h_p0 rfl) rfl rfl hl.1 rfl (lv_room (Nat.le_of_ble_eq_true rfl)) dX10_worthOf_49 ⟨Nat.le_of_ble_eq_true rfl, Nat.le_of_ble_eq_true rfl⟩) hw hA (fun v_15  H locs hp_v_15 hw => ?_)
      have r_v_15 : RI v_15 (-2147483648) 2147483647 := hp_v_15.1
      have x_MUCH_p0_p2_v_14_v_15 := hp_v_15.2.2.2.1.1
      refine lv_goto (tgt := 56) hx hb dX10_worthOf_52 (by decide) ?_
      exact B56 v_15 ws _ _ ls r_p1 r_p2 r_v_15 hw hl
abbrev wr_X10_resits : List (Nat × Nat) := []
abbrev wa_X10_resits : List Nat := [34, 39, 46]
set_option maxHeartbeats 4000000 in
set_option maxRecDepth 100000 in
theorem c_X10_resits (l : Launch) (D : va_G) (cy : Nat → ClassId) (z : Nat → Nat) (sz : Nat) (Ps : PSI) (w0 : va_W) (hT : HT cy GG Ps w0) (p0 : Nat) (p1 : Int32) (h_p0 : (p0, 55) ∈ Ps) (r_p1 : RI p1 0 7) : Met l yX10_resits (Cond.code yX10_resits cX10_resits 7 (some .boolean) :: gT) ({ frames := 7, cells := 0, slots := 0, locals := 1400 } : Room) (va_Pc [.ref p0, .int p1] (PRE D cy z w0 sz)) (va_Qi (fun (r : Int32) (u : va_W) => (RI r 0 1 ∧ (r = 0 → True) ∧ (¬ r = 0 → True)) ∧ HT cy GG Ps u ∧ FR wr_X10_resits wa_X10_resits Ps w0 u) (BB D cy (va_A w0 sz) (fun (u : va_W) => u)) (va_A w0 sz)) 0 0 (va_A w0 sz) := by
  refine Met.ofW (cc := cX10_resits) (maxL := 7) (ret := (some .boolean)) (by decide) rfl ?_
  intro p e s m args below meth c s₁ B hml hv
  obtain ⟨rfl, hsz, hP, hK, hD0, hSD⟩ := hv
  have hx := B.exec
  have hb := B.bytes
  have hr := B.returns
  have hlocks := B.notSynchronized
  have hts : ∀ w ∈ gT, w.before _ s = true := fun w h => atoms_spec (ws := Cond.code yX10_resits cX10_resits 7 (some .boolean) :: gT) B.pre w (List.mem_cons_of_mem _ h)
  have hown : s.vm.findClass RX10 = some m.cls := findClass_of_methodNamed B.named
  subst hsz
  have hD := hD0.self (sz := s.heap.size)
  generalize hAe : va_A w0 s.heap.size = A at hD hSD ⊢
  have hA : ∀ q : Nat, s.heap.size ≤ q → A q := fun q h => by rw [← hAe]; exact Or.inr h
  have hl := lv_entry ([.ref p0, .int p1]) (n := 7) (Nat.le_of_ble_eq_true rfl)
  rw [lg_entry_eq]
  generalize (lg_sl ([.ref p0, .int p1]) ++ List.replicate (7 - (lg_sl ([.ref p0, .int p1])).length) Slot.unset).toArray = ls at hl ⊢
  have hl : lv_has ls 7 [(0, .ref p0), (1, .int p1)] := hl
  refine nameQ (fun Q hQ => ?_)
  have hw : WD D cy GG A s wr_X10_resits wa_X10_resits Ps w0 Ps w0 s.heap [] := ⟨hT, hP, hD, va_S.rf, FR.rf, hT.1, [], (List.append_nil _).symm⟩
  have B49 : ∀ (nf : Nat) (x2 : Int32) (x3 : Int32) (x4 : Int32) (x5 : Int32) (ws : va_W) (H : Heap) (locs : List Loc) (ls : Array Slot), 6 - x5.toInt < (nf : Int) → RI p1 0 7 → RI x2 (-1) 5 → RI x3 (-1) 5 → RI x4 (-2147483648) 2147483647 → RI x5 0 6 → WD D cy GG A s wr_X10_resits wa_X10_resits Ps w0 Ps ws H locs → lv_has ls 7 [(0, .ref p0), (1, .int p1), (2, .int x2), (3, .int x3), (4, .int x4), (5, .int x5)] → W p l e (headSpec (Cond.code yX10_resits cX10_resits 7 (some .boolean) :: gT) ({ frames := 7, cells := 0, slots := 0, locals := 1400 } : Room)).room s m ([.ref p0, .int p1] : List Value).toArray below meth c H locs 0 0 Q (F0 m 49 ls []) := by
    intro nf49
    induction nf49 with
    | zero =>
      intro x2 x3 x4 x5 ws H locs ls hn49 r_p1 r_x2 r_x3 r_x4 r_x5 hw hl
      exact absurd hn49 (by have q0 := r_x5.1; have u0 := r_x5.2; omega)
    | succ nf49 ih49 =>
      intro x2 x3 x4 x5 ws H locs ls hn49 r_p1 r_x2 r_x3 r_x4 r_x5 hw hl
      refine lv_iload hx hb dX10_resits_49 (lv_at hl 5 rfl) ?_
      refine lv_aload_n hx hb dX10_resits_51 rfl (lv_at hl 0 rfl) ?_
      refine tg_get (ci := 10) (ts := ty_MODEL) (C := RX10) (T := TX10) (N := 49) hx hb hts inX10 hown hK hw h_p0 rfl rfl 14 (by decide) (hts _ tw_1151) (fun _ h9 => h9) (ft := vR 34) rfl dX10_resits_52 (fun u_1 hv_u_1 m_u_1 => ?_)
      obtain ⟨vu_1, rfl, h_vu_1⟩ := hv_u_1
      refine lv_iconst (v := 2) hx hb dX10_resits_55 (by decide) ?_
      refine tg_iald (lo := 0) (hi := 6) hx hb hK hw h_vu_1 rfl 2 2 rl_2 (by decide) (by decide +kernel) dX10_resits_56 (fun v_2 r_v_2 m_v_2 o_v_2 => ?_)
      refine lv_icmp_ge (tgt := 104) hx hb dX10_resits_57 (by decide) (fun c_57 => ?_) (fun c_57 => ?_)
      · refine lv_iload_n hx hb dX10_resits_104 rfl (lv_at hl 3 rfl) ?_
        refine lv_iconst (v := (-1)) hx hb dX10_resits_105 (by decide) ?_
        refine lv_icmp_eq (tgt := 114) hx hb dX10_resits_106 (by decide) (fun c_106 => ?_) (fun c_106 => ?_)
        · have r_x3 : RI x3 (-1) (-1) := rc_eq1 r_x3 rl_m1 (ti_eq c_106) (by decide)
          refine lv_iconst (v := 0) hx hb dX10_resits_114 (by decide) ?_
          subst hQ
          exact W.zret (v := 0) hx hb hr (rfl) (fun t ht hW => ⟨⟨0, ws, rfl, ⟨⟨rl_0.to (by decide), (fun h0 => trivial), (fun _ => trivial)⟩, hw.1, hw.2.2.2.2.1⟩, by rw [ht]; exact hw.2.1, va_K.moved hW.alike hK, hw.2.2.1⟩, hw.2.2.2.1.F ht⟩) hw.2.2.2.1.2.2 dX10_resits_115
        · have r_x3 : RI x3 0 5 := rc_neL r_x3 rl_m1 (ti_ne c_106) (by decide)
          refine lv_iload_n hx hb dX10_resits_109 rfl (lv_at hl 3 rfl) ?_
          refine lv_iload_n hx hb dX10_resits_110 rfl (lv_at hl 2 rfl) ?_
          refine lv_icmp_ne (tgt := 116) hx hb dX10_resits_111 (by decide) (fun c_111 => ?_) (fun c_111 => ?_)
          · refine lv_aload_n hx hb dX10_resits_116 rfl (lv_at hl 0 rfl) ?_
            refine tg_mem (ci := 10) (C := RX10) (T := TX10) (N := 49) hx hb hts inX10 hown hK hw 14 m_u_1 rfl (by decide) (hts _ tw_1151) (fun _ h9 => h9) dX10_resits_117 ?_
            refine lv_bipush (v := 112) hx hb dX10_resits_120 (by decide) ?_
            refine lv_iload_n hx hb dX10_resits_122 rfl (lv_at hl 1 rfl) ?_
            refine lv_iadd hx hb dX10_resits_123 (lv_topi (fun v_3 e_v_3 => ?_))
            obtain ⟨t_v_3, r_v_3⟩ := tq_add (lo := 112) (hi := 119) rl_112 r_p1 (by decide +kernel) e_v_3
            have t_v_3 : v_3.toInt = 112 + p1.toInt := t_v_3
            refine lv_iload_n hx hb dX10_resits_124 rfl (lv_at hl 3 rfl) ?_
            refine tg_iast hx hb hK hw h_vu_1 rfl 112 119 r_v_3 (by decide) r_x3 (by decide +kernel) (RN_upd (by decide) (by decide)) (by decide) dX10_resits_125 (fun ws H locs hw hF9 hU9 => ?_)
            refine lv_iconst (v := 1) hx hb dX10_resits_126 (by decide) ?_
            subst hQ
            exact W.zret (v := 1) hx hb hr (rfl) (fun t ht hW => ⟨⟨1, ws, rfl, ⟨⟨rl_1.to (by decide), (fun _ => trivial), (fun h0 => trivial)⟩, hw.1, hw.2.2.2.2.1⟩, by rw [ht]; exact hw.2.1, va_K.moved hW.alike hK, hw.2.2.1⟩, hw.2.2.2.1.F ht⟩) hw.2.2.2.1.2.2 dX10_resits_127
          · have r_x2 : RI x2 0 5 := rc_eq2 r_x3 r_x2 (ti_eq c_111) (by decide)
            refine lv_iconst (v := 0) hx hb dX10_resits_114 (by decide) ?_
            subst hQ
            exact W.zret (v := 0) hx hb hr (rfl) (fun t ht hW => ⟨⟨0, ws, rfl, ⟨⟨rl_0.to (by decide), (fun h0 => trivial), (fun _ => trivial)⟩, hw.1, hw.2.2.2.2.1⟩, by rw [ht]; exact hw.2.1, va_K.moved hW.alike hK, hw.2.2.1⟩, hw.2.2.2.1.F ht⟩) hw.2.2.2.1.2.2 dX10_resits_115
      · have r_x5 : RI x5 0 5 := rc_lt1 r_x5 r_v_2 (ti_nle c_57) (by decide)
        have r_v_2 : RI v_2 1 6 := rc_lt2 r_x5 r_v_2 (ti_nle c_57) (by decide)
        refine lv_aload_n hx hb dX10_resits_60 rfl (lv_at hl 0 rfl) ?_
        refine lv_iload hx hb dX10_resits_61 (lv_at hl 5 rfl) ?_
        refine tk_ir (va_runV (As := [.int x5]) (rest := []) ⟨hx, hb, hml, hown, hts⟩ (c_X10_isOpen l D cy z H.size Ps ws hw.1 p0 x5 h_p0 (r_x5.to (by decide))) (cwV 1 hts (gV tw_1457 tw_1459 ts_71 tw_15 tw_1460) rfl rfl rfl (by decide +kernel) ⟨Nat.le_of_ble_eq_true rfl, Nat.le_of_ble_eq_true rfl⟩) (tg_preV hw hK hSD hA (ci := 10) (q := (RX10, TX10, 49)) rfl h_p0 rfl) rfl rfl hl.1 rfl (lv_room (Nat.le_of_ble_eq_true rfl)) dX10_resits_63 ⟨Nat.le_of_ble_eq_true rfl, Nat.le_of_ble_eq_true rfl⟩) hw hA (fun v_4  H locs hp_v_4 hw => ?_)
        have r_v_4 : RI v_4 0 1 := hp_v_4.1
        refine lv_if_eq (tgt := 72) hx hb dX10_resits_66 (by decide) (fun c_66 => ?_) (fun c_66 => ?_)
        · have r_v_4 : RI v_4 0 0 := rc_eq1 r_v_4 rl_0 (ti_eq c_66) (by decide)
          refine lv_aload_n hx hb dX10_resits_72 rfl (lv_at hl 0 rfl) ?_
          refine lv_iload_n hx hb dX10_resits_73 rfl (lv_at hl 1 rfl) ?_
          refine lv_iload hx hb dX10_resits_74 (lv_at hl 5 rfl) ?_
          refine tk_i (va_runV (As := [.int p1, .int x5]) (rest := []) ⟨hx, hb, hml, hown, hts⟩ (c_X10_worthOf l D cy z H.size Ps ws hw.1 p0 p1 x5 h_p0 r_p1 r_x5) (cwV 2 hts (gV tw_1654 tw_1656 ts_96 tw_15 tw_1657) rfl rfl rfl (by decide +kernel) ⟨Nat.le_of_ble_eq_true rfl, Nat.le_of_ble_eq_true rfl⟩) (tg_preV hw hK hSD hA (ci := 10) (q := (RX10, TX10, 49)) rfl h_p0 rfl) rfl rfl hl.1 rfl (lv_room (Nat.le_of_ble_eq_true rfl)) dX10_resits_76 ⟨Nat.le_of_ble_eq_true rfl, Nat.le_of_ble_eq_true rfl⟩) hw hA ⟨by decide, by decide⟩ (fun v_5 ws H locs hp_v_5 hw hF9 => ?_)
          have r_v_5 : RI v_5 (-2147483648) 2147483647 := hp_v_5.1
          refine lv_istore (lv' := [(6, .int v_5), (0, .ref p0), (1, .int p1), (2, .int x2), (3, .int x3), (4, .int x4), (5, .int x5)]) hx hb dX10_resits_79 hl (by decide) rfl (fun ls hl => ?_)
          refine lv_iload hx hb dX10_resits_81 (lv_at hl 0 rfl) ?_
          refine lv_iload hx hb dX10_resits_83 (lv_at hl 5 rfl) ?_
          refine lv_icmp_gt (tgt := 91) hx hb dX10_resits_85 (by decide) (fun c_85 => ?_) (fun c_85 => ?_)
          · have r_x4 : RI x4 (-2147483648) 2147483646 := rc_lt1 r_x4 r_v_5 (ti_lt c_85) (by decide)
            have r_v_5 : RI v_5 (-2147483647) 2147483647 := rc_lt2 r_x4 r_v_5 (ti_lt c_85) (by decide)
            refine lv_iload hx hb dX10_resits_91 (lv_at hl 0 rfl) ?_
            refine lv_istore (lv' := [(4, .int v_5), (6, .int v_5), (0, .ref p0), (1, .int p1), (2, .int x2), (3, .int x3), (5, .int x5)]) hx hb dX10_resits_93 hl (by decide) rfl (fun ls hl => ?_)
            refine lv_iload hx hb dX10_resits_95 (lv_at hl 6 rfl) ?_
            refine lv_istore_n (lv' := [(3, .int x5), (4, .int v_5), (6, .int v_5), (0, .ref p0), (1, .int p1), (2, .int x2), (5, .int x5)]) hx hb dX10_resits_97 rfl hl (by decide) rfl (fun ls hl => ?_)
            obtain ⟨v_6, e_v_6⟩ : ∃ q9 : Int32, q9 = x5 + Int32.ofInt 1 := ⟨_, rfl⟩
            obtain ⟨t_v_6, r_v_6⟩ := tq_add (lo := 1) (hi := 6) r_x5 (show RI (Int32.ofInt 1) 1 1 by unfold RI; decide +kernel) (by decide +kernel) e_v_6
            have t_v_6 : v_6.toInt = x5.toInt + 1 := t_v_6
            refine lv_iinc (v := v_6) (lv' := [(5, .int v_6), (3, .int x5), (4, .int v_5), (6, .int v_5), (0, .ref p0), (1, .int p1), (2, .int x2)]) hx hb dX10_resits_98 hl (k := 6) rfl e_v_6.symm (by decide) rfl (fun ls hl => ?_)
            refine lv_goto (tgt := 49) hx hb dX10_resits_101 (by decide) ?_
            exact ih49 x2 x5 v_5 v_6 ws _ _ ls (by have q0 := r_v_6.1; have u0 := r_v_6.2; have o0 := r_x5.1; have p0 := r_x5.2; omega) r_p1 r_x2 (r_x5.to (by decide)) (r_v_5.to (by decide)) (r_v_6.to (by decide)) hw (lv_sub hl [4, 5, 6, 1, 2, 0] rfl)
          · refine lv_goto (tgt := 98) hx hb dX10_resits_88 (by decide) ?_
            obtain ⟨v_7, e_v_7⟩ : ∃ q9 : Int32, q9 = x5 + Int32.ofInt 1 := ⟨_, rfl⟩
            obtain ⟨t_v_7, r_v_7⟩ := tq_add (lo := 1) (hi := 6) r_x5 (show RI (Int32.ofInt 1) 1 1 by unfold RI; decide +kernel) (by decide +kernel) e_v_7
            have t_v_7 : v_7.toInt = x5.toInt + 1 := t_v_7
            refine lv_iinc (v := v_7) (lv' := [(5, .int v_7), (6, .int v_5), (0, .ref p0), (1, .int p1), (2, .int x2), (3, .int x3), (4, .int x4)]) hx hb dX10_resits_98 hl (k := 6) rfl e_v_7.symm (by decide) rfl (fun ls hl => ?_)
            refine lv_goto (tgt := 49) hx hb dX10_resits_101 (by decide) ?_
            exact ih49 x2 x3 x4 v_7 ws _ _ ls (by have q0 := r_v_7.1; have u0 := r_v_7.2; have o0 := r_x5.1; have p0 := r_x5.2; omega) r_p1 r_x2 r_x3 r_x4 (r_v_7.to (by decide)) hw (lv_sub hl [2, 3, 4, 5, 6, 0] rfl)
        · have r_v_4 : RI v_4 1 1 := rc_neL r_v_4 rl_0 (ti_ne c_66) (by decide)
          refine lv_goto (tgt := 98) hx hb dX10_resits_69 (by decide) ?_
          obtain ⟨v_8, e_v_8⟩ : ∃ q9 : Int32, q9 = x5 + Int32.ofInt 1 := ⟨_, rfl⟩
          obtain ⟨t_v_8, r_v_8⟩ := tq_add (lo := 1) (hi := 6) r_x5 (show RI (Int32.ofInt 1) 1 1 by unfold RI; decide +kernel) (by decide +kernel) e_v_8
          have t_v_8 : v_8.toInt = x5.toInt + 1 := t_v_8
          refine lv_iinc (v := v_8) (lv' := [(5, .int v_8), (0, .ref p0), (1, .int p1), (2, .int x2), (3, .int x3), (4, .int x4)]) hx hb dX10_resits_98 hl (k := 5) rfl e_v_8.symm (by decide) rfl (fun ls hl => ?_)
          refine lv_goto (tgt := 49) hx hb dX10_resits_101 (by decide) ?_
          exact ih49 x2 x3 x4 v_8 ws _ _ ls (by have q0 := r_v_8.1; have u0 := r_v_8.2; have o0 := r_x5.1; have p0 := r_x5.2; omega) r_p1 r_x2 r_x3 r_x4 (r_v_8.to (by decide)) hw (lv_sub hl [1, 2, 3, 4, 5, 0] rfl)
  have B44 : ∀ (x2 : Int32) (x3 : Int32) (y0 : Int32) (ws : va_W) (H : Heap) (locs : List Loc) (ls : Array Slot), RI p1 0 7 → RI x2 (-1) 5 → RI x3 (-1) 5 → RI y0 (-2147483648) 2147483647 → WD D cy GG A s wr_X10_resits wa_X10_resits Ps w0 Ps ws H locs → lv_has ls 7 [(0, .ref p0), (1, .int p1), (2, .int x2), (3, .int x3)] → W p l e (headSpec (Cond.code yX10_resits cX10_resits 7 (some .boolean) :: gT) ({ frames := 7, cells := 0, slots := 0, locals := 1400 } : Room)).room s m ([.ref p0, .int p1] : List Value).toArray below meth c H locs 0 0 Q (F0 m 44 ls [.int y0]) := by
    intro x2 x3 y0 ws H locs ls r_p1 r_x2 r_x3 r_y0 hw hl
    refine lv_istore (lv' := [(4, .int y0), (0, .ref p0), (1, .int p1), (2, .int x2), (3, .int x3)]) hx hb dX10_resits_44 hl (by decide) rfl (fun ls hl => ?_)
    refine lv_iconst (v := 0) hx hb dX10_resits_46 (by decide) ?_
    refine lv_istore (lv' := [(5, .int 0), (4, .int y0), (0, .ref p0), (1, .int p1), (2, .int x2), (3, .int x3)]) hx hb dX10_resits_47 hl (by decide) rfl (fun ls hl => ?_)
    exact B49 4294967298 x2 x3 y0 0 ws _ _ ls (by have q0 := rl_0.1; have u0 := rl_0.2; omega) r_p1 r_x2 r_x3 r_y0 (rl_0.to (by decide)) hw (lv_sub hl [2, 3, 4, 5, 1, 0] rfl)
  have B28 : ∀ (x2 : Int32) (y0 : Int32) (ws : va_W) (H : Heap) (locs : List Loc) (ls : Array Slot), RI p1 0 7 → RI x2 (-1) 5 → RI y0 (-1) 5 → WD D cy GG A s wr_X10_resits wa_X10_resits Ps w0 Ps ws H locs → lv_has ls 7 [(0, .ref p0), (1, .int p1), (2, .int x2)] → W p l e (headSpec (Cond.code yX10_resits cX10_resits 7 (some .boolean) :: gT) ({ frames := 7, cells := 0, slots := 0, locals := 1400 } : Room)).room s m ([.ref p0, .int p1] : List Value).toArray below meth c H locs 0 0 Q (F0 m 28 ls [.int y0]) := by
    intro x2 y0 ws H locs ls r_p1 r_x2 r_y0 hw hl
    refine lv_istore_n (lv' := [(3, .int y0), (0, .ref p0), (1, .int p1), (2, .int x2)]) hx hb dX10_resits_28 rfl hl (by decide) rfl (fun ls hl => ?_)
    refine lv_iload_n hx hb dX10_resits_29 rfl (lv_at hl 0 rfl) ?_
    refine lv_iconst (v := (-1)) hx hb dX10_resits_30 (by decide) ?_
    refine lv_icmp_ne (tgt := 38) hx hb dX10_resits_31 (by decide) (fun c_31 => ?_) (fun c_31 => ?_)
    · have r_y0 : RI y0 0 5 := rc_neL r_y0 rl_m1 (ti_ne c_31) (by decide)
      refine lv_aload_n hx hb dX10_resits_38 rfl (lv_at hl 1 rfl) ?_
      refine lv_iload_n hx hb dX10_resits_39 rfl (lv_at hl 2 rfl) ?_
      refine lv_iload_n hx hb dX10_resits_40 rfl (lv_at hl 0 rfl) ?_
      refine tk_i (va_runV (As := [.int p1, .int y0]) (rest := []) ⟨hx, hb, hml, hown, hts⟩ (c_X10_worthOf l D cy z H.size Ps ws hw.1 p0 p1 y0 h_p0 r_p1 r_y0) (cwV 2 hts (gV tw_1654 tw_1656 ts_96 tw_15 tw_1657) rfl rfl rfl (by decide +kernel) ⟨Nat.le_of_ble_eq_true rfl, Nat.le_of_ble_eq_true rfl⟩) (tg_preV hw hK hSD hA (ci := 10) (q := (RX10, TX10, 49)) rfl h_p0 rfl) rfl rfl hl.1 rfl (lv_room (Nat.le_of_ble_eq_true rfl)) dX10_resits_41 ⟨Nat.le_of_ble_eq_true rfl, Nat.le_of_ble_eq_true rfl⟩) hw hA ⟨by decide, by decide⟩ (fun v_9 ws H locs hp_v_9 hw hF9 => ?_)
      have r_v_9 : RI v_9 (-2147483648) 2147483647 := hp_v_9.1
      exact B44 x2 y0 v_9 ws _ _ ls r_p1 r_x2 (r_y0.to (by decide)) r_v_9 hw (lv_sub hl [1, 2, 3, 0] rfl)
    · have r_y0 : RI y0 (-1) (-1) := rc_eq1 r_y0 rl_m1 (ti_eq c_31) (by decide)
      refine lv_iconst (v := (-1)) hx hb dX10_resits_34 (by decide) ?_
      refine lv_goto (tgt := 44) hx hb dX10_resits_35 (by decide) ?_
      exact B44 x2 y0 (-1) ws _ _ ls r_p1 r_x2 (r_y0.to (by decide)) (rl_m1.to (by decide)) hw (lv_sub hl [1, 2, 3, 0] rfl)
  have B27 : ∀ (x2 : Int32) (ws : va_W) (H : Heap) (locs : List Loc) (ls : Array Slot), RI p1 0 7 → RI x2 (-1) 5 → WD D cy GG A s wr_X10_resits wa_X10_resits Ps w0 Ps ws H locs → lv_has ls 7 [(0, .ref p0), (1, .int p1), (2, .int x2)] → W p l e (headSpec (Cond.code yX10_resits cX10_resits 7 (some .boolean) :: gT) ({ frames := 7, cells := 0, slots := 0, locals := 1400 } : Room)).room s m ([.ref p0, .int p1] : List Value).toArray below meth c H locs 0 0 Q (F0 m 27 ls []) := by
    intro x2 ws H locs ls r_p1 r_x2 hw hl
    refine lv_iconst (v := (-1)) hx hb dX10_resits_27 (by decide) ?_
    exact B28 x2 (-1) ws _ _ ls r_p1 r_x2 (rl_m1.to (by decide)) hw hl
  refine lv_aload_n hx hb dX10_resits_0 rfl (lv_at hl 0 rfl) ?_
  refine tg_get (ci := 10) (ts := ty_MODEL) (C := RX10) (T := TX10) (N := 49) hx hb hts inX10 hown hK hw h_p0 rfl rfl 14 (by decide) (hts _ tw_1151) (fun _ h9 => h9) (ft := vR 34) rfl dX10_resits_1 (fun u_10 hv_u_10 m_u_10 => ?_)
  obtain ⟨vu_10, rfl, h_vu_10⟩ := hv_u_10
  refine lv_bipush (v := 112) hx hb dX10_resits_4 (by decide) ?_
  refine lv_iload_n hx hb dX10_resits_6 rfl (lv_at hl 1 rfl) ?_
  refine lv_iadd hx hb dX10_resits_7 (lv_topi (fun v_11 e_v_11 => ?_))
  obtain ⟨t_v_11, r_v_11⟩ := tq_add (lo := 112) (hi := 119) rl_112 r_p1 (by decide +kernel) e_v_11
  have t_v_11 : v_11.toInt = 112 + p1.toInt := t_v_11
  refine tg_iald (lo := (-1)) (hi := 5) hx hb hK hw h_vu_10 rfl 112 119 r_v_11 (by decide) (by decide +kernel) dX10_resits_8 (fun v_12 r_v_12 m_v_12 o_v_12 => ?_)
  refine lv_istore_n (lv' := [(2, .int v_12), (0, .ref p0), (1, .int p1)]) hx hb dX10_resits_9 rfl hl (by decide) rfl (fun ls hl => ?_)
  refine lv_iload_n hx hb dX10_resits_10 rfl (lv_at hl 0 rfl) ?_
  refine lv_iconst (v := (-1)) hx hb dX10_resits_11 (by decide) ?_
  refine lv_icmp_eq (tgt := 27) hx hb dX10_resits_12 (by decide) (fun c_12 => ?_) (fun c_12 => ?_)
  · have r_v_12 : RI v_12 (-1) (-1) := rc_eq1 r_v_12 rl_m1 (ti_eq c_12) (by decide)
    exact B27 v_12 w0 _ _ ls r_p1 (r_v_12.to (by decide)) hw (lv_sub hl [1, 2, 0] rfl)
  · have r_v_12 : RI v_12 0 5 := rc_neL r_v_12 rl_m1 (ti_ne c_12) (by decide)
    refine lv_aload_n hx hb dX10_resits_15 rfl (lv_at hl 1 rfl) ?_
    refine lv_iload_n hx hb dX10_resits_16 rfl (lv_at hl 0 rfl) ?_
    refine tk_ir (va_runV (As := [.int v_12]) (rest := []) ⟨hx, hb, hml, hown, hts⟩ (c_X10_isOpen l D cy z s.heap.size Ps w0 hw.1 p0 v_12 h_p0 (r_v_12.to (by decide))) (cwV 1 hts (gV tw_1457 tw_1459 ts_71 tw_15 tw_1460) rfl rfl rfl (by decide +kernel) ⟨Nat.le_of_ble_eq_true rfl, Nat.le_of_ble_eq_true rfl⟩) (tg_preV hw hK hSD hA (ci := 10) (q := (RX10, TX10, 49)) rfl h_p0 rfl) rfl rfl hl.1 rfl (lv_room (Nat.le_of_ble_eq_true rfl)) dX10_resits_17 ⟨Nat.le_of_ble_eq_true rfl, Nat.le_of_ble_eq_true rfl⟩) hw hA (fun v_13  H locs hp_v_13 hw => ?_)
    have r_v_13 : RI v_13 0 1 := hp_v_13.1
    refine lv_if_ne (tgt := 27) hx hb dX10_resits_20 (by decide) (fun c_20 => ?_) (fun c_20 => ?_)
    · have r_v_13 : RI v_13 1 1 := rc_neL r_v_13 rl_0 (ti_ne c_20) (by decide)
      exact B27 v_12 w0 _ _ ls r_p1 (r_v_12.to (by decide)) hw (lv_sub hl [1, 2, 0] rfl)
    · have r_v_13 : RI v_13 0 0 := rc_eq1 r_v_13 rl_0 (ti_eq c_20) (by decide)
      refine lv_iload_n hx hb dX10_resits_23 rfl (lv_at hl 0 rfl) ?_
      refine lv_goto (tgt := 28) hx hb dX10_resits_24 (by decide) ?_
      exact B28 v_12 v_12 w0 _ _ ls r_p1 (r_v_12.to (by decide)) (r_v_12.to (by decide)) hw (lv_sub hl [1, 2, 0] rfl)
abbrev wr_X10_rest : List (Nat × Nat) := [(10, 0), (10, 36)]
abbrev wa_X10_rest : List Nat := [34, 38, 39, 46, 50]
set_option maxHeartbeats 4000000 in
set_option maxRecDepth 100000 in
theorem c_X10_rest (l : Launch) (D : va_G) (cy : Nat → ClassId) (z : Nat → Nat) (sz : Nat) (Ps : PSI) (w0 : va_W) (hT : HT cy GG Ps w0) (p0 : Nat) (h_p0 : (p0, 55) ∈ Ps) : Met l yX10_rest (Cond.code yX10_rest cX10_rest 4 (some .int) :: gT) ({ frames := 8, cells := 0, slots := 0, locals := 1600 } : Room) (va_Pc [.ref p0] (PRE D cy z w0 sz)) (va_Qi (fun (r : Int32) (u : va_W) => (RI r 0 10 ∧ (r = 0 → True) ∧ (¬ r = 0 → True)) ∧ HT cy GG Ps u ∧ FR wr_X10_rest wa_X10_rest Ps w0 u) (BB D cy (va_A w0 sz) (fun (u : va_W) => u)) (va_A w0 sz)) 0 0 (va_A w0 sz) := by
  refine Met.ofW (cc := cX10_rest) (maxL := 4) (ret := (some .int)) (by decide) rfl ?_
  intro p e s m args below meth c s₁ B hml hv
  obtain ⟨rfl, hsz, hP, hK, hD0, hSD⟩ := hv
  have hx := B.exec
  have hb := B.bytes
  have hr := B.returns
  have hlocks := B.notSynchronized
  have hts : ∀ w ∈ gT, w.before _ s = true := fun w h => atoms_spec (ws := Cond.code yX10_rest cX10_rest 4 (some .int) :: gT) B.pre w (List.mem_cons_of_mem _ h)
  have hown : s.vm.findClass RX10 = some m.cls := findClass_of_methodNamed B.named
  subst hsz
  have hD := hD0.self (sz := s.heap.size)
  generalize hAe : va_A w0 s.heap.size = A at hD hSD ⊢
  have hA : ∀ q : Nat, s.heap.size ≤ q → A q := fun q h => by rw [← hAe]; exact Or.inr h
  have hl := lv_entry ([.ref p0]) (n := 4) (Nat.le_of_ble_eq_true rfl)
  rw [lg_entry_eq]
  generalize (lg_sl ([.ref p0]) ++ List.replicate (4 - (lg_sl ([.ref p0])).length) Slot.unset).toArray = ls at hl ⊢
  have hl : lv_has ls 4 [(0, .ref p0)] := hl
  refine nameQ (fun Q hQ => ?_)
  have hw : WD D cy GG A s wr_X10_rest wa_X10_rest Ps w0 Ps w0 s.heap [] := ⟨hT, hP, hD, va_S.rf, FR.rf, hT.1, [], (List.append_nil _).symm⟩
  have B61 : ∀ (nf : Nat) (x1 : Int32) (x2 : Int32) (x3 : Int32) (z0_0 : Int32) (ws : va_W) (H : Heap) (locs : List Loc) (ls : Array Slot), 8 - x3.toInt < (nf : Int) → RI x1 0 10 → RI x2 0 1 → RI x3 0 8 → RI z0_0 0 0 → FLD ws p0 10 0 (.int z0_0) → WD D cy GG A s wr_X10_rest wa_X10_rest Ps w0 Ps ws H locs → lv_has ls 4 [(0, .ref p0), (1, .int x1), (2, .int x2), (3, .int x3)] → W p l e (headSpec (Cond.code yX10_rest cX10_rest 4 (some .int) :: gT) ({ frames := 8, cells := 0, slots := 0, locals := 1600 } : Room)).room s m ([.ref p0] : List Value).toArray below meth c H locs 0 0 Q (F0 m 61 ls []) := by
    intro nf61
    induction nf61 with
    | zero =>
      intro x1 x2 x3 z0_0 ws H locs ls hn61 r_x1 r_x2 r_x3 r_z0_0 m_z0_0 hw hl
      exact absurd hn61 (by have q0 := r_x3.1; have u0 := r_x3.2; omega)
    | succ nf61 ih61 =>
      intro x1 x2 x3 z0_0 ws H locs ls hn61 r_x1 r_x2 r_x3 r_z0_0 m_z0_0 hw hl
      refine lv_iload_n hx hb dX10_rest_61 rfl (lv_at hl 3 rfl) ?_
      refine lv_bipush (v := 8) hx hb dX10_rest_62 (by decide) ?_
      refine lv_icmp_ge (tgt := 88) hx hb dX10_rest_64 (by decide) (fun c_64 => ?_) (fun c_64 => ?_)
      · have r_x3 : RI x3 8 8 := rc_le2 rl_8 r_x3 (ti_le c_64) (by decide)
        refine lv_aload_n hx hb dX10_rest_88 rfl (lv_at hl 0 rfl) ?_
        refine lv_aload_n hx hb dX10_rest_89 rfl (lv_at hl 0 rfl) ?_
        refine tg_get (ci := 10) (ts := ty_MODEL) (C := RX10) (T := TX10) (N := 49) hx hb hts inX10 hown hK hw h_p0 rfl rfl 14 (by decide) (hts _ tw_1151) (fun _ h9 => h9) (ft := vR 34) rfl dX10_rest_90 (fun u_1 hv_u_1 m_u_1 => ?_)
        obtain ⟨vu_1, rfl, h_vu_1⟩ := hv_u_1
        refine lv_iconst (v := 3) hx hb dX10_rest_93 (by decide) ?_
        refine tg_iald (lo := 0) (hi := 8) hx hb hK hw h_vu_1 rfl 3 3 rl_3 (by decide) (by decide +kernel) dX10_rest_94 (fun v_2 r_v_2 m_v_2 o_v_2 => ?_)
        refine tg_put (ci := 10) (ts := ty_MODEL) (v := .int v_2) (ty := .int) (C := RX10) (T := TX10) (N := 49) hx hb hts inX10 tyX10 tyX10_ok nmX10 hown hK hw h_p0 rfl rfl 36 (by decide) (hts _ tw_1173) (fun _ h9 => h9) rfl (by decide +kernel) rfl rfl (ft := vI 0 8) rfl ⟨_, rfl, r_v_2⟩ (by decide) dX10_rest_95 (fun ws H locs hw n_k_3 hF9 => ?_)
        have m_z0_0 := FLD.over hF9 m_z0_0 (by decide)
        refine lv_aload_n hx hb dX10_rest_98 rfl (lv_at hl 0 rfl) ?_
        refine tk_v (va_runV (As := []) (rest := []) ⟨hx, hb, hml, hown, hts⟩ (c_X10_takeBack l D cy z H.size Ps ws hw.1 p0 h_p0) (cwV 0 hts (gV tw_1587 tw_1589 ts_89 tw_15 tw_1590) rfl rfl rfl (by decide +kernel) ⟨Nat.le_of_ble_eq_true rfl, Nat.le_of_ble_eq_true rfl⟩) (tg_preV hw hK hSD hA (ci := 10) (q := (RX10, TX10, 49)) rfl h_p0 rfl) rfl rfl hl.1 rfl (lv_room (Nat.le_of_ble_eq_true rfl)) dX10_rest_99 ⟨Nat.le_of_ble_eq_true rfl, Nat.le_of_ble_eq_true rfl⟩) hw hA ⟨by decide, by decide⟩ (fun ws H locs hp_v_4 hw hF9 => ?_)
        have m_z0_0 := FLD.over hF9 m_z0_0 (by decide)
        have n_k_3 := FLD.over hF9 n_k_3 (by decide)
        refine lv_iload_n hx hb dX10_rest_102 rfl (lv_at hl 1 rfl) ?_
        subst hQ
        exact W.iret (v := x1) hx hb hr (fun t ht hW => ⟨⟨x1, ws, rfl, ⟨⟨r_x1.to (by decide), (fun h0 => trivial), (fun h0 => trivial)⟩, hw.1, hw.2.2.2.2.1⟩, by rw [ht]; exact hw.2.1, va_K.moved hW.alike hK, hw.2.2.1⟩, hw.2.2.2.1.F ht⟩) hw.2.2.2.1.2.2 dX10_rest_103
      · have r_x3 : RI x3 0 7 := rc_lt1 r_x3 rl_8 (ti_nle c_64) (by decide)
        refine lv_aload_n hx hb dX10_rest_67 rfl (lv_at hl 0 rfl) ?_
        refine tg_get (ci := 10) (ts := ty_MODEL) (C := RX10) (T := TX10) (N := 49) hx hb hts inX10 hown hK hw h_p0 rfl rfl 35 (by decide) (hts _ tw_1172) (fun _ h9 => h9) (ft := vR 50) rfl dX10_rest_68 (fun u_5 hv_u_5 m_u_5 => ?_)
        obtain ⟨vu_5, rfl, h_vu_5⟩ := hv_u_5
        refine lv_iload_n hx hb dX10_rest_71 rfl (lv_at hl 3 rfl) ?_
        refine lv_aload_n hx hb dX10_rest_72 rfl (lv_at hl 0 rfl) ?_
        refine tg_get (ci := 10) (ts := ty_MODEL) (C := RX10) (T := TX10) (N := 49) hx hb hts inX10 hown hK hw h_p0 rfl rfl 14 (by decide) (hts _ tw_1151) (fun _ h9 => h9) (ft := vR 34) rfl dX10_rest_73 (fun u_6 hv_u_6 m_u_6 => ?_)
        obtain ⟨vu_6, rfl, h_vu_6⟩ := hv_u_6
        refine lv_bipush (v := 112) hx hb dX10_rest_76 (by decide) ?_
        refine lv_iload_n hx hb dX10_rest_78 rfl (lv_at hl 3 rfl) ?_
        refine lv_iadd hx hb dX10_rest_79 (lv_topi (fun v_7 e_v_7 => ?_))
        obtain ⟨t_v_7, r_v_7⟩ := tq_add (lo := 112) (hi := 119) rl_112 r_x3 (by decide +kernel) e_v_7
        have t_v_7 : v_7.toInt = 112 + x3.toInt := t_v_7
        refine tg_iald (lo := (-1)) (hi := 5) hx hb hK hw h_vu_6 rfl 112 119 r_v_7 (by decide) (by decide +kernel) dX10_rest_80 (fun v_8 r_v_8 m_v_8 o_v_8 => ?_)
        refine tg_iast hx hb hK hw h_vu_5 rfl 0 7 r_x3 (by decide) r_v_8 (by exact fun _ _ _ => by decide) (fun _ _ _ _ _ => trivial) (by decide) dX10_rest_81 (fun ws H locs hw hF9 hU9 => ?_)
        have m_z0_0 := FLD.over hF9 m_z0_0 (by decide)
        obtain ⟨v_9, e_v_9⟩ : ∃ q9 : Int32, q9 = x3 + Int32.ofInt 1 := ⟨_, rfl⟩
        obtain ⟨t_v_9, r_v_9⟩ := tq_add (lo := 1) (hi := 8) r_x3 (show RI (Int32.ofInt 1) 1 1 by unfold RI; decide +kernel) (by decide +kernel) e_v_9
        have t_v_9 : v_9.toInt = x3.toInt + 1 := t_v_9
        refine lv_iinc (v := v_9) (lv' := [(3, .int v_9), (0, .ref p0), (1, .int x1), (2, .int x2)]) hx hb dX10_rest_82 hl (k := 3) rfl e_v_9.symm (by decide) rfl (fun ls hl => ?_)
        refine lv_goto (tgt := 61) hx hb dX10_rest_85 (by decide) ?_
        exact ih61 x1 x2 v_9 z0_0 ws _ _ ls (by have q0 := r_v_9.1; have u0 := r_v_9.2; have o0 := r_x3.1; have p0 := r_x3.2; omega) r_x1 r_x2 (r_v_9.to (by decide)) r_z0_0 m_z0_0 hw (lv_sub hl [1, 2, 3, 0] rfl)
  have B59 : ∀ (x1 : Int32) (x2 : Int32) (z0_0 : Int32) (ws : va_W) (H : Heap) (locs : List Loc) (ls : Array Slot), RI x1 0 10 → RI x2 0 1 → RI z0_0 0 0 → FLD ws p0 10 0 (.int z0_0) → WD D cy GG A s wr_X10_rest wa_X10_rest Ps w0 Ps ws H locs → lv_has ls 4 [(0, .ref p0), (1, .int x1), (2, .int x2)] → W p l e (headSpec (Cond.code yX10_rest cX10_rest 4 (some .int) :: gT) ({ frames := 8, cells := 0, slots := 0, locals := 1600 } : Room)).room s m ([.ref p0] : List Value).toArray below meth c H locs 0 0 Q (F0 m 59 ls []) := by
    intro x1 x2 z0_0 ws H locs ls r_x1 r_x2 r_z0_0 m_z0_0 hw hl
    refine lv_iconst (v := 0) hx hb dX10_rest_59 (by decide) ?_
    refine lv_istore_n (lv' := [(3, .int 0), (0, .ref p0), (1, .int x1), (2, .int x2)]) hx hb dX10_rest_60 rfl hl (by decide) rfl (fun ls hl => ?_)
    exact B61 4294967298 x1 x2 0 z0_0 ws _ _ ls (by have q0 := rl_0.1; have u0 := rl_0.2; omega) r_x1 r_x2 (rl_0.to (by decide)) r_z0_0 m_z0_0 hw (lv_sub hl [1, 2, 3, 0] rfl)
  have B13 : ∀ (nf : Nat) (x1 : Int32) (x2 : Int32) (z0_0 : Int32) (ws : va_W) (H : Heap) (locs : List Loc) (ls : Array Slot), 10 - x1.toInt < (nf : Int) → RI x1 0 10 → RI x2 0 1 → RI z0_0 0 0 → FLD ws p0 10 0 (.int z0_0) → WD D cy GG A s wr_X10_rest wa_X10_rest Ps w0 Ps ws H locs → lv_has ls 4 [(0, .ref p0), (1, .int x1), (2, .int x2)] → W p l e (headSpec (Cond.code yX10_rest cX10_rest 4 (some .int) :: gT) ({ frames := 8, cells := 0, slots := 0, locals := 1600 } : Room)).room s m ([.ref p0] : List Value).toArray below meth c H locs 0 0 Q (F0 m 13 ls []) := by
    intro nf13
    induction nf13 with
    | zero =>
      intro x1 x2 z0_0 ws H locs ls hn13 r_x1 r_x2 r_z0_0 m_z0_0 hw hl
      exact absurd hn13 (by have q0 := r_x1.1; have u0 := r_x1.2; omega)
    | succ nf13 ih13 =>
      have B27 : ∀ (nf : Nat) (x1 : Int32) (x2 : Int32) (x3 : Int32) (z0_0 : Int32) (ws : va_W) (H : Heap) (locs : List Loc) (ls : Array Slot), 8 - x3.toInt < (nf : Int) → RI x1 0 9 → RI x2 0 1 → RI x3 0 8 → RI z0_0 0 0 → FLD ws p0 10 0 (.int z0_0) → 10 - x1.toInt < ((nf13 + 1 : Nat) : Int) → WD D cy GG A s wr_X10_rest wa_X10_rest Ps w0 Ps ws H locs → lv_has ls 4 [(0, .ref p0), (1, .int x1), (2, .int x2), (3, .int x3)] → W p l e (headSpec (Cond.code yX10_rest cX10_rest 4 (some .int) :: gT) ({ frames := 8, cells := 0, slots := 0, locals := 1600 } : Room)).room s m ([.ref p0] : List Value).toArray below meth c H locs 0 0 Q (F0 m 27 ls []) := by
        intro nf27
        induction nf27 with
        | zero =>
          intro x1 x2 x3 z0_0 ws H locs ls hn27 r_x1 r_x2 r_x3 r_z0_0 m_z0_0 hn13 hw hl
          exact absurd hn27 (by have q0 := r_x3.1; have u0 := r_x3.2; omega)
        | succ nf27 ih27 =>
          intro x1 x2 x3 z0_0 ws H locs ls hn27 r_x1 r_x2 r_x3 r_z0_0 m_z0_0 hn13 hw hl
          refine lv_iload_n hx hb dX10_rest_27 rfl (lv_at hl 3 rfl) ?_
          refine lv_aload_n hx hb dX10_rest_28 rfl (lv_at hl 0 rfl) ?_
          refine tg_get (ci := 10) (ts := ty_MODEL) (C := RX10) (T := TX10) (N := 49) hx hb hts inX10 hown hK hw h_p0 rfl rfl 14 (by decide) (hts _ tw_1151) (fun _ h9 => h9) (ft := vR 34) rfl dX10_rest_29 (fun u_10 hv_u_10 m_u_10 => ?_)
          obtain ⟨vu_10, rfl, h_vu_10⟩ := hv_u_10
          refine lv_iconst (v := 3) hx hb dX10_rest_32 (by decide) ?_
          refine tg_iald (lo := 0) (hi := 8) hx hb hK hw h_vu_10 rfl 3 3 rl_3 (by decide) (by decide +kernel) dX10_rest_33 (fun v_11 r_v_11 m_v_11 o_v_11 => ?_)
          refine lv_icmp_ge (tgt := 53) hx hb dX10_rest_34 (by decide) (fun c_34 => ?_) (fun c_34 => ?_)
          · obtain ⟨v_12, e_v_12⟩ : ∃ q9 : Int32, q9 = x1 + Int32.ofInt 1 := ⟨_, rfl⟩
            obtain ⟨t_v_12, r_v_12⟩ := tq_add (lo := 1) (hi := 10) r_x1 (show RI (Int32.ofInt 1) 1 1 by unfold RI; decide +kernel) (by decide +kernel) e_v_12
            have t_v_12 : v_12.toInt = x1.toInt + 1 := t_v_12
            refine lv_iinc (v := v_12) (lv' := [(1, .int v_12), (0, .ref p0), (2, .int x2), (3, .int x3)]) hx hb dX10_rest_53 hl (k := 1) rfl e_v_12.symm (by decide) rfl (fun ls hl => ?_)
            refine lv_goto (tgt := 13) hx hb dX10_rest_56 (by decide) ?_
            exact ih13 v_12 x2 z0_0 ws _ _ ls (by have q0 := r_v_12.1; have u0 := r_v_12.2; have o0 := r_x1.1; have p0 := r_x1.2; omega) (r_v_12.to (by decide)) r_x2 r_z0_0 m_z0_0 hw (lv_sub hl [1, 0, 2] rfl)
          · have r_x3 : RI x3 0 7 := rc_lt1 r_x3 r_v_11 (ti_nle c_34) (by decide)
            have r_v_11 : RI v_11 1 8 := rc_lt2 r_x3 r_v_11 (ti_nle c_34) (by decide)
            refine lv_aload_n hx hb dX10_rest_37 rfl (lv_at hl 0 rfl) ?_
            refine lv_iload_n hx hb dX10_rest_38 rfl (lv_at hl 3 rfl) ?_
            refine tk_i (va_runV (As := [.int x3]) (rest := []) ⟨hx, hb, hml, hown, hts⟩ (c_X10_resits l D cy z H.size Ps ws hw.1 p0 x3 h_p0 r_x3) (cwV 1 hts (gV tw_1650 tw_1652 ts_95 tw_15 tw_1653) rfl rfl rfl (by decide +kernel) ⟨Nat.le_of_ble_eq_true rfl, Nat.le_of_ble_eq_true rfl⟩) (tg_preV hw hK hSD hA (ci := 10) (q := (RX10, TX10, 49)) rfl h_p0 rfl) rfl rfl hl.1 rfl (lv_room (Nat.le_of_ble_eq_true rfl)) dX10_rest_39 ⟨Nat.le_of_ble_eq_true rfl, Nat.le_of_ble_eq_true rfl⟩) hw hA ⟨by decide, by decide⟩ (fun v_13 ws H locs hp_v_13 hw hF9 => ?_)
            have m_z0_0 := FLD.over hF9 m_z0_0 (by decide)
            have r_v_13 : RI v_13 0 1 := hp_v_13.1
            refine lv_if_eq (tgt := 47) hx hb dX10_rest_42 (by decide) (fun c_42 => ?_) (fun c_42 => ?_)
            · have r_v_13 : RI v_13 0 0 := rc_eq1 r_v_13 rl_0 (ti_eq c_42) (by decide)
              obtain ⟨v_14, e_v_14⟩ : ∃ q9 : Int32, q9 = x3 + Int32.ofInt 1 := ⟨_, rfl⟩
              obtain ⟨t_v_14, r_v_14⟩ := tq_add (lo := 1) (hi := 8) r_x3 (show RI (Int32.ofInt 1) 1 1 by unfold RI; decide +kernel) (by decide +kernel) e_v_14
              have t_v_14 : v_14.toInt = x3.toInt + 1 := t_v_14
              refine lv_iinc (v := v_14) (lv' := [(3, .int v_14), (0, .ref p0), (1, .int x1), (2, .int x2)]) hx hb dX10_rest_47 hl (k := 3) rfl e_v_14.symm (by decide) rfl (fun ls hl => ?_)
              refine lv_goto (tgt := 27) hx hb dX10_rest_50 (by decide) ?_
              exact ih27 x1 x2 v_14 z0_0 ws _ _ ls (by have q0 := r_v_14.1; have u0 := r_v_14.2; have o0 := r_x3.1; have p0 := r_x3.2; omega) r_x1 r_x2 (r_v_14.to (by decide)) r_z0_0 m_z0_0 (by have q0 := r_x1.1; have u0 := r_x1.2; omega) hw (lv_sub hl [1, 2, 3, 0] rfl)
            · have r_v_13 : RI v_13 1 1 := rc_neL r_v_13 rl_0 (ti_ne c_42) (by decide)
              refine lv_iconst (v := 1) hx hb dX10_rest_45 (by decide) ?_
              refine lv_istore_n (lv' := [(2, .int 1), (0, .ref p0), (1, .int x1), (3, .int x3)]) hx hb dX10_rest_46 rfl hl (by decide) rfl (fun ls hl => ?_)
              obtain ⟨v_15, e_v_15⟩ : ∃ q9 : Int32, q9 = x3 + Int32.ofInt 1 := ⟨_, rfl⟩
              obtain ⟨t_v_15, r_v_15⟩ := tq_add (lo := 1) (hi := 8) r_x3 (show RI (Int32.ofInt 1) 1 1 by unfold RI; decide +kernel) (by decide +kernel) e_v_15
              have t_v_15 : v_15.toInt = x3.toInt + 1 := t_v_15
              refine lv_iinc (v := v_15) (lv' := [(3, .int v_15), (2, .int 1), (0, .ref p0), (1, .int x1)]) hx hb dX10_rest_47 hl (k := 3) rfl e_v_15.symm (by decide) rfl (fun ls hl => ?_)
              refine lv_goto (tgt := 27) hx hb dX10_rest_50 (by decide) ?_
              exact ih27 x1 1 v_15 z0_0 ws _ _ ls (by have q0 := r_v_15.1; have u0 := r_v_15.2; have o0 := r_x3.1; have p0 := r_x3.2; omega) r_x1 (rl_1.to (by decide)) (r_v_15.to (by decide)) r_z0_0 m_z0_0 (by have q0 := r_x1.1; have u0 := r_x1.2; omega) hw (lv_sub hl [2, 3, 1, 0] rfl)
      intro x1 x2 z0_0 ws H locs ls hn13 r_x1 r_x2 r_z0_0 m_z0_0 hw hl
      refine lv_iload_n hx hb dX10_rest_13 rfl (lv_at hl 2 rfl) ?_
      refine lv_if_eq (tgt := 59) hx hb dX10_rest_14 (by decide) (fun c_14 => ?_) (fun c_14 => ?_)
      · have r_x2 : RI x2 0 0 := rc_eq1 r_x2 rl_0 (ti_eq c_14) (by decide)
        exact B59 x1 x2 z0_0 ws _ _ ls r_x1 (r_x2.to (by decide)) r_z0_0 m_z0_0 hw hl
      · have r_x2 : RI x2 1 1 := rc_neL r_x2 rl_0 (ti_ne c_14) (by decide)
        refine lv_iload_n hx hb dX10_rest_17 rfl (lv_at hl 1 rfl) ?_
        refine lv_bipush (v := 10) hx hb dX10_rest_18 (by decide) ?_
        refine lv_icmp_ge (tgt := 59) hx hb dX10_rest_20 (by decide) (fun c_20 => ?_) (fun c_20 => ?_)
        · have r_x1 : RI x1 10 10 := rc_le2 rl_10 r_x1 (ti_le c_20) (by decide)
          exact B59 x1 x2 z0_0 ws _ _ ls (r_x1.to (by decide)) (r_x2.to (by decide)) r_z0_0 m_z0_0 hw hl
        · have r_x1 : RI x1 0 9 := rc_lt1 r_x1 rl_10 (ti_nle c_20) (by decide)
          refine lv_iconst (v := 0) hx hb dX10_rest_23 (by decide) ?_
          refine lv_istore_n (lv' := [(2, .int 0), (0, .ref p0), (1, .int x1)]) hx hb dX10_rest_24 rfl hl (by decide) rfl (fun ls hl => ?_)
          refine lv_iconst (v := 0) hx hb dX10_rest_25 (by decide) ?_
          refine lv_istore_n (lv' := [(3, .int 0), (2, .int 0), (0, .ref p0), (1, .int x1)]) hx hb dX10_rest_26 rfl hl (by decide) rfl (fun ls hl => ?_)
          exact B27 4294967298 x1 0 0 z0_0 ws _ _ ls (by have q0 := rl_0.1; have u0 := rl_0.2; omega) r_x1 (rl_0.to (by decide)) (rl_0.to (by decide)) r_z0_0 m_z0_0 (by have q0 := r_x1.1; have u0 := r_x1.2; omega) hw (lv_sub hl [2, 3, 1, 0] rfl)
  refine lv_aload_n hx hb dX10_rest_0 rfl (lv_at hl 0 rfl) ?_
  refine lv_iconst (v := 0) hx hb dX10_rest_1 (by decide) ?_
  refine tg_put (ci := 10) (ts := ty_MODEL) (v := .int 0) (ty := .int) (C := RX10) (T := TX10) (N := 49) hx hb hts inX10 tyX10 tyX10_ok nmX10 hown hK hw h_p0 rfl rfl 0 (by decide) (hts _ tw_1137) (fun _ h9 => h9) rfl (by decide +kernel) rfl rfl (ft := vI (-2147483648) 2147483647) rfl ⟨_, rfl, (rl_0.to (by decide))⟩ (by decide) dX10_rest_2 (fun ws H locs hw n_k_16 hF9 => ?_)
  refine lv_aload_n hx hb dX10_rest_5 rfl (lv_at hl 0 rfl) ?_
  refine tk_v (va_runV (As := []) (rest := []) ⟨hx, hb, hml, hown, hts⟩ (c_X10_layAside l D cy z H.size Ps ws hw.1 p0 h_p0) (cwV 0 hts (gV tw_1583 tw_1585 ts_88 tw_15 tw_1586) rfl rfl rfl (by decide +kernel) ⟨Nat.le_of_ble_eq_true rfl, Nat.le_of_ble_eq_true rfl⟩) (tg_preV hw hK hSD hA (ci := 10) (q := (RX10, TX10, 49)) rfl h_p0 rfl) rfl rfl hl.1 rfl (lv_room (Nat.le_of_ble_eq_true rfl)) dX10_rest_6 ⟨Nat.le_of_ble_eq_true rfl, Nat.le_of_ble_eq_true rfl⟩) hw hA ⟨by decide, by decide⟩ (fun ws H locs hp_v_17 hw hF9 => ?_)
  have n_k_16 := FLD.over hF9 n_k_16 (by decide)
  refine lv_iconst (v := 0) hx hb dX10_rest_9 (by decide) ?_
  refine lv_istore_n (lv' := [(1, .int 0), (0, .ref p0)]) hx hb dX10_rest_10 rfl hl (by decide) rfl (fun ls hl => ?_)
  refine lv_iconst (v := 1) hx hb dX10_rest_11 (by decide) ?_
  refine lv_istore_n (lv' := [(2, .int 1), (1, .int 0), (0, .ref p0)]) hx hb dX10_rest_12 rfl hl (by decide) rfl (fun ls hl => ?_)
  exact B13 4294967298 0 1 0 ws _ _ ls (by have q0 := rl_0.1; have u0 := rl_0.2; omega) (rl_0.to (by decide)) (rl_1.to (by decide)) rl_0 n_k_16 hw (lv_sub hl [2, 1, 0] rfl)
abbrev wr_X10_size : List (Nat × Nat) := []
abbrev wa_X10_size : List Nat := []
set_option maxHeartbeats 4000000 in
set_option maxRecDepth 100000 in
theorem c_X10_size (l : Launch) (D : va_G) (cy : Nat → ClassId) (z : Nat → Nat) (sz : Nat) (Ps : PSI) (w0 : va_W) (hT : HT cy GG Ps w0) (p0 : Int32) (r_p0 : RI p0 (-2147483648) 2147483647) : Met l yX10_size (Cond.code yX10_size cX10_size 1 (some .int) :: gT) ({ frames := 0, cells := 0, slots := 0, locals := 200 } : Room) (va_Pc [.int p0] (PRE D cy z w0 sz)) (va_Qi (fun (r : Int32) (u : Unit) => RI r (-2147483648) 2147483647 ∧ (r = 0 → True) ∧ (¬ r = 0 → True)) (BB D cy (va_A w0 sz) (fun (u : Unit) => w0)) (va_A w0 sz)) 0 0 (va_A w0 sz) := by
  refine Met.ofW (cc := cX10_size) (maxL := 1) (ret := (some .int)) (by decide) rfl ?_
  intro p e s m args below meth c s₁ B hml hv
  obtain ⟨rfl, hsz, hP, hK, hD0, hSD⟩ := hv
  have hx := B.exec
  have hb := B.bytes
  have hr := B.returns
  have hlocks := B.notSynchronized
  have hts : ∀ w ∈ gT, w.before _ s = true := fun w h => atoms_spec (ws := Cond.code yX10_size cX10_size 1 (some .int) :: gT) B.pre w (List.mem_cons_of_mem _ h)
  have hown : s.vm.findClass RX10 = some m.cls := findClass_of_methodNamed B.named
  subst hsz
  have hD := hD0.self (sz := s.heap.size)
  generalize hAe : va_A w0 s.heap.size = A at hD hSD ⊢
  have hA : ∀ q : Nat, s.heap.size ≤ q → A q := fun q h => by rw [← hAe]; exact Or.inr h
  have hl := lv_entry ([.int p0]) (n := 1) (Nat.le_of_ble_eq_true rfl)
  rw [lg_entry_eq]
  generalize (lg_sl ([.int p0]) ++ List.replicate (1 - (lg_sl ([.int p0])).length) Slot.unset).toArray = ls at hl ⊢
  have hl : lv_has ls 1 [(0, .int p0)] := hl
  refine nameQ (fun Q hQ => ?_)
  have hw : WD D cy GG A s wr_X10_size wa_X10_size Ps w0 Ps w0 s.heap [] := ⟨hT, hP, hD, va_S.rf, FR.rf, hT.1, [], (List.append_nil _).symm⟩
  refine lv_iload_n hx hb dX10_size_0 rfl (lv_at hl 0 rfl) ?_
  refine lv_if_ge (tgt := 9) hx hb dX10_size_1 (by decide) (fun c_1 => ?_) (fun c_1 => ?_)
  · have r_p0 : RI p0 0 2147483647 := rc_le2 rl_0 r_p0 (ti_le c_1) (by decide)
    refine lv_iload_n hx hb dX10_size_9 rfl (lv_at hl 0 rfl) ?_
    subst hQ
    exact W.iret (v := p0) hx hb hr (fun t ht hW => ⟨⟨p0, (), rfl, ⟨r_p0.to (by decide), (fun h0 => trivial), (fun h0 => trivial)⟩, by rw [ht]; exact hw.2.1, va_K.moved hW.alike hK, hw.2.2.1⟩, hw.2.2.2.1.F ht⟩) hw.2.2.2.1.2.2 dX10_size_10
  · have r_p0 : RI p0 (-2147483648) (-1) := rc_lt1 r_p0 rl_0 (ti_nle c_1) (by decide)
    refine lv_iload_n hx hb dX10_size_4 rfl (lv_at hl 0 rfl) ?_
    refine lv_ineg hx hb dX10_size_5 (lv_topi (fun v_1 e_v_1 => ?_))
    have r_v_1 := ri_any v_1
    refine lv_goto (tgt := 10) hx hb dX10_size_6 (by decide) ?_
    subst hQ
    exact W.iret (v := v_1) hx hb hr (fun t ht hW => ⟨⟨v_1, (), rfl, ⟨r_v_1.to (by decide), (fun h0 => trivial), (fun h0 => trivial)⟩, by rw [ht]; exact hw.2.1, va_K.moved hW.alike hK, hw.2.2.1⟩, hw.2.2.2.1.F ht⟩) hw.2.2.2.1.2.2 dX10_size_10
abbrev wr_X10_has__3 : List (Nat × Nat) := []
abbrev wa_X10_has__3 : List Nat := []
set_option maxHeartbeats 4000000 in
set_option maxRecDepth 100000 in
theorem c_X10_has__3 (l : Launch) (D : va_G) (cy : Nat → ClassId) (z : Nat → Nat) (sz : Nat) (Ps : PSI) (w0 : va_W) (hT : HT cy GG Ps w0) (p0 : Int32) (p1 : Int32) (r_p0 : RI p0 0 255) (r_p1 : RI p1 0 7) : Met l yX10_has (Cond.code yX10_has cX10_has 2 (some .boolean) :: gT) ({ frames := 0, cells := 0, slots := 0, locals := 200 } : Room) (va_Pc [.int p0, .int p1] (PRE D cy z w0 sz)) (va_Qi (fun (r : Int32) (u : Unit) => RI r 0 1 ∧ (r = 0 → True) ∧ (¬ r = 0 → True)) (BB D cy (va_A w0 sz) (fun (u : Unit) => w0)) (va_A w0 sz)) 0 0 (va_A w0 sz) := by
  refine Met.ofW (cc := cX10_has) (maxL := 2) (ret := (some .boolean)) (by decide) rfl ?_
  intro p e s m args below meth c s₁ B hml hv
  obtain ⟨rfl, hsz, hP, hK, hD0, hSD⟩ := hv
  have hx := B.exec
  have hb := B.bytes
  have hr := B.returns
  have hlocks := B.notSynchronized
  have hts : ∀ w ∈ gT, w.before _ s = true := fun w h => atoms_spec (ws := Cond.code yX10_has cX10_has 2 (some .boolean) :: gT) B.pre w (List.mem_cons_of_mem _ h)
  have hown : s.vm.findClass RX10 = some m.cls := findClass_of_methodNamed B.named
  subst hsz
  have hD := hD0.self (sz := s.heap.size)
  generalize hAe : va_A w0 s.heap.size = A at hD hSD ⊢
  have hA : ∀ q : Nat, s.heap.size ≤ q → A q := fun q h => by rw [← hAe]; exact Or.inr h
  have hl := lv_entry ([.int p0, .int p1]) (n := 2) (Nat.le_of_ble_eq_true rfl)
  rw [lg_entry_eq]
  generalize (lg_sl ([.int p0, .int p1]) ++ List.replicate (2 - (lg_sl ([.int p0, .int p1])).length) Slot.unset).toArray = ls at hl ⊢
  have hl : lv_has ls 2 [(0, .int p0), (1, .int p1)] := hl
  refine nameQ (fun Q hQ => ?_)
  have hw : WD D cy GG A s wr_X10_has__3 wa_X10_has__3 Ps w0 Ps w0 s.heap [] := ⟨hT, hP, hD, va_S.rf, FR.rf, hT.1, [], (List.append_nil _).symm⟩
  refine lv_iload_n hx hb dX10_has_0 rfl (lv_at hl 0 rfl) ?_
  refine lv_iload_n hx hb dX10_has_1 rfl (lv_at hl 1 rfl) ?_
  refine lv_ishr hx hb dX10_has_2 (lv_topi (fun v_1 e_v_1 => ?_))
  have r_v_1 := ri_any v_1
  refine lv_iconst (v := 1) hx hb dX10_has_3 (by decide) ?_
  refine lv_iand hx hb dX10_has_4 (lv_topi (fun v_2 e_v_2 => ?_))
  have r_v_2 : RI v_2 0 1 := by rw [e_v_2]; exact ri_and (d := 1) (rl_1.to (by decide)) (by decide)
  refine lv_iconst (v := 1) hx hb dX10_has_5 (by decide) ?_
  refine lv_icmp_ne (tgt := 13) hx hb dX10_has_6 (by decide) (fun c_6 => ?_) (fun c_6 => ?_)
  · have r_v_2 : RI v_2 0 0 := rc_neU r_v_2 rl_1 (ti_ne c_6) (by decide)
    refine lv_iconst (v := 0) hx hb dX10_has_13 (by decide) ?_
    subst hQ
    exact W.zret (v := 0) hx hb hr (rfl) (fun t ht hW => ⟨⟨0, (), rfl, ⟨rl_0.to (by decide), (fun h0 => trivial), (fun _ => trivial)⟩, by rw [ht]; exact hw.2.1, va_K.moved hW.alike hK, hw.2.2.1⟩, hw.2.2.2.1.F ht⟩) hw.2.2.2.1.2.2 dX10_has_14
  · have r_v_2 : RI v_2 1 1 := rc_eq1 r_v_2 rl_1 (ti_eq c_6) (by decide)
    refine lv_iconst (v := 1) hx hb dX10_has_9 (by decide) ?_
    refine lv_goto (tgt := 14) hx hb dX10_has_10 (by decide) ?_
    subst hQ
    exact W.zret (v := 1) hx hb hr (rfl) (fun t ht hW => ⟨⟨1, (), rfl, ⟨rl_1.to (by decide), (fun _ => trivial), (fun h0 => trivial)⟩, by rw [ht]; exact hw.2.1, va_K.moved hW.alike hK, hw.2.2.1⟩, hw.2.2.2.1.F ht⟩) hw.2.2.2.1.2.2 dX10_has_14
abbrev wr_X10_satSo : List (Nat × Nat) := []
abbrev wa_X10_satSo : List Nat := [34, 39]
set_option maxHeartbeats 4000000 in
set_option maxRecDepth 100000 in
theorem c_X10_satSo (l : Launch) (D : va_G) (cy : Nat → ClassId) (z : Nat → Nat) (sz : Nat) (Ps : PSI) (w0 : va_W) (hT : HT cy GG Ps w0) (p0 : Nat) (p1 : Int32) (p2 : Int32) (p3 : Int32) (p4 : Int32) (p5 : Int32) (h_p0 : (p0, 55) ∈ Ps) (r_p1 : RI p1 (-2147483648) 2147483647) (r_p2 : RI p2 0 5) (r_p3 : RI p3 (-2147483648) 2147483647) (r_p4 : RI p4 (-2147483648) 2147483647) (r_p5 : RI p5 (-2147483648) 2147483647) : Met l yX10_satSo (Cond.code yX10_satSo cX10_satSo 8 (some .boolean) :: gT) ({ frames := 3, cells := 0, slots := 0, locals := 600 } : Room) (va_Pc [.ref p0, .int p1, .int p2, .int p3, .int p4, .int p5] (PRE D cy z w0 sz)) (va_Qi (fun (r : Int32) (u : va_W) => (RI r 0 1 ∧ (r = 0 → True) ∧ (¬ r = 0 → True)) ∧ HT cy GG Ps u ∧ FR wr_X10_satSo wa_X10_satSo Ps w0 u) (BB D cy (va_A w0 sz) (fun (u : va_W) => u)) (va_A w0 sz)) 0 0 (va_A w0 sz) := by
  refine Met.ofW (cc := cX10_satSo) (maxL := 8) (ret := (some .boolean)) (by decide) rfl ?_
  intro p e s m args below meth c s₁ B hml hv
  obtain ⟨rfl, hsz, hP, hK, hD0, hSD⟩ := hv
  have hx := B.exec
  have hb := B.bytes
  have hr := B.returns
  have hlocks := B.notSynchronized
  have hts : ∀ w ∈ gT, w.before _ s = true := fun w h => atoms_spec (ws := Cond.code yX10_satSo cX10_satSo 8 (some .boolean) :: gT) B.pre w (List.mem_cons_of_mem _ h)
  have hown : s.vm.findClass RX10 = some m.cls := findClass_of_methodNamed B.named
  subst hsz
  have hD := hD0.self (sz := s.heap.size)
  generalize hAe : va_A w0 s.heap.size = A at hD hSD ⊢
  have hA : ∀ q : Nat, s.heap.size ≤ q → A q := fun q h => by rw [← hAe]; exact Or.inr h
  have hl := lv_entry ([.ref p0, .int p1, .int p2, .int p3, .int p4, .int p5]) (n := 8) (Nat.le_of_ble_eq_true rfl)
  rw [lg_entry_eq]
  generalize (lg_sl ([.ref p0, .int p1, .int p2, .int p3, .int p4, .int p5]) ++ List.replicate (8 - (lg_sl ([.ref p0, .int p1, .int p2, .int p3, .int p4, .int p5])).length) Slot.unset).toArray = ls at hl ⊢
  have hl : lv_has ls 8 [(0, .ref p0), (1, .int p1), (2, .int p2), (3, .int p3), (4, .int p4), (5, .int p5)] := hl
  refine nameQ (fun Q hQ => ?_)
  have hw : WD D cy GG A s wr_X10_satSo wa_X10_satSo Ps w0 Ps w0 s.heap [] := ⟨hT, hP, hD, va_S.rf, FR.rf, hT.1, [], (List.append_nil _).symm⟩
  have B125 : ∀ (x6 : Int32) (y0 : Int32) (ws : va_W) (H : Heap) (locs : List Loc) (ls : Array Slot), RI p1 (-2147483648) 2147483647 → RI p2 0 5 → RI p3 (-2147483648) 2147483647 → RI p4 (-2147483648) 2147483647 → RI p5 (-2147483648) 2147483647 → RI x6 (-2147483648) 2147483647 → RI y0 0 1 → WD D cy GG A s wr_X10_satSo wa_X10_satSo Ps w0 Ps ws H locs → lv_has ls 8 [(0, .ref p0), (1, .int p1), (2, .int p2), (3, .int p3), (4, .int p4), (5, .int p5), (6, .int x6)] → W p l e (headSpec (Cond.code yX10_satSo cX10_satSo 8 (some .boolean) :: gT) ({ frames := 3, cells := 0, slots := 0, locals := 600 } : Room)).room s m ([.ref p0, .int p1, .int p2, .int p3, .int p4, .int p5] : List Value).toArray below meth c H locs 0 0 Q (F0 m 125 ls [.int y0]) := by
    intro x6 y0 ws H locs ls r_p1 r_p2 r_p3 r_p4 r_p5 r_x6 r_y0 hw hl
    refine lv_istore (lv' := [(7, .int y0), (0, .ref p0), (1, .int p1), (2, .int p2), (3, .int p3), (4, .int p4), (5, .int p5), (6, .int x6)]) hx hb dX10_satSo_125 hl (by decide) rfl (fun ls hl => ?_)
    refine lv_aload_n hx hb dX10_satSo_127 rfl (lv_at hl 1 rfl) ?_
    refine tk_v (va_runV (As := []) (rest := []) ⟨hx, hb, hml, hown, hts⟩ (c_X10_back l D cy z H.size Ps ws hw.1 p0 h_p0) (cwV 0 hts (gV tw_1611 tw_1613 ts_92 tw_15 tw_1614) rfl rfl rfl (by decide +kernel) ⟨Nat.le_of_ble_eq_true rfl, Nat.le_of_ble_eq_true rfl⟩) (tg_preV hw hK hSD hA (ci := 10) (q := (RX10, TX10, 49)) rfl h_p0 rfl) rfl rfl hl.1 rfl (lv_room (Nat.le_of_ble_eq_true rfl)) dX10_satSo_128 ⟨Nat.le_of_ble_eq_true rfl, Nat.le_of_ble_eq_true rfl⟩) hw hA ⟨by decide, by decide⟩ (fun ws H locs hp_v_1 hw hF9 => ?_)
    refine lv_iload hx hb dX10_satSo_131 (lv_at hl 0 rfl) ?_
    subst hQ
    exact W.zret (v := y0) hx hb hr (tq_nz (r_y0.to (by decide))) (fun t ht hW => ⟨⟨y0, ws, rfl, ⟨⟨r_y0.to (by decide), (fun h0 => trivial), (fun h0 => trivial)⟩, hw.1, hw.2.2.2.2.1⟩, by rw [ht]; exact hw.2.1, va_K.moved hW.alike hK, hw.2.2.1⟩, hw.2.2.2.1.F ht⟩) hw.2.2.2.1.2.2 dX10_satSo_133
  have B124 : ∀ (x6 : Int32) (ws : va_W) (H : Heap) (locs : List Loc) (ls : Array Slot), RI p1 (-2147483648) 2147483647 → RI p2 0 5 → RI p3 (-2147483648) 2147483647 → RI p4 (-2147483648) 2147483647 → RI p5 (-2147483648) 2147483647 → RI x6 (-2147483648) 2147483647 → WD D cy GG A s wr_X10_satSo wa_X10_satSo Ps w0 Ps ws H locs → lv_has ls 8 [(0, .ref p0), (1, .int p1), (2, .int p2), (3, .int p3), (4, .int p4), (5, .int p5), (6, .int x6)] → W p l e (headSpec (Cond.code yX10_satSo cX10_satSo 8 (some .boolean) :: gT) ({ frames := 3, cells := 0, slots := 0, locals := 600 } : Room)).room s m ([.ref p0, .int p1, .int p2, .int p3, .int p4, .int p5] : List Value).toArray below meth c H locs 0 0 Q (F0 m 124 ls []) := by
    intro x6 ws H locs ls r_p1 r_p2 r_p3 r_p4 r_p5 r_x6 hw hl
    refine lv_iconst (v := 0) hx hb dX10_satSo_124 (by decide) ?_
    exact B125 x6 0 ws _ _ ls r_p1 r_p2 r_p3 r_p4 r_p5 r_x6 (rl_0.to (by decide)) hw hl
  have B101 : ∀ (x6 : Int32) (y0 : Int32) (ws : va_W) (H : Heap) (locs : List Loc) (ls : Array Slot), RI p1 (-2147483648) 2147483647 → RI p2 0 5 → RI p3 (-2147483648) 2147483647 → RI p4 (-2147483648) 2147483647 → RI p5 (-2147483648) 2147483647 → RI x6 0 2147483647 → RI y0 (-2147483648) 2147483647 → WD D cy GG A s wr_X10_satSo wa_X10_satSo Ps w0 Ps ws H locs → lv_has ls 8 [(0, .ref p0), (1, .int p1), (2, .int p2), (3, .int p3), (4, .int p4), (5, .int p5), (6, .int x6)] → W p l e (headSpec (Cond.code yX10_satSo cX10_satSo 8 (some .boolean) :: gT) ({ frames := 3, cells := 0, slots := 0, locals := 600 } : Room)).room s m ([.ref p0, .int p1, .int p2, .int p3, .int p4, .int p5] : List Value).toArray below meth c H locs 0 0 Q (F0 m 101 ls [.int y0]) := by
    intro x6 y0 ws H locs ls r_p1 r_p2 r_p3 r_p4 r_p5 r_x6 r_y0 hw hl
    refine lv_istore (lv' := [(6, .int y0), (0, .ref p0), (1, .int p1), (2, .int p2), (3, .int p3), (4, .int p4), (5, .int p5)]) hx hb dX10_satSo_101 hl (by decide) rfl (fun ls hl => ?_)
    refine lv_aload_n hx hb dX10_satSo_103 rfl (lv_at hl 1 rfl) ?_
    refine lv_iload_n hx hb dX10_satSo_104 rfl (lv_at hl 3 rfl) ?_
    refine tk_ir (va_runV (As := [.int p2]) (rest := []) ⟨hx, hb, hml, hown, hts⟩ (c_X10_whatIs l D cy z H.size Ps ws hw.1 p0 p2 h_p0 r_p2) (cwV 1 hts (gV tw_1449 tw_1451 ts_69 tw_15 tw_1452) rfl rfl rfl (by decide +kernel) ⟨Nat.le_of_ble_eq_true rfl, Nat.le_of_ble_eq_true rfl⟩) (tg_preV hw hK hSD hA (ci := 10) (q := (RX10, TX10, 49)) rfl h_p0 rfl) rfl rfl hl.1 rfl (lv_room (Nat.le_of_ble_eq_true rfl)) dX10_satSo_105 ⟨Nat.le_of_ble_eq_true rfl, Nat.le_of_ble_eq_true rfl⟩) hw hA (fun v_2  H locs hp_v_2 hw => ?_)
    have r_v_2 : RI v_2 (-1) 5 := hp_v_2.1
    by_cases c9_v_2 : v_2.toInt < 0
    · have r_v_2 : RI v_2 (-1) (-1) := by unfold RI at r_v_2 ⊢; omega
      have x_NB_p0_p2 := (hp_v_2.2.2.2.2.1 (by omega)).1
      refine lv_iload hx hb dX10_satSo_108 (lv_at hl 5 rfl) ?_
      refine lv_icmp_ne (tgt := 124) hx hb dX10_satSo_110 (by decide) (fun c_110 => ?_) (fun c_110 => ?_)
      · exact B124 y0 ws _ _ ls r_p1 r_p2 r_p3 r_p4 r_p5 r_y0 hw (lv_sub hl [1, 2, 3, 4, 5, 6, 0] rfl)
      · have r_p4 : RI p4 (-1) (-1) := rc_eq2 r_v_2 r_p4 (ti_eq c_110) (by decide)
        refine lv_iload hx hb dX10_satSo_113 (lv_at hl 0 rfl) ?_
        refine lv_iload hx hb dX10_satSo_115 (lv_at hl 6 rfl) ?_
        refine lv_icmp_ne (tgt := 124) hx hb dX10_satSo_117 (by decide) (fun c_117 => ?_) (fun c_117 => ?_)
        · exact B124 y0 ws _ _ ls r_p1 r_p2 r_p3 (r_p4.to (by decide)) r_p5 r_y0 hw (lv_sub hl [1, 2, 3, 4, 5, 6, 0] rfl)
        · refine lv_iconst (v := 1) hx hb dX10_satSo_120 (by decide) ?_
          refine lv_goto (tgt := 125) hx hb dX10_satSo_121 (by decide) ?_
          exact B125 y0 1 ws _ _ ls r_p1 r_p2 r_p3 (r_p4.to (by decide)) r_p5 r_y0 (rl_1.to (by decide)) hw (lv_sub hl [1, 2, 3, 4, 5, 6, 0] rfl)
    · have r_v_2 : RI v_2 0 5 := by unfold RI at r_v_2 ⊢; omega
      have x_WB_p0_p2_v_2 := (hp_v_2.2.2.2.2.2 (by omega)).1
      refine lv_iload hx hb dX10_satSo_108 (lv_at hl 5 rfl) ?_
      refine lv_icmp_ne (tgt := 124) hx hb dX10_satSo_110 (by decide) (fun c_110 => ?_) (fun c_110 => ?_)
      · exact B124 y0 ws _ _ ls r_p1 r_p2 r_p3 r_p4 r_p5 r_y0 hw (lv_sub hl [1, 2, 3, 4, 5, 6, 0] rfl)
      · have r_p4 : RI p4 0 5 := rc_eq2 r_v_2 r_p4 (ti_eq c_110) (by decide)
        refine lv_iload hx hb dX10_satSo_113 (lv_at hl 0 rfl) ?_
        refine lv_iload hx hb dX10_satSo_115 (lv_at hl 6 rfl) ?_
        refine lv_icmp_ne (tgt := 124) hx hb dX10_satSo_117 (by decide) (fun c_117 => ?_) (fun c_117 => ?_)
        · exact B124 y0 ws _ _ ls r_p1 r_p2 r_p3 (r_p4.to (by decide)) r_p5 r_y0 hw (lv_sub hl [1, 2, 3, 4, 5, 6, 0] rfl)
        · refine lv_iconst (v := 1) hx hb dX10_satSo_120 (by decide) ?_
          refine lv_goto (tgt := 125) hx hb dX10_satSo_121 (by decide) ?_
          exact B125 y0 1 ws _ _ ls r_p1 r_p2 r_p3 (r_p4.to (by decide)) r_p5 r_y0 (rl_1.to (by decide)) hw (lv_sub hl [1, 2, 3, 4, 5, 6, 0] rfl)
  have B7 : ∀ (nf : Nat) (x6 : Int32) (ws : va_W) (H : Heap) (locs : List Loc) (ls : Array Slot), 2147483647 - x6.toInt < (nf : Int) → RI p1 (-2147483648) 2147483647 → RI p2 0 5 → RI p3 (-2147483648) 2147483647 → RI p4 (-2147483648) 2147483647 → RI p5 (-2147483648) 2147483647 → RI x6 0 2147483647 → WD D cy GG A s wr_X10_satSo wa_X10_satSo Ps w0 Ps ws H locs → lv_has ls 8 [(0, .ref p0), (1, .int p1), (2, .int p2), (3, .int p3), (4, .int p4), (5, .int p5), (6, .int x6)] → W p l e (headSpec (Cond.code yX10_satSo cX10_satSo 8 (some .boolean) :: gT) ({ frames := 3, cells := 0, slots := 0, locals := 600 } : Room)).room s m ([.ref p0, .int p1, .int p2, .int p3, .int p4, .int p5] : List Value).toArray below meth c H locs 0 0 Q (F0 m 7 ls []) := by
    intro nf7
    induction nf7 with
    | zero =>
      intro x6 ws H locs ls hn7 r_p1 r_p2 r_p3 r_p4 r_p5 r_x6 hw hl
      exact absurd hn7 (by have q0 := r_x6.1; have u0 := r_x6.2; omega)
    | succ nf7 ih7 =>
      have B16 : ∀ (nf : Nat) (x6 : Int32) (x7 : Int32) (ws : va_W) (H : Heap) (locs : List Loc) (ls : Array Slot), 8 - x7.toInt < (nf : Int) → RI p1 (-2147483648) 2147483647 → RI p2 0 5 → RI p3 1 2147483647 → RI p4 (-2147483648) 2147483647 → RI p5 (-2147483648) 2147483647 → RI x6 0 2147483646 → RI x7 0 8 → 2147483647 - x6.toInt < ((nf7 + 1 : Nat) : Int) → WD D cy GG A s wr_X10_satSo wa_X10_satSo Ps w0 Ps ws H locs → lv_has ls 8 [(0, .ref p0), (1, .int p1), (2, .int p2), (3, .int p3), (4, .int p4), (5, .int p5), (6, .int x6), (7, .int x7)] → W p l e (headSpec (Cond.code yX10_satSo cX10_satSo 8 (some .boolean) :: gT) ({ frames := 3, cells := 0, slots := 0, locals := 600 } : Room)).room s m ([.ref p0, .int p1, .int p2, .int p3, .int p4, .int p5] : List Value).toArray below meth c H locs 0 0 Q (F0 m 16 ls []) := by
        intro nf16
        induction nf16 with
        | zero =>
          intro x6 x7 ws H locs ls hn16 r_p1 r_p2 r_p3 r_p4 r_p5 r_x6 r_x7 hn7 hw hl
          exact absurd hn16 (by have q0 := r_x7.1; have u0 := r_x7.2; omega)
        | succ nf16 ih16 =>
          intro x6 x7 ws H locs ls hn16 r_p1 r_p2 r_p3 r_p4 r_p5 r_x6 r_x7 hn7 hw hl
          refine lv_iload hx hb dX10_satSo_16 (lv_at hl 7 rfl) ?_
          refine lv_aload_n hx hb dX10_satSo_18 rfl (lv_at hl 0 rfl) ?_
          refine tg_get (ci := 10) (ts := ty_MODEL) (C := RX10) (T := TX10) (N := 49) hx hb hts inX10 hown hK hw h_p0 rfl rfl 14 (by decide) (hts _ tw_1151) (fun _ h9 => h9) (ft := vR 34) rfl dX10_satSo_19 (fun u_3 hv_u_3 m_u_3 => ?_)
          obtain ⟨vu_3, rfl, h_vu_3⟩ := hv_u_3
          refine lv_iconst (v := 3) hx hb dX10_satSo_22 (by decide) ?_
          refine tg_iald (lo := 0) (hi := 8) hx hb hK hw h_vu_3 rfl 3 3 rl_3 (by decide) (by decide +kernel) dX10_satSo_23 (fun v_4 r_v_4 m_v_4 o_v_4 => ?_)
          refine lv_icmp_ge (tgt := 67) hx hb dX10_satSo_24 (by decide) (fun c_24 => ?_) (fun c_24 => ?_)
          · obtain ⟨v_5, e_v_5⟩ : ∃ q9 : Int32, q9 = x6 + Int32.ofInt 1 := ⟨_, rfl⟩
            obtain ⟨t_v_5, r_v_5⟩ := tq_add (lo := 1) (hi := 2147483647) r_x6 (show RI (Int32.ofInt 1) 1 1 by unfold RI; decide +kernel) (by decide +kernel) e_v_5
            have t_v_5 : v_5.toInt = x6.toInt + 1 := t_v_5
            refine lv_iinc (v := v_5) (lv' := [(6, .int v_5), (0, .ref p0), (1, .int p1), (2, .int p2), (3, .int p3), (4, .int p4), (5, .int p5), (7, .int x7)]) hx hb dX10_satSo_67 hl (k := 6) rfl e_v_5.symm (by decide) rfl (fun ls hl => ?_)
            refine lv_goto (tgt := 7) hx hb dX10_satSo_70 (by decide) ?_
            exact ih7 v_5 ws _ _ ls (by have q0 := r_v_5.1; have u0 := r_v_5.2; have o0 := r_x6.1; have p0 := r_x6.2; omega) r_p1 r_p2 (r_p3.to (by decide)) r_p4 r_p5 (r_v_5.to (by decide)) hw (lv_sub hl [1, 2, 3, 4, 5, 6, 0] rfl)
          · have r_x7 : RI x7 0 7 := rc_lt1 r_x7 r_v_4 (ti_nle c_24) (by decide)
            have r_v_4 : RI v_4 1 8 := rc_lt2 r_x7 r_v_4 (ti_nle c_24) (by decide)
            refine lv_iload_n hx hb dX10_satSo_27 rfl (lv_at hl 1 rfl) ?_
            refine lv_iload hx hb dX10_satSo_28 (lv_at hl 7 rfl) ?_
            refine tk_ir (va_runS (As := [.int p1, .int x7]) (rest := []) ⟨hx, hb, hml, hown, hts⟩ (c_X10_has l D cy z H.size Ps ws hw.1 p1 x7 r_p1 r_x7) (va_cwS 2 hts (gS tw_1402 tw_1403 tw_15 tw_1404) rfl rfl rfl (by decide +kernel) ⟨Nat.le_of_ble_eq_true rfl, Nat.le_of_ble_eq_true rfl⟩) (tg_preS hw hK hSD hA) rfl rfl hl.1 rfl (lv_room (Nat.le_of_ble_eq_true rfl)) dX10_satSo_30 ⟨Nat.le_of_ble_eq_true rfl, Nat.le_of_ble_eq_true rfl⟩) hw hA (fun v_6  H locs hp_v_6 hw => ?_)
            have r_v_6 : RI v_6 0 1 := hp_v_6.1
            refine lv_if_eq (tgt := 61) hx hb dX10_satSo_33 (by decide) (fun c_33 => ?_) (fun c_33 => ?_)
            · have r_v_6 : RI v_6 0 0 := rc_eq1 r_v_6 rl_0 (ti_eq c_33) (by decide)
              obtain ⟨v_7, e_v_7⟩ : ∃ q9 : Int32, q9 = x7 + Int32.ofInt 1 := ⟨_, rfl⟩
              obtain ⟨t_v_7, r_v_7⟩ := tq_add (lo := 1) (hi := 8) r_x7 (show RI (Int32.ofInt 1) 1 1 by unfold RI; decide +kernel) (by decide +kernel) e_v_7
              have t_v_7 : v_7.toInt = x7.toInt + 1 := t_v_7
              refine lv_iinc (v := v_7) (lv' := [(7, .int v_7), (0, .ref p0), (1, .int p1), (2, .int p2), (3, .int p3), (4, .int p4), (5, .int p5), (6, .int x6)]) hx hb dX10_satSo_61 hl (k := 7) rfl e_v_7.symm (by decide) rfl (fun ls hl => ?_)
              refine lv_goto (tgt := 16) hx hb dX10_satSo_64 (by decide) ?_
              exact ih16 x6 v_7 ws _ _ ls (by have q0 := r_v_7.1; have u0 := r_v_7.2; have o0 := r_x7.1; have p0 := r_x7.2; omega) r_p1 r_p2 r_p3 r_p4 r_p5 r_x6 (r_v_7.to (by decide)) (by have q0 := r_x6.1; have u0 := r_x6.2; omega) hw (lv_sub hl [1, 2, 3, 4, 5, 6, 7, 0] rfl)
            · have r_v_6 : RI v_6 1 1 := rc_neL r_v_6 rl_0 (ti_ne c_33) (by decide)
              refine lv_aload_n hx hb dX10_satSo_36 rfl (lv_at hl 0 rfl) ?_
              refine lv_iload_n hx hb dX10_satSo_37 rfl (lv_at hl 2 rfl) ?_
              refine lv_aload_n hx hb dX10_satSo_38 rfl (lv_at hl 0 rfl) ?_
              refine tg_mem (ci := 10) (C := RX10) (T := TX10) (N := 49) hx hb hts inX10 hown hK hw 14 m_u_3 rfl (by decide) (hts _ tw_1151) (fun _ h9 => h9) dX10_satSo_39 ?_
              refine lv_bipush (v := 104) hx hb dX10_satSo_42 (by decide) ?_
              refine lv_iload hx hb dX10_satSo_44 (lv_at hl 7 rfl) ?_
              refine lv_iadd hx hb dX10_satSo_46 (lv_topi (fun v_8 e_v_8 => ?_))
              obtain ⟨t_v_8, r_v_8⟩ := tq_add (lo := 104) (hi := 111) rl_104 r_x7 (by decide +kernel) e_v_8
              have t_v_8 : v_8.toInt = 104 + x7.toInt := t_v_8
              refine tg_iald (lo := 0) (hi := 5) hx hb hK hw h_vu_3 rfl 104 111 r_v_8 (by decide) (by decide +kernel) dX10_satSo_47 (fun v_9 r_v_9 m_v_9 o_v_9 => ?_)
              refine lv_aload_n hx hb dX10_satSo_48 rfl (lv_at hl 0 rfl) ?_
              refine tg_mem (ci := 10) (C := RX10) (T := TX10) (N := 49) hx hb hts inX10 hown hK hw 14 m_u_3 rfl (by decide) (hts _ tw_1151) (fun _ h9 => h9) dX10_satSo_49 ?_
              refine lv_bipush (v := 32) hx hb dX10_satSo_52 (by decide) ?_
              refine lv_iload hx hb dX10_satSo_54 (lv_at hl 7 rfl) ?_
              refine lv_iadd hx hb dX10_satSo_56 (lv_topi (fun v_10 e_v_10 => ?_))
              obtain ⟨t_v_10, r_v_10⟩ := tq_add (lo := 32) (hi := 39) rl_32 r_x7 (by decide +kernel) e_v_10
              have t_v_10 : v_10.toInt = 32 + x7.toInt := t_v_10
              refine tg_iald (lo := (-2147483648)) (hi := 2147483647) hx hb hK hw h_vu_3 rfl 32 39 r_v_10 (by decide) (by decide +kernel) dX10_satSo_57 (fun v_11 r_v_11 m_v_11 o_v_11 => ?_)
              refine tk_v (va_runV (As := [.int p2, .int v_9, .int v_11]) (rest := []) ⟨hx, hb, hml, hown, hts⟩ (c_X10_adds l D cy z H.size Ps ws hw.1 p0 p2 v_9 v_11 h_p0 r_p2 r_v_9 r_v_11) (cwV 3 hts (gV tw_1521 tw_1523 ts_82 tw_15 tw_1524) rfl rfl rfl (by decide +kernel) ⟨Nat.le_of_ble_eq_true rfl, Nat.le_of_ble_eq_true rfl⟩) (tg_preV hw hK hSD hA (ci := 10) (q := (RX10, TX10, 49)) rfl h_p0 rfl) rfl rfl hl.1 rfl (lv_room (Nat.le_of_ble_eq_true rfl)) dX10_satSo_58 ⟨Nat.le_of_ble_eq_true rfl, Nat.le_of_ble_eq_true rfl⟩) hw hA ⟨by decide, by decide⟩ (fun ws H locs hp_v_12 hw hF9 => ?_)
              obtain ⟨v_13, e_v_13⟩ : ∃ q9 : Int32, q9 = x7 + Int32.ofInt 1 := ⟨_, rfl⟩
              obtain ⟨t_v_13, r_v_13⟩ := tq_add (lo := 1) (hi := 8) r_x7 (show RI (Int32.ofInt 1) 1 1 by unfold RI; decide +kernel) (by decide +kernel) e_v_13
              have t_v_13 : v_13.toInt = x7.toInt + 1 := t_v_13
              refine lv_iinc (v := v_13) (lv' := [(7, .int v_13), (0, .ref p0), (1, .int p1), (2, .int p2), (3, .int p3), (4, .int p4), (5, .int p5), (6, .int x6)]) hx hb dX10_satSo_61 hl (k := 7) rfl e_v_13.symm (by decide) rfl (fun ls hl => ?_)
              refine lv_goto (tgt := 16) hx hb dX10_satSo_64 (by decide) ?_
              exact ih16 x6 v_13 ws _ _ ls (by have q0 := r_v_13.1; have u0 := r_v_13.2; have o0 := r_x7.1; have p0 := r_x7.2; omega) r_p1 r_p2 r_p3 r_p4 r_p5 r_x6 (r_v_13.to (by decide)) (by have q0 := r_x6.1; have u0 := r_x6.2; omega) hw (lv_sub hl [1, 2, 3, 4, 5, 6, 7, 0] rfl)
      intro x6 ws H locs ls hn7 r_p1 r_p2 r_p3 r_p4 r_p5 r_x6 hw hl
      refine lv_iload hx hb dX10_satSo_7 (lv_at hl 6 rfl) ?_
      refine lv_iload_n hx hb dX10_satSo_9 rfl (lv_at hl 3 rfl) ?_
      refine lv_icmp_ge (tgt := 73) hx hb dX10_satSo_10 (by decide) (fun c_10 => ?_) (fun c_10 => ?_)
      · refine lv_aload_n hx hb dX10_satSo_73 rfl (lv_at hl 0 rfl) ?_
        refine lv_iload_n hx hb dX10_satSo_74 rfl (lv_at hl 1 rfl) ?_
        refine tk_ir (va_runV (As := [.int p1]) (rest := []) ⟨hx, hb, hml, hown, hts⟩ (c_X10_areUnlike l D cy z H.size Ps ws hw.1 p0 p1 h_p0 r_p1) (cwV 1 hts (gV tw_1572 tw_1574 ts_87 tw_15 tw_1575) rfl rfl rfl (by decide +kernel) ⟨Nat.le_of_ble_eq_true rfl, Nat.le_of_ble_eq_true rfl⟩) (tg_preV hw hK hSD hA (ci := 10) (q := (RX10, TX10, 49)) rfl h_p0 rfl) rfl rfl hl.1 rfl (lv_room (Nat.le_of_ble_eq_true rfl)) dX10_satSo_75 ⟨Nat.le_of_ble_eq_true rfl, Nat.le_of_ble_eq_true rfl⟩) hw hA (fun v_14  H locs hp_v_14 hw => ?_)
        have r_v_14 : RI v_14 0 1 := hp_v_14.1
        refine lv_if_eq (tgt := 100) hx hb dX10_satSo_78 (by decide) (fun c_78 => ?_) (fun c_78 => ?_)
        · have r_v_14 : RI v_14 0 0 := rc_eq1 r_v_14 rl_0 (ti_eq c_78) (by decide)
          refine lv_iconst (v := 0) hx hb dX10_satSo_100 (by decide) ?_
          exact B101 x6 0 ws _ _ ls r_p1 r_p2 r_p3 r_p4 r_p5 r_x6 (rl_0.to (by decide)) hw hl
        · have r_v_14 : RI v_14 1 1 := rc_neL r_v_14 rl_0 (ti_ne c_78) (by decide)
          refine lv_iload_n hx hb dX10_satSo_81 rfl (lv_at hl 3 rfl) ?_
          refine lv_bipush (v := 99) hx hb dX10_satSo_82 (by decide) ?_
          refine lv_aload_n hx hb dX10_satSo_84 rfl (lv_at hl 0 rfl) ?_
          refine tg_get (ci := 10) (ts := ty_MODEL) (C := RX10) (T := TX10) (N := 49) hx hb hts inX10 hown hK hw h_p0 rfl rfl 14 (by decide) (hts _ tw_1151) (fun _ h9 => h9) (ft := vR 34) rfl dX10_satSo_85 (fun u_15 hv_u_15 m_u_15 => ?_)
          obtain ⟨vu_15, rfl, h_vu_15⟩ := hv_u_15
          refine lv_bipush (v := 92) hx hb dX10_satSo_88 (by decide) ?_
          refine lv_iload_n hx hb dX10_satSo_90 rfl (lv_at hl 2 rfl) ?_
          refine lv_iadd hx hb dX10_satSo_91 (lv_topi (fun v_16 e_v_16 => ?_))
          obtain ⟨t_v_16, r_v_16⟩ := tq_add (lo := 92) (hi := 97) rl_92 r_p2 (by decide +kernel) e_v_16
          have t_v_16 : v_16.toInt = 92 + p2.toInt := t_v_16
          refine tg_iald (lo := (-2147483648)) (hi := 2147483647) hx hb hK hw h_vu_15 rfl 92 97 r_v_16 (by decide) (by decide +kernel) dX10_satSo_92 (fun v_17 r_v_17 m_v_17 o_v_17 => ?_)
          refine lv_isub hx hb dX10_satSo_93 (lv_topi (fun v_18 e_v_18 => ?_))
          have r_v_18 := ri_any v_18
          refine tk_ir (va_runS (As := [.int p3, .int v_18]) (rest := []) ⟨hx, hb, hml, hown, hts⟩ (c_X10_least__1 l D cy z H.size Ps ws hw.1 p3 v_18 r_p3 r_v_18) (va_cwS 2 hts (gS tw_1525 tw_1526 tw_15 tw_1527) rfl rfl rfl (by decide +kernel) ⟨Nat.le_of_ble_eq_true rfl, Nat.le_of_ble_eq_true rfl⟩) (tg_preS hw hK hSD hA) rfl rfl hl.1 rfl (lv_room (Nat.le_of_ble_eq_true rfl)) dX10_satSo_94 ⟨Nat.le_of_ble_eq_true rfl, Nat.le_of_ble_eq_true rfl⟩) hw hA (fun v_19  H locs hp_v_19 hw => ?_)
          have r_v_19 : RI v_19 (-2147483648) 2147483647 := hp_v_19.1
          refine lv_goto (tgt := 101) hx hb dX10_satSo_97 (by decide) ?_
          exact B101 x6 v_19 ws _ _ ls r_p1 r_p2 r_p3 r_p4 r_p5 r_x6 r_v_19 hw hl
      · have r_x6 : RI x6 0 2147483646 := rc_lt1 r_x6 r_p3 (ti_nle c_10) (by decide)
        have r_p3 : RI p3 1 2147483647 := rc_lt2 r_x6 r_p3 (ti_nle c_10) (by decide)
        refine lv_iconst (v := 0) hx hb dX10_satSo_13 (by decide) ?_
        refine lv_istore (lv' := [(7, .int 0), (0, .ref p0), (1, .int p1), (2, .int p2), (3, .int p3), (4, .int p4), (5, .int p5), (6, .int x6)]) hx hb dX10_satSo_14 hl (by decide) rfl (fun ls hl => ?_)
        exact B16 4294967298 x6 0 ws _ _ ls (by have q0 := rl_0.1; have u0 := rl_0.2; omega) r_p1 r_p2 r_p3 r_p4 r_p5 r_x6 (rl_0.to (by decide)) (by have q0 := r_x6.1; have u0 := r_x6.2; omega) hw (lv_sub hl [1, 2, 3, 4, 5, 6, 7, 0] rfl)
  refine lv_aload_n hx hb dX10_satSo_0 rfl (lv_at hl 0 rfl) ?_
  refine tk_v (va_runV (As := []) (rest := []) ⟨hx, hb, hml, hown, hts⟩ (c_X10_hold l D cy z s.heap.size Ps w0 hw.1 p0 h_p0) (cwV 0 hts (gV tw_1607 tw_1609 ts_91 tw_15 tw_1610) rfl rfl rfl (by decide +kernel) ⟨Nat.le_of_ble_eq_true rfl, Nat.le_of_ble_eq_true rfl⟩) (tg_preV hw hK hSD hA (ci := 10) (q := (RX10, TX10, 49)) rfl h_p0 rfl) rfl rfl hl.1 rfl (lv_room (Nat.le_of_ble_eq_true rfl)) dX10_satSo_1 ⟨Nat.le_of_ble_eq_true rfl, Nat.le_of_ble_eq_true rfl⟩) hw hA ⟨by decide, by decide⟩ (fun ws H locs hp_v_20 hw hF9 => ?_)
  refine lv_iconst (v := 0) hx hb dX10_satSo_4 (by decide) ?_
  refine lv_istore (lv' := [(6, .int 0), (0, .ref p0), (1, .int p1), (2, .int p2), (3, .int p3), (4, .int p4), (5, .int p5)]) hx hb dX10_satSo_5 hl (by decide) rfl (fun ls hl => ?_)
  exact B7 4294967298 0 ws _ _ ls (by have q0 := rl_0.1; have u0 := rl_0.2; omega) r_p1 r_p2 r_p3 r_p4 r_p5 (rl_0.to (by decide)) hw (lv_sub hl [1, 2, 3, 4, 5, 6, 0] rfl)
abbrev wr_X10_isIn__11 : List (Nat × Nat) := []
abbrev wa_X10_isIn__11 : List Nat := []
set_option maxHeartbeats 4000000 in
set_option maxRecDepth 100000 in
theorem c_X10_isIn__11 (l : Launch) (D : va_G) (cy : Nat → ClassId) (z : Nat → Nat) (sz : Nat) (Ps : PSI) (w0 : va_W) (hT : HT cy GG Ps w0) (p0 : Int32) (p1 : Int32) (p2 : Int32) (r_p0 : RI p0 0 255) (r_p1 : RI p1 1 1) (r_p2 : RI p2 30 30) : Met l yX10_isIn (Cond.code yX10_isIn cX10_isIn 3 (some .boolean) :: gT) ({ frames := 0, cells := 0, slots := 0, locals := 200 } : Room) (va_Pc [.int p0, .int p1, .int p2] (PRE D cy z w0 sz)) (va_Qi (fun (r : Int32) (u : Unit) => RI r 0 1 ∧ (r = 0 → True) ∧ (¬ r = 0 → RI p0 1 30 ∧ True)) (BB D cy (va_A w0 sz) (fun (u : Unit) => w0)) (va_A w0 sz)) 0 0 (va_A w0 sz) := by
  refine Met.ofW (cc := cX10_isIn) (maxL := 3) (ret := (some .boolean)) (by decide) rfl ?_
  intro p e s m args below meth c s₁ B hml hv
  obtain ⟨rfl, hsz, hP, hK, hD0, hSD⟩ := hv
  have hx := B.exec
  have hb := B.bytes
  have hr := B.returns
  have hlocks := B.notSynchronized
  have hts : ∀ w ∈ gT, w.before _ s = true := fun w h => atoms_spec (ws := Cond.code yX10_isIn cX10_isIn 3 (some .boolean) :: gT) B.pre w (List.mem_cons_of_mem _ h)
  have hown : s.vm.findClass RX10 = some m.cls := findClass_of_methodNamed B.named
  subst hsz
  have hD := hD0.self (sz := s.heap.size)
  generalize hAe : va_A w0 s.heap.size = A at hD hSD ⊢
  have hA : ∀ q : Nat, s.heap.size ≤ q → A q := fun q h => by rw [← hAe]; exact Or.inr h
  have hl := lv_entry ([.int p0, .int p1, .int p2]) (n := 3) (Nat.le_of_ble_eq_true rfl)
  rw [lg_entry_eq]
  generalize (lg_sl ([.int p0, .int p1, .int p2]) ++ List.replicate (3 - (lg_sl ([.int p0, .int p1, .int p2])).length) Slot.unset).toArray = ls at hl ⊢
  have hl : lv_has ls 3 [(0, .int p0), (1, .int p1), (2, .int p2)] := hl
  refine nameQ (fun Q hQ => ?_)
  have hw : WD D cy GG A s wr_X10_isIn__11 wa_X10_isIn__11 Ps w0 Ps w0 s.heap [] := ⟨hT, hP, hD, va_S.rf, FR.rf, hT.1, [], (List.append_nil _).symm⟩
  refine lv_iload_n hx hb dX10_isIn_0 rfl (lv_at hl 0 rfl) ?_
  refine lv_iload_n hx hb dX10_isIn_1 rfl (lv_at hl 1 rfl) ?_
  refine lv_icmp_lt (tgt := 14) hx hb dX10_isIn_2 (by decide) (fun c_2 => ?_) (fun c_2 => ?_)
  · have r_p0 : RI p0 0 0 := rc_lt1 r_p0 r_p1 (ti_lt c_2) (by decide)
    refine lv_iconst (v := 0) hx hb dX10_isIn_14 (by decide) ?_
    subst hQ
    exact W.zret (v := 0) hx hb hr (rfl) (fun t ht hW => ⟨⟨0, (), rfl, ⟨rl_0.to (by decide), (fun h0 => trivial), (fun h0 => absurd rfl h0)⟩, by rw [ht]; exact hw.2.1, va_K.moved hW.alike hK, hw.2.2.1⟩, hw.2.2.2.1.F ht⟩) hw.2.2.2.1.2.2 dX10_isIn_15
  · have r_p0 : RI p0 1 255 := rc_le2 r_p1 r_p0 (ti_nlt c_2) (by decide)
    refine lv_iload_n hx hb dX10_isIn_5 rfl (lv_at hl 0 rfl) ?_
    refine lv_iload_n hx hb dX10_isIn_6 rfl (lv_at hl 2 rfl) ?_
    refine lv_icmp_gt (tgt := 14) hx hb dX10_isIn_7 (by decide) (fun c_7 => ?_) (fun c_7 => ?_)
    · have r_p0 : RI p0 31 255 := rc_lt2 r_p2 r_p0 (ti_lt c_7) (by decide)
      refine lv_iconst (v := 0) hx hb dX10_isIn_14 (by decide) ?_
      subst hQ
      exact W.zret (v := 0) hx hb hr (rfl) (fun t ht hW => ⟨⟨0, (), rfl, ⟨rl_0.to (by decide), (fun h0 => trivial), (fun h0 => absurd rfl h0)⟩, by rw [ht]; exact hw.2.1, va_K.moved hW.alike hK, hw.2.2.1⟩, hw.2.2.2.1.F ht⟩) hw.2.2.2.1.2.2 dX10_isIn_15
    · have r_p0 : RI p0 1 30 := rc_le1 r_p0 r_p2 (ti_nlt c_7) (by decide)
      refine lv_iconst (v := 1) hx hb dX10_isIn_10 (by decide) ?_
      refine lv_goto (tgt := 15) hx hb dX10_isIn_11 (by decide) ?_
      subst hQ
      exact W.zret (v := 1) hx hb hr (rfl) (fun t ht hW => ⟨⟨1, (), rfl, ⟨rl_1.to (by decide), (fun _ => trivial), (fun h0 => ⟨r_p0, trivial⟩)⟩, by rw [ht]; exact hw.2.1, va_K.moved hW.alike hK, hw.2.2.1⟩, hw.2.2.2.1.F ht⟩) hw.2.2.2.1.2.2 dX10_isIn_15
abbrev wr_X10_sat : List (Nat × Nat) := [(10, 0), (10, 2), (10, 29), (10, 30)]
abbrev wa_X10_sat : List Nat := [34, 39, 47]
set_option maxHeartbeats 4000000 in
set_option maxRecDepth 100000 in
theorem c_X10_sat (l : Launch) (D : va_G) (cy : Nat → ClassId) (z : Nat → Nat) (sz : Nat) (Ps : PSI) (w0 : va_W) (hT : HT cy GG Ps w0) (p0 : Nat) (h_p0 : (p0, 55) ∈ Ps) : Met l yX10_sat (Cond.code yX10_sat cX10_sat 6 (some .int) :: gT) ({ frames := 4, cells := 0, slots := 0, locals := 800 } : Room) (va_Pc [.ref p0] (PRE D cy z w0 sz)) (va_Qi (fun (r : Int32) (u : va_W) => (RI r (-2147483648) 2147483647 ∧ (r = 0 → True) ∧ (¬ r = 0 → True)) ∧ HT cy GG Ps u ∧ FR wr_X10_sat wa_X10_sat Ps w0 u) (BB D cy (va_A w0 sz) (fun (u : va_W) => u)) (va_A w0 sz)) 0 0 (va_A w0 sz) := by
  refine Met.ofW (cc := cX10_sat) (maxL := 6) (ret := (some .int)) (by decide) rfl ?_
  intro p e s m args below meth c s₁ B hml hv
  obtain ⟨rfl, hsz, hP, hK, hD0, hSD⟩ := hv
  have hx := B.exec
  have hb := B.bytes
  have hr := B.returns
  have hlocks := B.notSynchronized
  have hts : ∀ w ∈ gT, w.before _ s = true := fun w h => atoms_spec (ws := Cond.code yX10_sat cX10_sat 6 (some .int) :: gT) B.pre w (List.mem_cons_of_mem _ h)
  have hown : s.vm.findClass RX10 = some m.cls := findClass_of_methodNamed B.named
  subst hsz
  have hD := hD0.self (sz := s.heap.size)
  generalize hAe : va_A w0 s.heap.size = A at hD hSD ⊢
  have hA : ∀ q : Nat, s.heap.size ≤ q → A q := fun q h => by rw [← hAe]; exact Or.inr h
  have hl := lv_entry ([.ref p0]) (n := 6) (Nat.le_of_ble_eq_true rfl)
  rw [lg_entry_eq]
  generalize (lg_sl ([.ref p0]) ++ List.replicate (6 - (lg_sl ([.ref p0])).length) Slot.unset).toArray = ls at hl ⊢
  have hl : lv_has ls 6 [(0, .ref p0)] := hl
  refine nameQ (fun Q hQ => ?_)
  have hw : WD D cy GG A s wr_X10_sat wa_X10_sat Ps w0 Ps w0 s.heap [] := ⟨hT, hP, hD, va_S.rf, FR.rf, hT.1, [], (List.append_nil _).symm⟩
  have B258 : ∀ (nf : Nat) (x1 : Int32) (x2 : Int32) (x3 : Int32) (x4 : Int32) (z0_0 : Int32) (z0_2 : Int32) (z0_29 : Int32) (ws : va_W) (H : Heap) (locs : List Loc) (ls : Array Slot), 8 - x4.toInt < (nf : Int) → RI x1 (-1) 5 → RI x2 (-2147483648) 2147483647 → RI x3 0 255 → RI x4 0 8 → RI z0_0 0 0 → FLD ws p0 10 0 (.int z0_0) → RI z0_2 0 0 → FLD ws p0 10 2 (.int z0_2) → RI z0_29 0 255 → FLD ws p0 10 29 (.int z0_29) → AX 1 40 (fun f => (f 0).toInt ≤ 5) Ps ws p0 → WD D cy GG A s wr_X10_sat wa_X10_sat Ps w0 Ps ws H locs → lv_has ls 6 [(0, .ref p0), (1, .int x1), (2, .int x2), (3, .int x3), (4, .int x4)] → W p l e (headSpec (Cond.code yX10_sat cX10_sat 6 (some .int) :: gT) ({ frames := 4, cells := 0, slots := 0, locals := 800 } : Room)).room s m ([.ref p0] : List Value).toArray below meth c H locs 0 0 Q (F0 m 258 ls []) := by
    intro nf258
    induction nf258 with
    | zero =>
      intro x1 x2 x3 x4 z0_0 z0_2 z0_29 ws H locs ls hn258 r_x1 r_x2 r_x3 r_x4 r_z0_0 m_z0_0 r_z0_2 m_z0_2 r_z0_29 m_z0_29 x_T0_p0 hw hl
      exact absurd hn258 (by have q0 := r_x4.1; have u0 := r_x4.2; omega)
    | succ nf258 ih258 =>
      have B310 : ∀ (x1 : Int32) (x2 : Int32) (x3 : Int32) (x4 : Int32) (z0_0 : Int32) (z0_2 : Int32) (z0_29 : Int32) (ws : va_W) (H : Heap) (locs : List Loc) (ls : Array Slot), RI x1 (-1) 5 → RI x2 (-2147483648) 2147483647 → RI x3 0 255 → RI x4 0 7 → RI z0_0 0 0 → FLD ws p0 10 0 (.int z0_0) → RI z0_2 0 0 → FLD ws p0 10 2 (.int z0_2) → RI z0_29 0 255 → FLD ws p0 10 29 (.int z0_29) → AX 1 40 (fun f => (f 0).toInt ≤ 5) Ps ws p0 → 8 - x4.toInt < ((nf258 + 1 : Nat) : Int) → WD D cy GG A s wr_X10_sat wa_X10_sat Ps w0 Ps ws H locs → lv_has ls 6 [(0, .ref p0), (1, .int x1), (2, .int x2), (3, .int x3), (4, .int x4)] → W p l e (headSpec (Cond.code yX10_sat cX10_sat 6 (some .int) :: gT) ({ frames := 4, cells := 0, slots := 0, locals := 800 } : Room)).room s m ([.ref p0] : List Value).toArray below meth c H locs 0 0 Q (F0 m 310 ls []) := by
        intro x1 x2 x3 x4 z0_0 z0_2 z0_29 ws H locs ls r_x1 r_x2 r_x3 r_x4 r_z0_0 m_z0_0 r_z0_2 m_z0_2 r_z0_29 m_z0_29 x_T0_p0 hn258 hw hl
        refine lv_aload_n hx hb dX10_sat_310 rfl (lv_at hl 0 rfl) ?_
        refine lv_iload hx hb dX10_sat_311 (lv_at hl 4 rfl) ?_
        refine tg_put (ci := 10) (ts := ty_MODEL) (v := .int x4) (ty := .int) (C := RX10) (T := TX10) (N := 49) hx hb hts inX10 tyX10 tyX10_ok nmX10 hown hK hw h_p0 rfl rfl 30 (by decide) (hts _ tw_1167) (fun _ h9 => h9) rfl (by decide +kernel) rfl rfl (ft := vI (-1) 7) rfl ⟨_, rfl, (r_x4.to (by decide))⟩ (by decide) dX10_sat_313 (fun ws H locs hw n_k_1 hF9 => ?_)
        have m_z0_0 := FLD.over hF9 m_z0_0 (by decide)
        have m_z0_2 := FLD.over hF9 m_z0_2 (by decide)
        have m_z0_29 := FLD.over hF9 m_z0_29 (by decide)
        have x_T0_p0 := AX.over hF9 x_T0_p0 (by decide)
        obtain ⟨v_2, e_v_2⟩ : ∃ q9 : Int32, q9 = x4 + Int32.ofInt 1 := ⟨_, rfl⟩
        obtain ⟨t_v_2, r_v_2⟩ := tq_add (lo := 1) (hi := 8) r_x4 (show RI (Int32.ofInt 1) 1 1 by unfold RI; decide +kernel) (by decide +kernel) e_v_2
        have t_v_2 : v_2.toInt = x4.toInt + 1 := t_v_2
        refine lv_iinc (v := v_2) (lv' := [(4, .int v_2), (0, .ref p0), (1, .int x1), (2, .int x2), (3, .int x3)]) hx hb dX10_sat_316 hl (k := 4) rfl e_v_2.symm (by decide) rfl (fun ls hl => ?_)
        refine lv_goto (tgt := 258) hx hb dX10_sat_319 (by decide) ?_
        exact ih258 x1 x2 x3 v_2 z0_0 z0_2 z0_29 ws _ _ ls (by have q0 := r_v_2.1; have u0 := r_v_2.2; have o0 := r_x4.1; have p0 := r_x4.2; omega) r_x1 r_x2 r_x3 (r_v_2.to (by decide)) r_z0_0 m_z0_0 r_z0_2 m_z0_2 r_z0_29 m_z0_29 x_T0_p0 hw (lv_sub hl [1, 2, 3, 4, 0] rfl)
      intro x1 x2 x3 x4 z0_0 z0_2 z0_29 ws H locs ls hn258 r_x1 r_x2 r_x3 r_x4 r_z0_0 m_z0_0 r_z0_2 m_z0_2 r_z0_29 m_z0_29 x_T0_p0 hw hl
      refine lv_iload hx hb dX10_sat_258 (lv_at hl 4 rfl) ?_
      refine lv_aload_n hx hb dX10_sat_260 rfl (lv_at hl 0 rfl) ?_
      refine tg_get (ci := 10) (ts := ty_MODEL) (C := RX10) (T := TX10) (N := 49) hx hb hts inX10 hown hK hw h_p0 rfl rfl 14 (by decide) (hts _ tw_1151) (fun _ h9 => h9) (ft := vR 34) rfl dX10_sat_261 (fun u_3 hv_u_3 m_u_3 => ?_)
      obtain ⟨vu_3, rfl, h_vu_3⟩ := hv_u_3
      refine lv_iconst (v := 3) hx hb dX10_sat_264 (by decide) ?_
      refine tg_iald (lo := 0) (hi := 8) hx hb hK hw h_vu_3 rfl 3 3 rl_3 (by decide) (by decide +kernel) dX10_sat_265 (fun v_4 r_v_4 m_v_4 o_v_4 => ?_)
      refine lv_icmp_ge (tgt := 322) hx hb dX10_sat_266 (by decide) (fun c_266 => ?_) (fun c_266 => ?_)
      · refine lv_iload_n hx hb dX10_sat_322 rfl (lv_at hl 2 rfl) ?_
        subst hQ
        exact W.iret (v := x2) hx hb hr (fun t ht hW => ⟨⟨x2, ws, rfl, ⟨⟨r_x2.to (by decide), (fun h0 => trivial), (fun h0 => trivial)⟩, hw.1, hw.2.2.2.2.1⟩, by rw [ht]; exact hw.2.1, va_K.moved hW.alike hK, hw.2.2.1⟩, hw.2.2.2.1.F ht⟩) hw.2.2.2.1.2.2 dX10_sat_323
      · have r_x4 : RI x4 0 7 := rc_lt1 r_x4 r_v_4 (ti_nle c_266) (by decide)
        have r_v_4 : RI v_4 1 8 := rc_lt2 r_x4 r_v_4 (ti_nle c_266) (by decide)
        refine lv_aload_n hx hb dX10_sat_269 rfl (lv_at hl 0 rfl) ?_
        refine tg_get (ci := 10) (ts := ty_MODEL) (C := RX10) (T := TX10) (N := 49) hx hb hts inX10 hown hK hw h_p0 rfl rfl 30 (by decide) (hts _ tw_1167) (fun _ h9 => h9) (ft := vI (-1) 7) rfl dX10_sat_270 (fun u_5 hv_u_5 m_u_5 => ?_)
        obtain ⟨vu_5, rfl, r_vu_5⟩ := hv_u_5
        refine lv_iconst (v := (-1)) hx hb dX10_sat_273 (by decide) ?_
        refine lv_icmp_eq (tgt := 310) hx hb dX10_sat_274 (by decide) (fun c_274 => ?_) (fun c_274 => ?_)
        · have r_vu_5 : RI vu_5 (-1) (-1) := rc_eq1 r_vu_5 rl_m1 (ti_eq c_274) (by decide)
          exact B310 x1 x2 x3 x4 z0_0 z0_2 z0_29 ws _ _ ls r_x1 r_x2 r_x3 r_x4 r_z0_0 m_z0_0 r_z0_2 m_z0_2 r_z0_29 m_z0_29 x_T0_p0 (by have q0 := r_x4.1; have u0 := r_x4.2; omega) hw hl
        · have r_vu_5 : RI vu_5 0 7 := rc_neL r_vu_5 rl_m1 (ti_ne c_274) (by decide)
          refine lv_iconst (v := 2) hx hb dX10_sat_277 (by decide) ?_
          refine lv_aload_n hx hb dX10_sat_278 rfl (lv_at hl 0 rfl) ?_
          refine tg_get (ci := 10) (ts := ty_MODEL) (C := RX10) (T := TX10) (N := 49) hx hb hts inX10 hown hK hw h_p0 rfl rfl 28 (by decide) (hts _ tw_1165) (fun _ h9 => h9) (ft := vR 47) rfl dX10_sat_279 (fun u_6 hv_u_6 m_u_6 => ?_)
          obtain ⟨vu_6, rfl, h_vu_6⟩ := hv_u_6
          refine lv_iload hx hb dX10_sat_282 (lv_at hl 4 rfl) ?_
          refine tg_iald (lo := (-2147483648)) (hi := 2147483647) hx hb hK hw h_vu_6 rfl 0 7 r_x4 (by decide) (by exact fun _ _ _ => ⟨Int.le_refl _, Int.le_refl _⟩) dX10_sat_284 (fun v_7 r_v_7 m_v_7 o_v_7 => ?_)
          refine lv_imul hx hb dX10_sat_285 (lv_topi (fun v_8 e_v_8 => ?_))
          have r_v_8 := ri_any v_8
          refine lv_iload_n hx hb dX10_sat_286 rfl (lv_at hl 2 rfl) ?_
          refine lv_isub hx hb dX10_sat_287 (lv_topi (fun v_9 e_v_9 => ?_))
          have r_v_9 := ri_any v_9
          refine tk_ir (va_runS (As := [.int v_9]) (rest := []) ⟨hx, hb, hml, hown, hts⟩ (c_X10_size l D cy z H.size Ps ws hw.1 v_9 r_v_9) (va_cwS 1 hts (gS tw_1615 tw_1616 tw_15 tw_1617) rfl rfl rfl (by decide +kernel) ⟨Nat.le_of_ble_eq_true rfl, Nat.le_of_ble_eq_true rfl⟩) (tg_preS hw hK hSD hA) rfl rfl hl.1 rfl (lv_room (Nat.le_of_ble_eq_true rfl)) dX10_sat_288 ⟨Nat.le_of_ble_eq_true rfl, Nat.le_of_ble_eq_true rfl⟩) hw hA (fun v_10  H locs hp_v_10 hw => ?_)
          have r_v_10 : RI v_10 (-2147483648) 2147483647 := hp_v_10.1
          refine lv_iconst (v := 2) hx hb dX10_sat_291 (by decide) ?_
          refine lv_aload_n hx hb dX10_sat_292 rfl (lv_at hl 0 rfl) ?_
          refine tg_mem (ci := 10) (C := RX10) (T := TX10) (N := 49) hx hb hts inX10 hown hK hw 28 m_u_6 rfl (by decide) (hts _ tw_1165) (fun _ h9 => h9) dX10_sat_293 ?_
          refine lv_aload_n hx hb dX10_sat_296 rfl (lv_at hl 0 rfl) ?_
          refine tg_mem (ci := 10) (C := RX10) (T := TX10) (N := 49) hx hb hts inX10 hown hK hw 30 m_u_5 rfl (by decide) (hts _ tw_1167) (fun _ h9 => h9) dX10_sat_297 ?_
          refine tg_iald (lo := (-2147483648)) (hi := 2147483647) hx hb hK hw h_vu_6 rfl 0 7 r_vu_5 (by decide) (by exact fun _ _ _ => ⟨Int.le_refl _, Int.le_refl _⟩) dX10_sat_300 (fun v_11 r_v_11 m_v_11 o_v_11 => ?_)
          refine lv_imul hx hb dX10_sat_301 (lv_topi (fun v_12 e_v_12 => ?_))
          have r_v_12 := ri_any v_12
          refine lv_iload_n hx hb dX10_sat_302 rfl (lv_at hl 2 rfl) ?_
          refine lv_isub hx hb dX10_sat_303 (lv_topi (fun v_13 e_v_13 => ?_))
          have r_v_13 := ri_any v_13
          refine tk_ir (va_runS (As := [.int v_13]) (rest := [.int v_10]) ⟨hx, hb, hml, hown, hts⟩ (c_X10_size l D cy z H.size Ps ws hw.1 v_13 r_v_13) (va_cwS 1 hts (gS tw_1615 tw_1616 tw_15 tw_1617) rfl rfl rfl (by decide +kernel) ⟨Nat.le_of_ble_eq_true rfl, Nat.le_of_ble_eq_true rfl⟩) (tg_preS hw hK hSD hA) rfl rfl hl.1 rfl (lv_room (Nat.le_of_ble_eq_true rfl)) dX10_sat_304 ⟨Nat.le_of_ble_eq_true rfl, Nat.le_of_ble_eq_true rfl⟩) hw hA (fun v_14  H locs hp_v_14 hw => ?_)
          have r_v_14 : RI v_14 (-2147483648) 2147483647 := hp_v_14.1
          refine lv_icmp_ge (tgt := 316) hx hb dX10_sat_307 (by decide) (fun c_307 => ?_) (fun c_307 => ?_)
          · obtain ⟨v_15, e_v_15⟩ : ∃ q9 : Int32, q9 = x4 + Int32.ofInt 1 := ⟨_, rfl⟩
            obtain ⟨t_v_15, r_v_15⟩ := tq_add (lo := 1) (hi := 8) r_x4 (show RI (Int32.ofInt 1) 1 1 by unfold RI; decide +kernel) (by decide +kernel) e_v_15
            have t_v_15 : v_15.toInt = x4.toInt + 1 := t_v_15
            refine lv_iinc (v := v_15) (lv' := [(4, .int v_15), (0, .ref p0), (1, .int x1), (2, .int x2), (3, .int x3)]) hx hb dX10_sat_316 hl (k := 4) rfl e_v_15.symm (by decide) rfl (fun ls hl => ?_)
            refine lv_goto (tgt := 258) hx hb dX10_sat_319 (by decide) ?_
            exact ih258 x1 x2 x3 v_15 z0_0 z0_2 z0_29 ws _ _ ls (by have q0 := r_v_15.1; have u0 := r_v_15.2; have o0 := r_x4.1; have p0 := r_x4.2; omega) r_x1 r_x2 r_x3 (r_v_15.to (by decide)) r_z0_0 m_z0_0 r_z0_2 m_z0_2 r_z0_29 m_z0_29 x_T0_p0 hw (lv_sub hl [1, 2, 3, 4, 0] rfl)
          · have r_v_10 : RI v_10 (-2147483648) 2147483646 := rc_lt1 r_v_10 r_v_14 (ti_nle c_307) (by decide)
            have r_v_14 : RI v_14 (-2147483647) 2147483647 := rc_lt2 r_v_10 r_v_14 (ti_nle c_307) (by decide)
            exact B310 x1 x2 x3 x4 z0_0 z0_2 z0_29 ws _ _ ls r_x1 r_x2 r_x3 r_x4 r_z0_0 m_z0_0 r_z0_2 m_z0_2 r_z0_29 m_z0_29 x_T0_p0 (by have q0 := r_x4.1; have u0 := r_x4.2; omega) hw hl
  have B144 : ∀ (nf : Nat) (x1 : Int32) (x2 : Int32) (x3 : Int32) (x4 : Int32) (z0_0 : Int32) (z0_2 : Int32) (ws : va_W) (H : Heap) (locs : List Loc) (ls : Array Slot), 256 - x4.toInt < (nf : Int) → RI x1 (-1) 5 → RI x2 (-2147483648) 2147483647 → RI x3 0 255 → RI x4 0 256 → RI z0_0 0 0 → FLD ws p0 10 0 (.int z0_0) → RI z0_2 0 0 → FLD ws p0 10 2 (.int z0_2) → AX 1 40 (fun f => (f 0).toInt ≤ 5) Ps ws p0 → WD D cy GG A s wr_X10_sat wa_X10_sat Ps w0 Ps ws H locs → lv_has ls 6 [(0, .ref p0), (1, .int x1), (2, .int x2), (3, .int x3), (4, .int x4)] → W p l e (headSpec (Cond.code yX10_sat cX10_sat 6 (some .int) :: gT) ({ frames := 4, cells := 0, slots := 0, locals := 800 } : Room)).room s m ([.ref p0] : List Value).toArray below meth c H locs 0 0 Q (F0 m 144 ls []) := by
    intro nf144
    induction nf144 with
    | zero =>
      intro x1 x2 x3 x4 z0_0 z0_2 ws H locs ls hn144 r_x1 r_x2 r_x3 r_x4 r_z0_0 m_z0_0 r_z0_2 m_z0_2 x_T0_p0 hw hl
      exact absurd hn144 (by have q0 := r_x4.1; have u0 := r_x4.2; omega)
    | succ nf144 ih144 =>
      have B199 : ∀ (nf : Nat) (x1 : Int32) (x2 : Int32) (x3 : Int32) (x4 : Int32) (x5 : Int32) (z0_0 : Int32) (z0_2 : Int32) (ws : va_W) (H : Heap) (locs : List Loc) (ls : Array Slot), 8 - x5.toInt < (nf : Int) → RI x1 (-1) 5 → RI x2 (-2147483648) 2147483647 → RI x3 0 255 → RI x4 0 255 → RI x5 0 8 → RI z0_0 0 0 → FLD ws p0 10 0 (.int z0_0) → RI z0_2 0 0 → FLD ws p0 10 2 (.int z0_2) → AX 1 40 (fun f => (f 0).toInt ≤ 5) Ps ws p0 → 256 - x4.toInt < ((nf144 + 1 : Nat) : Int) → WD D cy GG A s wr_X10_sat wa_X10_sat Ps w0 Ps ws H locs → lv_has ls 6 [(0, .ref p0), (1, .int x1), (2, .int x2), (3, .int x3), (4, .int x4), (5, .int x5)] → W p l e (headSpec (Cond.code yX10_sat cX10_sat 6 (some .int) :: gT) ({ frames := 4, cells := 0, slots := 0, locals := 800 } : Room)).room s m ([.ref p0] : List Value).toArray below meth c H locs 0 0 Q (F0 m 199 ls []) := by
        intro nf199
        induction nf199 with
        | zero =>
          intro x1 x2 x3 x4 x5 z0_0 z0_2 ws H locs ls hn199 r_x1 r_x2 r_x3 r_x4 r_x5 r_z0_0 m_z0_0 r_z0_2 m_z0_2 x_T0_p0 hn144 hw hl
          exact absurd hn199 (by have q0 := r_x5.1; have u0 := r_x5.2; omega)
        | succ nf199 ih199 =>
          intro x1 x2 x3 x4 x5 z0_0 z0_2 ws H locs ls hn199 r_x1 r_x2 r_x3 r_x4 r_x5 r_z0_0 m_z0_0 r_z0_2 m_z0_2 x_T0_p0 hn144 hw hl
          refine lv_iload hx hb dX10_sat_199 (lv_at hl 5 rfl) ?_
          refine lv_bipush (v := 8) hx hb dX10_sat_201 (by decide) ?_
          refine lv_icmp_ge (tgt := 233) hx hb dX10_sat_203 (by decide) (fun c_203 => ?_) (fun c_203 => ?_)
          · have r_x5 : RI x5 8 8 := rc_le2 rl_8 r_x5 (ti_le c_203) (by decide)
            obtain ⟨v_16, e_v_16⟩ : ∃ q9 : Int32, q9 = x4 + Int32.ofInt 1 := ⟨_, rfl⟩
            obtain ⟨t_v_16, r_v_16⟩ := tq_add (lo := 1) (hi := 256) r_x4 (show RI (Int32.ofInt 1) 1 1 by unfold RI; decide +kernel) (by decide +kernel) e_v_16
            have t_v_16 : v_16.toInt = x4.toInt + 1 := t_v_16
            refine lv_iinc (v := v_16) (lv' := [(4, .int v_16), (0, .ref p0), (1, .int x1), (2, .int x2), (3, .int x3), (5, .int x5)]) hx hb dX10_sat_233 hl (k := 4) rfl e_v_16.symm (by decide) rfl (fun ls hl => ?_)
            refine lv_goto (tgt := 144) hx hb dX10_sat_236 (by decide) ?_
            exact ih144 x1 x2 x3 v_16 z0_0 z0_2 ws _ _ ls (by have q0 := r_v_16.1; have u0 := r_v_16.2; have o0 := r_x4.1; have p0 := r_x4.2; omega) r_x1 r_x2 r_x3 (r_v_16.to (by decide)) r_z0_0 m_z0_0 r_z0_2 m_z0_2 x_T0_p0 hw (lv_sub hl [1, 2, 3, 4, 0] rfl)
          · have r_x5 : RI x5 0 7 := rc_lt1 r_x5 rl_8 (ti_nle c_203) (by decide)
            refine lv_iload hx hb dX10_sat_206 (lv_at hl 4 rfl) ?_
            refine lv_iload hx hb dX10_sat_208 (lv_at hl 5 rfl) ?_
            refine tk_ir (va_runS (As := [.int x4, .int x5]) (rest := []) ⟨hx, hb, hml, hown, hts⟩ (c_X10_has__3 l D cy z H.size Ps ws hw.1 x4 x5 r_x4 r_x5) (va_cwS 2 hts (gS tw_1402 tw_1403 tw_15 tw_1404) rfl rfl rfl (by decide +kernel) ⟨Nat.le_of_ble_eq_true rfl, Nat.le_of_ble_eq_true rfl⟩) (tg_preS hw hK hSD hA) rfl rfl hl.1 rfl (lv_room (Nat.le_of_ble_eq_true rfl)) dX10_sat_210 ⟨Nat.le_of_ble_eq_true rfl, Nat.le_of_ble_eq_true rfl⟩) hw hA (fun v_17  H locs hp_v_17 hw => ?_)
            have r_v_17 : RI v_17 0 1 := hp_v_17.1
            refine lv_if_eq (tgt := 227) hx hb dX10_sat_213 (by decide) (fun c_213 => ?_) (fun c_213 => ?_)
            · have r_v_17 : RI v_17 0 0 := rc_eq1 r_v_17 rl_0 (ti_eq c_213) (by decide)
              obtain ⟨v_18, e_v_18⟩ : ∃ q9 : Int32, q9 = x5 + Int32.ofInt 1 := ⟨_, rfl⟩
              obtain ⟨t_v_18, r_v_18⟩ := tq_add (lo := 1) (hi := 8) r_x5 (show RI (Int32.ofInt 1) 1 1 by unfold RI; decide +kernel) (by decide +kernel) e_v_18
              have t_v_18 : v_18.toInt = x5.toInt + 1 := t_v_18
              refine lv_iinc (v := v_18) (lv' := [(5, .int v_18), (0, .ref p0), (1, .int x1), (2, .int x2), (3, .int x3), (4, .int x4)]) hx hb dX10_sat_227 hl (k := 5) rfl e_v_18.symm (by decide) rfl (fun ls hl => ?_)
              refine lv_goto (tgt := 199) hx hb dX10_sat_230 (by decide) ?_
              exact ih199 x1 x2 x3 x4 v_18 z0_0 z0_2 ws _ _ ls (by have q0 := r_v_18.1; have u0 := r_v_18.2; have o0 := r_x5.1; have p0 := r_x5.2; omega) r_x1 r_x2 r_x3 r_x4 (r_v_18.to (by decide)) r_z0_0 m_z0_0 r_z0_2 m_z0_2 x_T0_p0 (by have q0 := r_x4.1; have u0 := r_x4.2; omega) hw (lv_sub hl [1, 2, 3, 4, 5, 0] rfl)
            · have r_v_17 : RI v_17 1 1 := rc_neL r_v_17 rl_0 (ti_ne c_213) (by decide)
              refine lv_aload_n hx hb dX10_sat_216 rfl (lv_at hl 0 rfl) ?_
              refine tg_get (ci := 10) (ts := ty_MODEL) (C := RX10) (T := TX10) (N := 49) hx hb hts inX10 hown hK hw h_p0 rfl rfl 28 (by decide) (hts _ tw_1165) (fun _ h9 => h9) (ft := vR 47) rfl dX10_sat_217 (fun u_19 hv_u_19 m_u_19 => ?_)
              obtain ⟨vu_19, rfl, h_vu_19⟩ := hv_u_19
              refine lv_iload hx hb dX10_sat_220 (lv_at hl 5 rfl) ?_
              refine lv_dup2_11 hx hb dX10_sat_222 rfl rfl ?_
              refine tg_iald (lo := (-2147483648)) (hi := 2147483647) hx hb hK hw h_vu_19 rfl 0 7 r_x5 (by decide) (by exact fun _ _ _ => ⟨Int.le_refl _, Int.le_refl _⟩) dX10_sat_223 (fun v_20 r_v_20 m_v_20 o_v_20 => ?_)
              refine lv_iconst (v := 1) hx hb dX10_sat_224 (by decide) ?_
              refine lv_iadd hx hb dX10_sat_225 (lv_topi (fun v_21 e_v_21 => ?_))
              have r_v_21 := ri_any v_21
              refine tg_iast hx hb hK hw h_vu_19 rfl 0 7 r_x5 (by decide) r_v_21 (by exact fun _ _ _ => by decide) (fun _ _ _ _ _ => trivial) (by decide) dX10_sat_226 (fun ws H locs hw hF9 hU9 => ?_)
              have x_T0_p0 := AX.over hF9 x_T0_p0 (by decide)
              have m_z0_0 := FLD.over hF9 m_z0_0 (by decide)
              have m_z0_2 := FLD.over hF9 m_z0_2 (by decide)
              obtain ⟨v_22, e_v_22⟩ : ∃ q9 : Int32, q9 = x5 + Int32.ofInt 1 := ⟨_, rfl⟩
              obtain ⟨t_v_22, r_v_22⟩ := tq_add (lo := 1) (hi := 8) r_x5 (show RI (Int32.ofInt 1) 1 1 by unfold RI; decide +kernel) (by decide +kernel) e_v_22
              have t_v_22 : v_22.toInt = x5.toInt + 1 := t_v_22
              refine lv_iinc (v := v_22) (lv' := [(5, .int v_22), (0, .ref p0), (1, .int x1), (2, .int x2), (3, .int x3), (4, .int x4)]) hx hb dX10_sat_227 hl (k := 5) rfl e_v_22.symm (by decide) rfl (fun ls hl => ?_)
              refine lv_goto (tgt := 199) hx hb dX10_sat_230 (by decide) ?_
              exact ih199 x1 x2 x3 x4 v_22 z0_0 z0_2 ws _ _ ls (by have q0 := r_v_22.1; have u0 := r_v_22.2; have o0 := r_x5.1; have p0 := r_x5.2; omega) r_x1 r_x2 r_x3 r_x4 (r_v_22.to (by decide)) r_z0_0 m_z0_0 r_z0_2 m_z0_2 x_T0_p0 (by have q0 := r_x4.1; have u0 := r_x4.2; omega) hw (lv_sub hl [1, 2, 3, 4, 5, 0] rfl)
      intro x1 x2 x3 x4 z0_0 z0_2 ws H locs ls hn144 r_x1 r_x2 r_x3 r_x4 r_z0_0 m_z0_0 r_z0_2 m_z0_2 x_T0_p0 hw hl
      refine lv_iload hx hb dX10_sat_144 (lv_at hl 4 rfl) ?_
      refine lv_iconst (v := 1) hx hb dX10_sat_146 (by decide) ?_
      refine lv_aload_n hx hb dX10_sat_147 rfl (lv_at hl 0 rfl) ?_
      refine tg_get (ci := 10) (ts := ty_MODEL) (C := RX10) (T := TX10) (N := 49) hx hb hts inX10 hown hK hw h_p0 rfl rfl 14 (by decide) (hts _ tw_1151) (fun _ h9 => h9) (ft := vR 34) rfl dX10_sat_148 (fun u_23 hv_u_23 m_u_23 => ?_)
      obtain ⟨vu_23, rfl, h_vu_23⟩ := hv_u_23
      refine lv_iconst (v := 3) hx hb dX10_sat_151 (by decide) ?_
      refine tg_iald (lo := 0) (hi := 8) hx hb hK hw h_vu_23 rfl 3 3 rl_3 (by decide) (by decide +kernel) dX10_sat_152 (fun v_24 r_v_24 m_v_24 o_v_24 => ?_)
      refine lv_ishl hx hb dX10_sat_153 (lv_topi (fun v_25 e_v_25 => ?_))
      have r_v_25 : RI v_25 1 256 := by rw [e_v_25]; exact ri_shl1 (r_v_24.to (c := 0) (d := 8) (by decide)) (by decide)
      refine lv_icmp_ge (tgt := 239) hx hb dX10_sat_154 (by decide) (fun c_154 => ?_) (fun c_154 => ?_)
      · have r_x4 : RI x4 1 256 := rc_le2 r_v_25 r_x4 (ti_le c_154) (by decide)
        refine lv_iload_n hx hb dX10_sat_239 rfl (lv_at hl 2 rfl) ?_
        refine lv_if_ne (tgt := 245) hx hb dX10_sat_240 (by decide) (fun c_240 => ?_) (fun c_240 => ?_)
        · refine lv_aload_n hx hb dX10_sat_245 rfl (lv_at hl 0 rfl) ?_
          refine lv_iload_n hx hb dX10_sat_246 rfl (lv_at hl 3 rfl) ?_
          refine tg_put (ci := 10) (ts := ty_MODEL) (v := .int x3) (ty := .int) (C := RX10) (T := TX10) (N := 49) hx hb hts inX10 tyX10 tyX10_ok nmX10 hown hK hw h_p0 rfl rfl 29 (by decide) (hts _ tw_1166) (fun _ h9 => h9) rfl (by decide +kernel) rfl rfl (ft := vI (-2147483648) 2147483647) rfl ⟨_, rfl, (r_x3.to (by decide))⟩ (by decide) dX10_sat_247 (fun ws H locs hw n_k_26 hF9 => ?_)
          have m_z0_0 := FLD.over hF9 m_z0_0 (by decide)
          have m_z0_2 := FLD.over hF9 m_z0_2 (by decide)
          have x_T0_p0 := AX.over hF9 x_T0_p0 (by decide)
          refine lv_aload_n hx hb dX10_sat_250 rfl (lv_at hl 0 rfl) ?_
          refine lv_iconst (v := (-1)) hx hb dX10_sat_251 (by decide) ?_
          refine tg_put (ci := 10) (ts := ty_MODEL) (v := .int (-1)) (ty := .int) (C := RX10) (T := TX10) (N := 49) hx hb hts inX10 tyX10 tyX10_ok nmX10 hown hK hw h_p0 rfl rfl 30 (by decide) (hts _ tw_1167) (fun _ h9 => h9) rfl (by decide +kernel) rfl rfl (ft := vI (-1) 7) rfl ⟨_, rfl, (rl_m1.to (by decide))⟩ (by decide) dX10_sat_252 (fun ws H locs hw n_k_27 hF9 => ?_)
          have m_z0_0 := FLD.over hF9 m_z0_0 (by decide)
          have m_z0_2 := FLD.over hF9 m_z0_2 (by decide)
          have n_k_26 := FLD.over hF9 n_k_26 (by decide)
          have x_T0_p0 := AX.over hF9 x_T0_p0 (by decide)
          refine lv_iconst (v := 0) hx hb dX10_sat_255 (by decide) ?_
          refine lv_istore (lv' := [(4, .int 0), (0, .ref p0), (1, .int x1), (2, .int x2), (3, .int x3)]) hx hb dX10_sat_256 hl (by decide) rfl (fun ls hl => ?_)
          exact B258 4294967298 x1 x2 x3 0 z0_0 z0_2 x3 ws _ _ ls (by have q0 := rl_0.1; have u0 := rl_0.2; omega) r_x1 r_x2 r_x3 (rl_0.to (by decide)) r_z0_0 m_z0_0 r_z0_2 m_z0_2 r_x3 n_k_26 x_T0_p0 hw (lv_sub hl [1, 2, 3, 4, 0] rfl)
        · have r_x2 : RI x2 0 0 := rc_eq1 r_x2 rl_0 (ti_eq c_240) (by decide)
          refine lv_iconst (v := 0) hx hb dX10_sat_243 (by decide) ?_
          subst hQ
          exact W.iret (v := 0) hx hb hr (fun t ht hW => ⟨⟨0, ws, rfl, ⟨⟨rl_0.to (by decide), (fun h0 => trivial), (fun _ => trivial)⟩, hw.1, hw.2.2.2.2.1⟩, by rw [ht]; exact hw.2.1, va_K.moved hW.alike hK, hw.2.2.1⟩, hw.2.2.2.1.F ht⟩) hw.2.2.2.1.2.2 dX10_sat_244
      · have r_x4 : RI x4 0 255 := rc_lt1 r_x4 r_v_25 (ti_nle c_154) (by decide)
        refine lv_aload_n hx hb dX10_sat_157 rfl (lv_at hl 0 rfl) ?_
        refine lv_iload hx hb dX10_sat_158 (lv_at hl 4 rfl) ?_
        refine lv_aload_n hx hb dX10_sat_160 rfl (lv_at hl 0 rfl) ?_
        refine tg_get (ci := 10) (ts := ty_MODEL) (C := RX10) (T := TX10) (N := 49) hx hb hts inX10 hown hK hw h_p0 rfl rfl 1 (by decide) (hts _ tw_1138) (fun _ h9 => h9) (ft := vR 40) rfl dX10_sat_161 (fun u_28 hv_u_28 m_u_28 => ?_)
        obtain ⟨vu_28, rfl, h_vu_28⟩ := hv_u_28
        refine lv_iconst (v := 0) hx hb dX10_sat_164 (by decide) ?_
        refine tg_iald (lo := 0) (hi := 255) hx hb hK hw h_vu_28 rfl 0 0 rl_0 (by decide) (by exact fun _ _ _ => ⟨Int.le_refl _, Int.le_refl _⟩) dX10_sat_165 (fun v_29 r_v_29 m_v_29 o_v_29 => ?_)
        have r_v_29 : RI v_29 0 5 := by obtain ⟨f9, h9, q9, g9⟩ := AX.use hw x_T0_p0 h_vu_28 rfl m_u_28; have e9 := g9 _ _ m_v_29; have j9 : Int32.toNatClampNeg 0 = 0 := (by decide); rw [j9] at e9; rw [e9] at h9; exact ⟨r_v_29.1, h9⟩
        refine lv_aload_n hx hb dX10_sat_166 rfl (lv_at hl 0 rfl) ?_
        refine tg_mem (ci := 10) (C := RX10) (T := TX10) (N := 49) hx hb hts inX10 hown hK hw 1 m_u_28 rfl (by decide) (hts _ tw_1138) (fun _ h9 => h9) dX10_sat_167 ?_
        refine lv_iconst (v := 1) hx hb dX10_sat_170 (by decide) ?_
        refine tg_iald (lo := 0) (hi := 255) hx hb hK hw h_vu_28 rfl 1 1 rl_1 (by decide) (by exact fun _ _ _ => ⟨Int.le_refl _, Int.le_refl _⟩) dX10_sat_171 (fun v_30 r_v_30 m_v_30 o_v_30 => ?_)
        refine lv_iload_n hx hb dX10_sat_172 rfl (lv_at hl 1 rfl) ?_
        refine lv_aload_n hx hb dX10_sat_173 rfl (lv_at hl 0 rfl) ?_
        refine tg_mem (ci := 10) (C := RX10) (T := TX10) (N := 49) hx hb hts inX10 hown hK hw 1 m_u_28 rfl (by decide) (hts _ tw_1138) (fun _ h9 => h9) dX10_sat_174 ?_
        refine lv_iconst (v := 3) hx hb dX10_sat_177 (by decide) ?_
        refine tg_iald (lo := 0) (hi := 255) hx hb hK hw h_vu_28 rfl 3 3 rl_3 (by decide) (by exact fun _ _ _ => ⟨Int.le_refl _, Int.le_refl _⟩) dX10_sat_178 (fun v_31 r_v_31 m_v_31 o_v_31 => ?_)
        refine tk_i (va_runV (As := [.int x4, .int v_29, .int v_30, .int x1, .int v_31]) (rest := []) ⟨hx, hb, hml, hown, hts⟩ (c_X10_satSo l D cy z H.size Ps ws hw.1 p0 x4 v_29 v_30 x1 v_31 h_p0 (r_x4.to (by decide)) r_v_29 (r_v_30.to (by decide)) (r_x1.to (by decide)) (r_v_31.to (by decide))) (cwV 5 hts (gV tw_1603 tw_1605 ts_90 tw_15 tw_1606) rfl rfl rfl (by decide +kernel) ⟨Nat.le_of_ble_eq_true rfl, Nat.le_of_ble_eq_true rfl⟩) (tg_preV hw hK hSD hA (ci := 10) (q := (RX10, TX10, 49)) rfl h_p0 rfl) rfl rfl hl.1 rfl (lv_room (Nat.le_of_ble_eq_true rfl)) dX10_sat_179 ⟨Nat.le_of_ble_eq_true rfl, Nat.le_of_ble_eq_true rfl⟩) hw hA ⟨by decide, by decide⟩ (fun v_32 ws H locs hp_v_32 hw hF9 => ?_)
        have m_z0_0 := FLD.over hF9 m_z0_0 (by decide)
        have m_z0_2 := FLD.over hF9 m_z0_2 (by decide)
        have x_T0_p0 := AX.over hF9 x_T0_p0 (by decide)
        have r_v_32 : RI v_32 0 1 := hp_v_32.1
        refine lv_if_ne (tgt := 188) hx hb dX10_sat_182 (by decide) (fun c_182 => ?_) (fun c_182 => ?_)
        · have r_v_32 : RI v_32 1 1 := rc_neL r_v_32 rl_0 (ti_ne c_182) (by decide)
          obtain ⟨v_33, e_v_33⟩ : ∃ q9 : Int32, q9 = x2 + Int32.ofInt 1 := ⟨_, rfl⟩
          have r_v_33 := ri_any v_33
          refine lv_iinc (v := v_33) (lv' := [(2, .int v_33), (0, .ref p0), (1, .int x1), (3, .int x3), (4, .int x4)]) hx hb dX10_sat_188 hl (k := 2) rfl e_v_33.symm (by decide) rfl (fun ls hl => ?_)
          refine lv_iload_n hx hb dX10_sat_191 rfl (lv_at hl 3 rfl) ?_
          refine lv_iload hx hb dX10_sat_192 (lv_at hl 4 rfl) ?_
          refine lv_iand hx hb dX10_sat_194 (lv_topi (fun v_34 e_v_34 => ?_))
          have r_v_34 : RI v_34 0 255 := by rw [e_v_34]; exact ri_and (d := 255) (r_x4.to (by decide)) (by decide)
          refine lv_istore_n (lv' := [(3, .int v_34), (2, .int v_33), (0, .ref p0), (1, .int x1), (4, .int x4)]) hx hb dX10_sat_195 rfl hl (by decide) rfl (fun ls hl => ?_)
          refine lv_iconst (v := 0) hx hb dX10_sat_196 (by decide) ?_
          refine lv_istore (lv' := [(5, .int 0), (3, .int v_34), (2, .int v_33), (0, .ref p0), (1, .int x1), (4, .int x4)]) hx hb dX10_sat_197 hl (by decide) rfl (fun ls hl => ?_)
          exact B199 4294967298 x1 v_33 v_34 x4 0 z0_0 z0_2 ws _ _ ls (by have q0 := rl_0.1; have u0 := rl_0.2; omega) r_x1 r_v_33 r_v_34 r_x4 (rl_0.to (by decide)) r_z0_0 m_z0_0 r_z0_2 m_z0_2 x_T0_p0 (by have q0 := r_x4.1; have u0 := r_x4.2; omega) hw (lv_sub hl [3, 4, 2, 1, 5, 0] rfl)
        · have r_v_32 : RI v_32 0 0 := rc_eq1 r_v_32 rl_0 (ti_eq c_182) (by decide)
          refine lv_goto (tgt := 233) hx hb dX10_sat_185 (by decide) ?_
          obtain ⟨v_35, e_v_35⟩ : ∃ q9 : Int32, q9 = x4 + Int32.ofInt 1 := ⟨_, rfl⟩
          obtain ⟨t_v_35, r_v_35⟩ := tq_add (lo := 1) (hi := 256) r_x4 (show RI (Int32.ofInt 1) 1 1 by unfold RI; decide +kernel) (by decide +kernel) e_v_35
          have t_v_35 : v_35.toInt = x4.toInt + 1 := t_v_35
          refine lv_iinc (v := v_35) (lv' := [(4, .int v_35), (0, .ref p0), (1, .int x1), (2, .int x2), (3, .int x3)]) hx hb dX10_sat_233 hl (k := 4) rfl e_v_35.symm (by decide) rfl (fun ls hl => ?_)
          refine lv_goto (tgt := 144) hx hb dX10_sat_236 (by decide) ?_
          exact ih144 x1 x2 x3 v_35 z0_0 z0_2 ws _ _ ls (by have q0 := r_v_35.1; have u0 := r_v_35.2; have o0 := r_x4.1; have p0 := r_x4.2; omega) r_x1 r_x2 r_x3 (r_v_35.to (by decide)) r_z0_0 m_z0_0 r_z0_2 m_z0_2 x_T0_p0 hw (lv_sub hl [1, 2, 3, 4, 0] rfl)
  have B120 : ∀ (nf : Nat) (x1 : Int32) (x2 : Int32) (x3 : Int32) (x4 : Int32) (z0_0 : Int32) (z0_2 : Int32) (ws : va_W) (H : Heap) (locs : List Loc) (ls : Array Slot), 8 - x4.toInt < (nf : Int) → RI x1 (-1) 5 → RI x2 0 0 → RI x3 0 255 → RI x4 0 8 → RI z0_0 0 0 → FLD ws p0 10 0 (.int z0_0) → RI z0_2 0 0 → FLD ws p0 10 2 (.int z0_2) → AX 1 40 (fun f => (f 0).toInt ≤ 5) Ps ws p0 → WD D cy GG A s wr_X10_sat wa_X10_sat Ps w0 Ps ws H locs → lv_has ls 6 [(0, .ref p0), (1, .int x1), (2, .int x2), (3, .int x3), (4, .int x4)] → W p l e (headSpec (Cond.code yX10_sat cX10_sat 6 (some .int) :: gT) ({ frames := 4, cells := 0, slots := 0, locals := 800 } : Room)).room s m ([.ref p0] : List Value).toArray below meth c H locs 0 0 Q (F0 m 120 ls []) := by
    intro nf120
    induction nf120 with
    | zero =>
      intro x1 x2 x3 x4 z0_0 z0_2 ws H locs ls hn120 r_x1 r_x2 r_x3 r_x4 r_z0_0 m_z0_0 r_z0_2 m_z0_2 x_T0_p0 hw hl
      exact absurd hn120 (by have q0 := r_x4.1; have u0 := r_x4.2; omega)
    | succ nf120 ih120 =>
      intro x1 x2 x3 x4 z0_0 z0_2 ws H locs ls hn120 r_x1 r_x2 r_x3 r_x4 r_z0_0 m_z0_0 r_z0_2 m_z0_2 x_T0_p0 hw hl
      refine lv_iload hx hb dX10_sat_120 (lv_at hl 4 rfl) ?_
      refine lv_bipush (v := 8) hx hb dX10_sat_122 (by decide) ?_
      refine lv_icmp_ge (tgt := 141) hx hb dX10_sat_124 (by decide) (fun c_124 => ?_) (fun c_124 => ?_)
      · have r_x4 : RI x4 8 8 := rc_le2 rl_8 r_x4 (ti_le c_124) (by decide)
        refine lv_iconst (v := 0) hx hb dX10_sat_141 (by decide) ?_
        refine lv_istore (lv' := [(4, .int 0), (0, .ref p0), (1, .int x1), (2, .int x2), (3, .int x3)]) hx hb dX10_sat_142 hl (by decide) rfl (fun ls hl => ?_)
        exact B144 4294967298 x1 x2 x3 0 z0_0 z0_2 ws _ _ ls (by have q0 := rl_0.1; have u0 := rl_0.2; omega) r_x1 (r_x2.to (by decide)) r_x3 (rl_0.to (by decide)) r_z0_0 m_z0_0 r_z0_2 m_z0_2 x_T0_p0 hw (lv_sub hl [1, 2, 3, 4, 0] rfl)
      · have r_x4 : RI x4 0 7 := rc_lt1 r_x4 rl_8 (ti_nle c_124) (by decide)
        refine lv_aload_n hx hb dX10_sat_127 rfl (lv_at hl 0 rfl) ?_
        refine tg_get (ci := 10) (ts := ty_MODEL) (C := RX10) (T := TX10) (N := 49) hx hb hts inX10 hown hK hw h_p0 rfl rfl 28 (by decide) (hts _ tw_1165) (fun _ h9 => h9) (ft := vR 47) rfl dX10_sat_128 (fun u_36 hv_u_36 m_u_36 => ?_)
        obtain ⟨vu_36, rfl, h_vu_36⟩ := hv_u_36
        refine lv_iload hx hb dX10_sat_131 (lv_at hl 4 rfl) ?_
        refine lv_iconst (v := 0) hx hb dX10_sat_133 (by decide) ?_
        refine tg_iast hx hb hK hw h_vu_36 rfl 0 7 r_x4 (by decide) rl_0 (by exact fun _ _ _ => by decide) (fun _ _ _ _ _ => trivial) (by decide) dX10_sat_134 (fun ws H locs hw hF9 hU9 => ?_)
        have x_T0_p0 := AX.over hF9 x_T0_p0 (by decide)
        have m_z0_0 := FLD.over hF9 m_z0_0 (by decide)
        have m_z0_2 := FLD.over hF9 m_z0_2 (by decide)
        obtain ⟨v_37, e_v_37⟩ : ∃ q9 : Int32, q9 = x4 + Int32.ofInt 1 := ⟨_, rfl⟩
        obtain ⟨t_v_37, r_v_37⟩ := tq_add (lo := 1) (hi := 8) r_x4 (show RI (Int32.ofInt 1) 1 1 by unfold RI; decide +kernel) (by decide +kernel) e_v_37
        have t_v_37 : v_37.toInt = x4.toInt + 1 := t_v_37
        refine lv_iinc (v := v_37) (lv' := [(4, .int v_37), (0, .ref p0), (1, .int x1), (2, .int x2), (3, .int x3)]) hx hb dX10_sat_135 hl (k := 4) rfl e_v_37.symm (by decide) rfl (fun ls hl => ?_)
        refine lv_goto (tgt := 120) hx hb dX10_sat_138 (by decide) ?_
        exact ih120 x1 x2 x3 v_37 z0_0 z0_2 ws _ _ ls (by have q0 := r_v_37.1; have u0 := r_v_37.2; have o0 := r_x4.1; have p0 := r_x4.2; omega) r_x1 r_x2 r_x3 (r_v_37.to (by decide)) r_z0_0 m_z0_0 r_z0_2 m_z0_2 x_T0_p0 hw (lv_sub hl [1, 2, 3, 4, 0] rfl)
  have B103 : ∀ (y0 : Int32) (z0_0 : Int32) (z0_2 : Int32) (ws : va_W) (H : Heap) (locs : List Loc) (ls : Array Slot), RI y0 (-1) 5 → RI z0_0 0 0 → FLD ws p0 10 0 (.int z0_0) → RI z0_2 0 0 → FLD ws p0 10 2 (.int z0_2) → AX 1 40 (fun f => (f 0).toInt ≤ 5) Ps ws p0 → WD D cy GG A s wr_X10_sat wa_X10_sat Ps w0 Ps ws H locs → lv_has ls 6 [(0, .ref p0)] → W p l e (headSpec (Cond.code yX10_sat cX10_sat 6 (some .int) :: gT) ({ frames := 4, cells := 0, slots := 0, locals := 800 } : Room)).room s m ([.ref p0] : List Value).toArray below meth c H locs 0 0 Q (F0 m 103 ls [.int y0]) := by
    intro y0 z0_0 z0_2 ws H locs ls r_y0 r_z0_0 m_z0_0 r_z0_2 m_z0_2 x_T0_p0 hw hl
    refine lv_istore_n (lv' := [(1, .int y0), (0, .ref p0)]) hx hb dX10_sat_103 rfl hl (by decide) rfl (fun ls hl => ?_)
    refine lv_iconst (v := 0) hx hb dX10_sat_104 (by decide) ?_
    refine lv_istore_n (lv' := [(2, .int 0), (1, .int y0), (0, .ref p0)]) hx hb dX10_sat_105 rfl hl (by decide) rfl (fun ls hl => ?_)
    refine lv_iconst (v := 1) hx hb dX10_sat_106 (by decide) ?_
    refine lv_aload_n hx hb dX10_sat_107 rfl (lv_at hl 2 rfl) ?_
    refine tg_get (ci := 10) (ts := ty_MODEL) (C := RX10) (T := TX10) (N := 49) hx hb hts inX10 hown hK hw h_p0 rfl rfl 14 (by decide) (hts _ tw_1151) (fun _ h9 => h9) (ft := vR 34) rfl dX10_sat_108 (fun u_38 hv_u_38 m_u_38 => ?_)
    obtain ⟨vu_38, rfl, h_vu_38⟩ := hv_u_38
    refine lv_iconst (v := 3) hx hb dX10_sat_111 (by decide) ?_
    refine tg_iald (lo := 0) (hi := 8) hx hb hK hw h_vu_38 rfl 3 3 rl_3 (by decide) (by decide +kernel) dX10_sat_112 (fun v_39 r_v_39 m_v_39 o_v_39 => ?_)
    refine lv_ishl hx hb dX10_sat_113 (lv_topi (fun v_40 e_v_40 => ?_))
    have r_v_40 : RI v_40 1 256 := by rw [e_v_40]; exact ri_shl1 (r_v_39.to (c := 0) (d := 8) (by decide)) (by decide)
    refine lv_iconst (v := 1) hx hb dX10_sat_114 (by decide) ?_
    refine lv_isub hx hb dX10_sat_115 (lv_topi (fun v_41 e_v_41 => ?_))
    obtain ⟨t_v_41, r_v_41⟩ := tq_sub (lo := 0) (hi := 255) r_v_40 rl_1 (by decide +kernel) e_v_41
    have t_v_41 : v_41.toInt = v_40.toInt - 1 := t_v_41
    refine lv_istore_n (lv' := [(3, .int v_41), (2, .int 0), (1, .int y0), (0, .ref p0)]) hx hb dX10_sat_116 rfl hl (by decide) rfl (fun ls hl => ?_)
    refine lv_iconst (v := 0) hx hb dX10_sat_117 (by decide) ?_
    refine lv_istore (lv' := [(4, .int 0), (3, .int v_41), (2, .int 0), (1, .int y0), (0, .ref p0)]) hx hb dX10_sat_118 hl (by decide) rfl (fun ls hl => ?_)
    exact B120 4294967298 y0 0 v_41 0 z0_0 z0_2 ws _ _ ls (by have q0 := rl_0.1; have u0 := rl_0.2; omega) r_y0 rl_0 r_v_41 (rl_0.to (by decide)) r_z0_0 m_z0_0 r_z0_2 m_z0_2 x_T0_p0 hw (lv_sub hl [4, 3, 2, 1, 0] rfl)
  refine lv_aload_n hx hb dX10_sat_0 rfl (lv_at hl 0 rfl) ?_
  refine lv_iconst (v := 0) hx hb dX10_sat_1 (by decide) ?_
  refine tg_put (ci := 10) (ts := ty_MODEL) (v := .int 0) (ty := .int) (C := RX10) (T := TX10) (N := 49) hx hb hts inX10 tyX10 tyX10_ok nmX10 hown hK hw h_p0 rfl rfl 0 (by decide) (hts _ tw_1137) (fun _ h9 => h9) rfl (by decide +kernel) rfl rfl (ft := vI (-2147483648) 2147483647) rfl ⟨_, rfl, (rl_0.to (by decide))⟩ (by decide) dX10_sat_2 (fun ws H locs hw n_k_42 hF9 => ?_)
  refine lv_aload_n hx hb dX10_sat_5 rfl (lv_at hl 0 rfl) ?_
  refine tk_i (va_runV (As := []) (rest := []) ⟨hx, hb, hml, hown, hts⟩ (c_X10_take l D cy z H.size Ps ws hw.1 p0 h_p0) (cwV 0 hts (gV tw_1294 tw_1296 ts_39 tw_15 tw_1297) rfl rfl rfl (by decide +kernel) ⟨Nat.le_of_ble_eq_true rfl, Nat.le_of_ble_eq_true rfl⟩) (tg_preV hw hK hSD hA (ci := 10) (q := (RX10, TX10, 49)) rfl h_p0 rfl) rfl rfl hl.1 rfl (lv_room (Nat.le_of_ble_eq_true rfl)) dX10_sat_6 ⟨Nat.le_of_ble_eq_true rfl, Nat.le_of_ble_eq_true rfl⟩) hw hA ⟨by decide, by decide⟩ (fun v_43 ws H locs hp_v_43 hw hF9 => ?_)
  have n_k_42 := FLD.over hF9 n_k_42 (by decide)
  have r_v_43 : RI v_43 0 940 := hp_v_43.1
  by_cases c9_v_43 : v_43 = 0
  · have r_v_43 : RI v_43 0 0 := by rw [c9_v_43]; exact rl_0
    obtain ⟨v_44, m_v_44, r_v_44⟩ := ((hp_v_43.2.1 c9_v_43).1)
    refine lv_iconst (v := 4) hx hb dX10_sat_9 (by decide) ?_
    refine lv_icmp_ne (tgt := 79) hx hb dX10_sat_10 (by decide) (fun c_10 => ?_) (fun c_10 => ?_)
    · refine lv_iconst (v := (-1)) hx hb dX10_sat_79 (by decide) ?_
      subst hQ
      exact W.iret (v := (-1)) hx hb hr (fun t ht hW => ⟨⟨(-1), ws, rfl, ⟨⟨rl_m1.to (by decide), (fun _ => trivial), (fun h0 => trivial)⟩, hw.1, hw.2.2.2.2.1⟩, by rw [ht]; exact hw.2.1, va_K.moved hW.alike hK, hw.2.2.1⟩, hw.2.2.2.1.F ht⟩) hw.2.2.2.1.2.2 dX10_sat_80
    · have r_v_43 : RI v_43 4 0 := rc_eq1 r_v_43 rl_4 (ti_eq c_10) (by decide)
      exact (r_v_43.no (by decide)).elim
  · have r_v_43 : RI v_43 1 940 := rc_neL r_v_43 rl_0 (ti_ne c9_v_43) (by decide)
    obtain ⟨v_45, m_v_45, r_v_45⟩ := ((hp_v_43.2.2 c9_v_43).1)
    refine lv_iconst (v := 4) hx hb dX10_sat_9 (by decide) ?_
    refine lv_icmp_ne (tgt := 79) hx hb dX10_sat_10 (by decide) (fun c_10 => ?_) (fun c_10 => ?_)
    · refine lv_iconst (v := (-1)) hx hb dX10_sat_79 (by decide) ?_
      subst hQ
      exact W.iret (v := (-1)) hx hb hr (fun t ht hW => ⟨⟨(-1), ws, rfl, ⟨⟨rl_m1.to (by decide), (fun _ => trivial), (fun h0 => trivial)⟩, hw.1, hw.2.2.2.2.1⟩, by rw [ht]; exact hw.2.1, va_K.moved hW.alike hK, hw.2.2.1⟩, hw.2.2.2.1.F ht⟩) hw.2.2.2.1.2.2 dX10_sat_80
    · have r_v_43 : RI v_43 4 4 := rc_eq1 r_v_43 rl_4 (ti_eq c_10) (by decide)
      refine lv_aload_n hx hb dX10_sat_13 rfl (lv_at hl 0 rfl) ?_
      refine lv_aload_n hx hb dX10_sat_14 rfl (lv_at hl 0 rfl) ?_
      refine tg_get (ci := 10) (ts := ty_MODEL) (C := RX10) (T := TX10) (N := 49) hx hb hts inX10 hown hK hw h_p0 rfl rfl 1 (by decide) (hts _ tw_1138) (fun _ h9 => h9) (ft := vR 40) rfl dX10_sat_15 (fun u_46 hv_u_46 m_u_46 => ?_)
      obtain ⟨vu_46, rfl, h_vu_46⟩ := hv_u_46
      refine lv_iconst (v := 0) hx hb dX10_sat_18 (by decide) ?_
      refine tg_iald (lo := 0) (hi := 255) hx hb hK hw h_vu_46 rfl 0 0 rl_0 (by decide) (by exact fun _ _ _ => ⟨Int.le_refl _, Int.le_refl _⟩) dX10_sat_19 (fun v_47 r_v_47 m_v_47 o_v_47 => ?_)
      refine tk_ir (va_runV (As := [.int v_47]) (rest := []) ⟨hx, hb, hml, hown, hts⟩ (c_X10_isParcel l D cy z H.size Ps ws hw.1 p0 v_47 h_p0 (r_v_47.to (by decide))) (cwV 1 hts (gV tw_1429 tw_1431 ts_65 tw_15 tw_1432) rfl rfl rfl (by decide +kernel) ⟨Nat.le_of_ble_eq_true rfl, Nat.le_of_ble_eq_true rfl⟩) (tg_preV hw hK hSD hA (ci := 10) (q := (RX10, TX10, 49)) rfl h_p0 rfl) rfl rfl hl.1 rfl (lv_room (Nat.le_of_ble_eq_true rfl)) dX10_sat_20 ⟨Nat.le_of_ble_eq_true rfl, Nat.le_of_ble_eq_true rfl⟩) hw hA (fun v_48  H locs hp_v_48 hw => ?_)
      have r_v_48 : RI v_48 0 1 := hp_v_48.1
      refine lv_if_eq (tgt := 79) hx hb dX10_sat_23 (by decide) (fun c_23 => ?_) (fun c_23 => ?_)
      · have r_v_48 : RI v_48 0 0 := rc_eq1 r_v_48 rl_0 (ti_eq c_23) (by decide)
        refine lv_iconst (v := (-1)) hx hb dX10_sat_79 (by decide) ?_
        subst hQ
        exact W.iret (v := (-1)) hx hb hr (fun t ht hW => ⟨⟨(-1), ws, rfl, ⟨⟨rl_m1.to (by decide), (fun _ => trivial), (fun h0 => trivial)⟩, hw.1, hw.2.2.2.2.1⟩, by rw [ht]; exact hw.2.1, va_K.moved hW.alike hK, hw.2.2.1⟩, hw.2.2.2.1.F ht⟩) hw.2.2.2.1.2.2 dX10_sat_80
      · have r_v_48 : RI v_48 1 1 := rc_neL r_v_48 rl_0 (ti_ne c_23) (by decide)
        have r_v_47 : RI v_47 0 5 := ((hp_v_48.2.2 c_23).1)
        refine lv_aload_n hx hb dX10_sat_26 rfl (lv_at hl 0 rfl) ?_
        refine tg_mem (ci := 10) (C := RX10) (T := TX10) (N := 49) hx hb hts inX10 hown hK hw 1 m_u_46 rfl (by decide) (hts _ tw_1138) (fun _ h9 => h9) dX10_sat_27 ?_
        refine lv_iconst (v := 1) hx hb dX10_sat_30 (by decide) ?_
        refine tg_iald (lo := 0) (hi := 255) hx hb hK hw h_vu_46 rfl 1 1 rl_1 (by decide) (by exact fun _ _ _ => ⟨Int.le_refl _, Int.le_refl _⟩) dX10_sat_31 (fun v_49 r_v_49 m_v_49 o_v_49 => ?_)
        refine lv_iconst (v := 1) hx hb dX10_sat_32 (by decide) ?_
        refine lv_bipush (v := 30) hx hb dX10_sat_33 (by decide) ?_
        refine tk_ir (va_runS (As := [.int v_49, .int 1, .int 30]) (rest := []) ⟨hx, hb, hml, hown, hts⟩ (c_X10_isIn__11 l D cy z H.size Ps ws hw.1 v_49 1 30 r_v_49 rl_1 rl_30) (va_cwS 3 hts (gS tw_1359 tw_1360 tw_15 tw_1361) rfl rfl rfl (by decide +kernel) ⟨Nat.le_of_ble_eq_true rfl, Nat.le_of_ble_eq_true rfl⟩) (tg_preS hw hK hSD hA) rfl rfl hl.1 rfl (lv_room (Nat.le_of_ble_eq_true rfl)) dX10_sat_35 ⟨Nat.le_of_ble_eq_true rfl, Nat.le_of_ble_eq_true rfl⟩) hw hA (fun v_50  H locs hp_v_50 hw => ?_)
        have r_v_50 : RI v_50 0 1 := hp_v_50.1
        refine lv_if_eq (tgt := 79) hx hb dX10_sat_38 (by decide) (fun c_38 => ?_) (fun c_38 => ?_)
        · have r_v_50 : RI v_50 0 0 := rc_eq1 r_v_50 rl_0 (ti_eq c_38) (by decide)
          refine lv_iconst (v := (-1)) hx hb dX10_sat_79 (by decide) ?_
          subst hQ
          exact W.iret (v := (-1)) hx hb hr (fun t ht hW => ⟨⟨(-1), ws, rfl, ⟨⟨rl_m1.to (by decide), (fun _ => trivial), (fun h0 => trivial)⟩, hw.1, hw.2.2.2.2.1⟩, by rw [ht]; exact hw.2.1, va_K.moved hW.alike hK, hw.2.2.1⟩, hw.2.2.2.1.F ht⟩) hw.2.2.2.1.2.2 dX10_sat_80
        · have r_v_50 : RI v_50 1 1 := rc_neL r_v_50 rl_0 (ti_ne c_38) (by decide)
          have r_v_49 : RI v_49 1 30 := ((hp_v_50.2.2 c_38).1)
          refine lv_aload_n hx hb dX10_sat_41 rfl (lv_at hl 0 rfl) ?_
          refine tg_mem (ci := 10) (C := RX10) (T := TX10) (N := 49) hx hb hts inX10 hown hK hw 1 m_u_46 rfl (by decide) (hts _ tw_1138) (fun _ h9 => h9) dX10_sat_42 ?_
          refine lv_iconst (v := 2) hx hb dX10_sat_45 (by decide) ?_
          refine tg_iald (lo := 0) (hi := 255) hx hb hK hw h_vu_46 rfl 2 2 rl_2 (by decide) (by exact fun _ _ _ => ⟨Int.le_refl _, Int.le_refl _⟩) dX10_sat_46 (fun v_51 r_v_51 m_v_51 o_v_51 => ?_)
          refine lv_sipush (v := 255) hx hb dX10_sat_47 (by decide) ?_
          refine lv_icmp_eq (tgt := 66) hx hb dX10_sat_50 (by decide) (fun c_50 => ?_) (fun c_50 => ?_)
          · have r_v_51 : RI v_51 255 255 := rc_eq1 r_v_51 rl_255 (ti_eq c_50) (by decide)
            refine lv_aload_n hx hb dX10_sat_66 rfl (lv_at hl 0 rfl) ?_
            refine lv_aload_n hx hb dX10_sat_67 rfl (lv_at hl 0 rfl) ?_
            refine tg_mem (ci := 10) (C := RX10) (T := TX10) (N := 49) hx hb hts inX10 hown hK hw 1 m_u_46 rfl (by decide) (hts _ tw_1138) (fun _ h9 => h9) dX10_sat_68 ?_
            refine lv_iconst (v := 0) hx hb dX10_sat_71 (by decide) ?_
            refine tg_imem hx hb hK hw h_vu_46 rfl rl_0 (by decide) m_v_47 dX10_sat_72 ?_
            refine tk_ir (va_runV (As := [.int v_47]) (rest := []) ⟨hx, hb, hml, hown, hts⟩ (c_X10_isOpen l D cy z H.size Ps ws hw.1 p0 v_47 h_p0 (r_v_47.to (by decide))) (cwV 1 hts (gV tw_1457 tw_1459 ts_71 tw_15 tw_1460) rfl rfl rfl (by decide +kernel) ⟨Nat.le_of_ble_eq_true rfl, Nat.le_of_ble_eq_true rfl⟩) (tg_preV hw hK hSD hA (ci := 10) (q := (RX10, TX10, 49)) rfl h_p0 rfl) rfl rfl hl.1 rfl (lv_room (Nat.le_of_ble_eq_true rfl)) dX10_sat_73 ⟨Nat.le_of_ble_eq_true rfl, Nat.le_of_ble_eq_true rfl⟩) hw hA (fun v_53  H locs hp_v_53 hw => ?_)
            have r_v_53 : RI v_53 0 1 := hp_v_53.1
            refine lv_if_eq (tgt := 81) hx hb dX10_sat_76 (by decide) (fun c_76 => ?_) (fun c_76 => ?_)
            · have r_v_53 : RI v_53 0 0 := rc_eq1 r_v_53 rl_0 (ti_eq c_76) (by decide)
              have x_T0_p0 : AX 1 40 (fun f => (f 0).toInt ≤ 5) Ps ws p0 := AX.mk hw h_vu_46 rfl m_u_46 (fun f9 g9 _ => by have e9 := g9 _ _ m_v_47; have j9 : Int32.toNatClampNeg 0 = 0 := (by decide); rw [j9] at e9; show _; rw [e9]; exact r_v_47.2)
              refine lv_aload_n hx hb dX10_sat_81 rfl (lv_at hl 0 rfl) ?_
              refine tg_mem (ci := 10) (C := RX10) (T := TX10) (N := 49) hx hb hts inX10 hown hK hw 1 m_u_46 rfl (by decide) (hts _ tw_1138) (fun _ h9 => h9) dX10_sat_82 ?_
              refine lv_iconst (v := 2) hx hb dX10_sat_85 (by decide) ?_
              refine tg_imem hx hb hK hw h_vu_46 rfl rl_2 (by decide) m_v_51 dX10_sat_86 ?_
              refine lv_sipush (v := 255) hx hb dX10_sat_87 (by decide) ?_
              refine lv_icmp_ne (tgt := 97) hx hb dX10_sat_90 (by decide) (fun c_90 => ?_) (fun c_90 => ?_)
              · exact absurd (r_v_51.eq.trans rl_255.eq.symm) ((ti_ne c_90))
              · refine lv_iconst (v := (-1)) hx hb dX10_sat_93 (by decide) ?_
                refine lv_goto (tgt := 103) hx hb dX10_sat_94 (by decide) ?_
                exact B103 (-1) 0 v_45 ws _ _ ls (rl_m1.to (by decide)) rl_0 n_k_42 r_v_45 m_v_45 x_T0_p0 hw hl
            · have r_v_53 : RI v_53 1 1 := rc_neL r_v_53 rl_0 (ti_ne c_76) (by decide)
              refine lv_iconst (v := (-1)) hx hb dX10_sat_79 (by decide) ?_
              subst hQ
              exact W.iret (v := (-1)) hx hb hr (fun t ht hW => ⟨⟨(-1), ws, rfl, ⟨⟨rl_m1.to (by decide), (fun _ => trivial), (fun h0 => trivial)⟩, hw.1, hw.2.2.2.2.1⟩, by rw [ht]; exact hw.2.1, va_K.moved hW.alike hK, hw.2.2.1⟩, hw.2.2.2.1.F ht⟩) hw.2.2.2.1.2.2 dX10_sat_80
          · have r_v_51 : RI v_51 0 254 := rc_neU r_v_51 rl_255 (ti_ne c_50) (by decide)
            refine lv_aload_n hx hb dX10_sat_53 rfl (lv_at hl 0 rfl) ?_
            refine lv_aload_n hx hb dX10_sat_54 rfl (lv_at hl 0 rfl) ?_
            refine tg_mem (ci := 10) (C := RX10) (T := TX10) (N := 49) hx hb hts inX10 hown hK hw 1 m_u_46 rfl (by decide) (hts _ tw_1138) (fun _ h9 => h9) dX10_sat_55 ?_
            refine lv_iconst (v := 2) hx hb dX10_sat_58 (by decide) ?_
            refine tg_imem hx hb hK hw h_vu_46 rfl rl_2 (by decide) m_v_51 dX10_sat_59 ?_
            refine tk_ir (va_runV (As := [.int v_51]) (rest := []) ⟨hx, hb, hml, hown, hts⟩ (c_X10_isIdea l D cy z H.size Ps ws hw.1 p0 v_51 h_p0 (r_v_51.to (by decide))) (cwV 1 hts (gV tw_1433 tw_1435 ts_66 tw_15 tw_1436) rfl rfl rfl (by decide +kernel) ⟨Nat.le_of_ble_eq_true rfl, Nat.le_of_ble_eq_true rfl⟩) (tg_preV hw hK hSD hA (ci := 10) (q := (RX10, TX10, 49)) rfl h_p0 rfl) rfl rfl hl.1 rfl (lv_room (Nat.le_of_ble_eq_true rfl)) dX10_sat_60 ⟨Nat.le_of_ble_eq_true rfl, Nat.le_of_ble_eq_true rfl⟩) hw hA (fun v_56  H locs hp_v_56 hw => ?_)
            have r_v_56 : RI v_56 0 1 := hp_v_56.1
            refine lv_if_eq (tgt := 79) hx hb dX10_sat_63 (by decide) (fun c_63 => ?_) (fun c_63 => ?_)
            · have r_v_56 : RI v_56 0 0 := rc_eq1 r_v_56 rl_0 (ti_eq c_63) (by decide)
              refine lv_iconst (v := (-1)) hx hb dX10_sat_79 (by decide) ?_
              subst hQ
              exact W.iret (v := (-1)) hx hb hr (fun t ht hW => ⟨⟨(-1), ws, rfl, ⟨⟨rl_m1.to (by decide), (fun _ => trivial), (fun h0 => trivial)⟩, hw.1, hw.2.2.2.2.1⟩, by rw [ht]; exact hw.2.1, va_K.moved hW.alike hK, hw.2.2.1⟩, hw.2.2.2.1.F ht⟩) hw.2.2.2.1.2.2 dX10_sat_80
            · have r_v_56 : RI v_56 1 1 := rc_neL r_v_56 rl_0 (ti_ne c_63) (by decide)
              have r_v_51 : RI v_51 0 5 := ((hp_v_56.2.2 c_63).1)
              refine lv_aload_n hx hb dX10_sat_66 rfl (lv_at hl 0 rfl) ?_
              refine lv_aload_n hx hb dX10_sat_67 rfl (lv_at hl 0 rfl) ?_
              refine tg_mem (ci := 10) (C := RX10) (T := TX10) (N := 49) hx hb hts inX10 hown hK hw 1 m_u_46 rfl (by decide) (hts _ tw_1138) (fun _ h9 => h9) dX10_sat_68 ?_
              refine lv_iconst (v := 0) hx hb dX10_sat_71 (by decide) ?_
              refine tg_imem hx hb hK hw h_vu_46 rfl rl_0 (by decide) m_v_47 dX10_sat_72 ?_
              refine tk_ir (va_runV (As := [.int v_47]) (rest := []) ⟨hx, hb, hml, hown, hts⟩ (c_X10_isOpen l D cy z H.size Ps ws hw.1 p0 v_47 h_p0 (r_v_47.to (by decide))) (cwV 1 hts (gV tw_1457 tw_1459 ts_71 tw_15 tw_1460) rfl rfl rfl (by decide +kernel) ⟨Nat.le_of_ble_eq_true rfl, Nat.le_of_ble_eq_true rfl⟩) (tg_preV hw hK hSD hA (ci := 10) (q := (RX10, TX10, 49)) rfl h_p0 rfl) rfl rfl hl.1 rfl (lv_room (Nat.le_of_ble_eq_true rfl)) dX10_sat_73 ⟨Nat.le_of_ble_eq_true rfl, Nat.le_of_ble_eq_true rfl⟩) hw hA (fun v_58  H locs hp_v_58 hw => ?_)
              have r_v_58 : RI v_58 0 1 := hp_v_58.1
              refine lv_if_eq (tgt := 81) hx hb dX10_sat_76 (by decide) (fun c_76 => ?_) (fun c_76 => ?_)
              · have r_v_58 : RI v_58 0 0 := rc_eq1 r_v_58 rl_0 (ti_eq c_76) (by decide)
                have x_T0_p0 : AX 1 40 (fun f => (f 0).toInt ≤ 5) Ps ws p0 := AX.mk hw h_vu_46 rfl m_u_46 (fun f9 g9 _ => by have e9 := g9 _ _ m_v_47; have j9 : Int32.toNatClampNeg 0 = 0 := (by decide); rw [j9] at e9; show _; rw [e9]; exact r_v_47.2)
                refine lv_aload_n hx hb dX10_sat_81 rfl (lv_at hl 0 rfl) ?_
                refine tg_mem (ci := 10) (C := RX10) (T := TX10) (N := 49) hx hb hts inX10 hown hK hw 1 m_u_46 rfl (by decide) (hts _ tw_1138) (fun _ h9 => h9) dX10_sat_82 ?_
                refine lv_iconst (v := 2) hx hb dX10_sat_85 (by decide) ?_
                refine tg_imem hx hb hK hw h_vu_46 rfl rl_2 (by decide) m_v_51 dX10_sat_86 ?_
                refine lv_sipush (v := 255) hx hb dX10_sat_87 (by decide) ?_
                refine lv_icmp_ne (tgt := 97) hx hb dX10_sat_90 (by decide) (fun c_90 => ?_) (fun c_90 => ?_)
                · refine lv_aload_n hx hb dX10_sat_97 rfl (lv_at hl 0 rfl) ?_
                  refine tg_mem (ci := 10) (C := RX10) (T := TX10) (N := 49) hx hb hts inX10 hown hK hw 1 m_u_46 rfl (by decide) (hts _ tw_1138) (fun _ h9 => h9) dX10_sat_98 ?_
                  refine lv_iconst (v := 2) hx hb dX10_sat_101 (by decide) ?_
                  refine tg_imem hx hb hK hw h_vu_46 rfl rl_2 (by decide) m_v_51 dX10_sat_102 ?_
                  exact B103 v_51 0 v_45 ws _ _ ls (r_v_51.to (by decide)) rl_0 n_k_42 r_v_45 m_v_45 x_T0_p0 hw hl
                · have r_v_51 : RI v_51 255 5 := rc_eq1 r_v_51 rl_255 (ti_eq c_90) (by decide)
                  exact (r_v_51.no (by decide)).elim
              · have r_v_58 : RI v_58 1 1 := rc_neL r_v_58 rl_0 (ti_ne c_76) (by decide)
                refine lv_iconst (v := (-1)) hx hb dX10_sat_79 (by decide) ?_
                subst hQ
                exact W.iret (v := (-1)) hx hb hr (fun t ht hW => ⟨⟨(-1), ws, rfl, ⟨⟨rl_m1.to (by decide), (fun _ => trivial), (fun h0 => trivial)⟩, hw.1, hw.2.2.2.2.1⟩, by rw [ht]; exact hw.2.1, va_K.moved hW.alike hK, hw.2.2.1⟩, hw.2.2.2.1.F ht⟩) hw.2.2.2.1.2.2 dX10_sat_80
abbrev wr_X10_sitters : List (Nat × Nat) := [(10, 0), (10, 27)]
abbrev wa_X10_sitters : List Nat := [34, 38, 46]
set_option maxHeartbeats 4000000 in
set_option maxRecDepth 100000 in
theorem c_X10_sitters (l : Launch) (D : va_G) (cy : Nat → ClassId) (z : Nat → Nat) (sz : Nat) (Ps : PSI) (w0 : va_W) (hT : HT cy GG Ps w0) (p0 : Nat) (p1 : Int32) (p2 : Int32) (p3 : Int32) (h_p0 : (p0, 55) ∈ Ps) (r_p1 : RI p1 (-2147483648) 2147483647) (r_p2 : RI p2 (-2147483648) 2147483647) (r_p3 : RI p3 (-2147483648) 2147483647) : Met l yX10_sitters (Cond.code yX10_sitters cX10_sitters 7 (some .int) :: gT) ({ frames := 6, cells := 0, slots := 0, locals := 1200 } : Room) (va_Pc [.ref p0, .int p1, .int p2, .int p3] (PRE D cy z w0 sz)) (va_Qi (fun (r : Int32) (u : va_W) => (RI r (-2147483648) 2147483647 ∧ (r = 0 → True) ∧ (¬ r = 0 → True)) ∧ HT cy GG Ps u ∧ FR wr_X10_sitters wa_X10_sitters Ps w0 u) (BB D cy (va_A w0 sz) (fun (u : va_W) => u)) (va_A w0 sz)) 0 0 (va_A w0 sz) := by
  refine Met.ofW (cc := cX10_sitters) (maxL := 7) (ret := (some .int)) (by decide) rfl ?_
  intro p e s m args below meth c s₁ B hml hv
  obtain ⟨rfl, hsz, hP, hK, hD0, hSD⟩ := hv
  have hx := B.exec
  have hb := B.bytes
  have hr := B.returns
  have hlocks := B.notSynchronized
  have hts : ∀ w ∈ gT, w.before _ s = true := fun w h => atoms_spec (ws := Cond.code yX10_sitters cX10_sitters 7 (some .int) :: gT) B.pre w (List.mem_cons_of_mem _ h)
  have hown : s.vm.findClass RX10 = some m.cls := findClass_of_methodNamed B.named
  subst hsz
  have hD := hD0.self (sz := s.heap.size)
  generalize hAe : va_A w0 s.heap.size = A at hD hSD ⊢
  have hA : ∀ q : Nat, s.heap.size ≤ q → A q := fun q h => by rw [← hAe]; exact Or.inr h
  have hl := lv_entry ([.ref p0, .int p1, .int p2, .int p3]) (n := 7) (Nat.le_of_ble_eq_true rfl)
  rw [lg_entry_eq]
  generalize (lg_sl ([.ref p0, .int p1, .int p2, .int p3]) ++ List.replicate (7 - (lg_sl ([.ref p0, .int p1, .int p2, .int p3])).length) Slot.unset).toArray = ls at hl ⊢
  have hl : lv_has ls 7 [(0, .ref p0), (1, .int p1), (2, .int p2), (3, .int p3)] := hl
  refine nameQ (fun Q hQ => ?_)
  have hw : WD D cy GG A s wr_X10_sitters wa_X10_sitters Ps w0 Ps w0 s.heap [] := ⟨hT, hP, hD, va_S.rf, FR.rf, hT.1, [], (List.append_nil _).symm⟩
  have B66 : ∀ (nf : Nat) (x4 : Int32) (x5 : Int32) (z0_0 : Int32) (ws : va_W) (H : Heap) (locs : List Loc) (ls : Array Slot), 256 - x5.toInt < (nf : Int) → RI p1 0 5 → RI p2 0 5 → RI p3 1 30 → RI x4 (-1) 255 → RI x5 0 256 → RI z0_0 0 0 → FLD ws p0 10 0 (.int z0_0) → WD D cy GG A s wr_X10_sitters wa_X10_sitters Ps w0 Ps ws H locs → lv_has ls 7 [(0, .ref p0), (1, .int p1), (2, .int p2), (3, .int p3), (4, .int x4), (5, .int x5)] → W p l e (headSpec (Cond.code yX10_sitters cX10_sitters 7 (some .int) :: gT) ({ frames := 6, cells := 0, slots := 0, locals := 1200 } : Room)).room s m ([.ref p0, .int p1, .int p2, .int p3] : List Value).toArray below meth c H locs 0 0 Q (F0 m 66 ls []) := by
    intro nf66
    induction nf66 with
    | zero =>
      intro x4 x5 z0_0 ws H locs ls hn66 r_p1 r_p2 r_p3 r_x4 r_x5 r_z0_0 m_z0_0 hw hl
      exact absurd hn66 (by have q0 := r_x5.1; have u0 := r_x5.2; omega)
    | succ nf66 ih66 =>
      have B189 : ∀ (x4 : Int32) (x5 : Int32) (x6 : Int32) (z0_0 : Int32) (ws : va_W) (H : Heap) (locs : List Loc) (ls : Array Slot), RI p1 0 5 → RI p2 0 5 → RI p3 1 30 → RI x4 (-1) 255 → RI x5 0 255 → RI x6 0 8 → RI z0_0 0 0 → FLD ws p0 10 0 (.int z0_0) → 256 - x5.toInt < ((nf66 + 1 : Nat) : Int) → WD D cy GG A s wr_X10_sitters wa_X10_sitters Ps w0 Ps ws H locs → lv_has ls 7 [(0, .ref p0), (1, .int p1), (2, .int p2), (3, .int p3), (4, .int x4), (5, .int x5), (6, .int x6)] → W p l e (headSpec (Cond.code yX10_sitters cX10_sitters 7 (some .int) :: gT) ({ frames := 6, cells := 0, slots := 0, locals := 1200 } : Room)).room s m ([.ref p0, .int p1, .int p2, .int p3] : List Value).toArray below meth c H locs 0 0 Q (F0 m 189 ls []) := by
        intro x4 x5 x6 z0_0 ws H locs ls r_p1 r_p2 r_p3 r_x4 r_x5 r_x6 r_z0_0 m_z0_0 hn66 hw hl
        refine lv_aload_n hx hb dX10_sitters_189 rfl (lv_at hl 0 rfl) ?_
        refine tk_v (va_runV (As := []) (rest := []) ⟨hx, hb, hml, hown, hts⟩ (c_X10_takeBack l D cy z H.size Ps ws hw.1 p0 h_p0) (cwV 0 hts (gV tw_1587 tw_1589 ts_89 tw_15 tw_1590) rfl rfl rfl (by decide +kernel) ⟨Nat.le_of_ble_eq_true rfl, Nat.le_of_ble_eq_true rfl⟩) (tg_preV hw hK hSD hA (ci := 10) (q := (RX10, TX10, 49)) rfl h_p0 rfl) rfl rfl hl.1 rfl (lv_room (Nat.le_of_ble_eq_true rfl)) dX10_sitters_190 ⟨Nat.le_of_ble_eq_true rfl, Nat.le_of_ble_eq_true rfl⟩) hw hA ⟨by decide, by decide⟩ (fun ws H locs hp_v_1 hw hF9 => ?_)
        have m_z0_0 := FLD.over hF9 m_z0_0 (by decide)
        obtain ⟨v_2, e_v_2⟩ : ∃ q9 : Int32, q9 = x5 + Int32.ofInt 1 := ⟨_, rfl⟩
        obtain ⟨t_v_2, r_v_2⟩ := tq_add (lo := 1) (hi := 256) r_x5 (show RI (Int32.ofInt 1) 1 1 by unfold RI; decide +kernel) (by decide +kernel) e_v_2
        have t_v_2 : v_2.toInt = x5.toInt + 1 := t_v_2
        refine lv_iinc (v := v_2) (lv' := [(5, .int v_2), (0, .ref p0), (1, .int p1), (2, .int p2), (3, .int p3), (4, .int x4), (6, .int x6)]) hx hb dX10_sitters_193 hl (k := 5) rfl e_v_2.symm (by decide) rfl (fun ls hl => ?_)
        refine lv_goto (tgt := 66) hx hb dX10_sitters_196 (by decide) ?_
        exact ih66 x4 v_2 z0_0 ws _ _ ls (by have q0 := r_v_2.1; have u0 := r_v_2.2; have o0 := r_x5.1; have p0 := r_x5.2; omega) r_p1 r_p2 r_p3 r_x4 (r_v_2.to (by decide)) r_z0_0 m_z0_0 hw (lv_sub hl [1, 2, 3, 4, 5, 0] rfl)
      have B104 : ∀ (nf : Nat) (x4 : Int32) (x5 : Int32) (x6 : Int32) (z0_0 : Int32) (ws : va_W) (H : Heap) (locs : List Loc) (ls : Array Slot), 8 - x6.toInt < (nf : Int) → RI p1 0 5 → RI p2 0 5 → RI p3 1 30 → RI x4 (-1) 255 → RI x5 0 255 → RI x6 0 8 → RI z0_0 0 0 → FLD ws p0 10 0 (.int z0_0) → 256 - x5.toInt < ((nf66 + 1 : Nat) : Int) → WD D cy GG A s wr_X10_sitters wa_X10_sitters Ps w0 Ps ws H locs → lv_has ls 7 [(0, .ref p0), (1, .int p1), (2, .int p2), (3, .int p3), (4, .int x4), (5, .int x5), (6, .int x6)] → W p l e (headSpec (Cond.code yX10_sitters cX10_sitters 7 (some .int) :: gT) ({ frames := 6, cells := 0, slots := 0, locals := 1200 } : Room)).room s m ([.ref p0, .int p1, .int p2, .int p3] : List Value).toArray below meth c H locs 0 0 Q (F0 m 104 ls []) := by
        intro nf104
        induction nf104 with
        | zero =>
          intro x4 x5 x6 z0_0 ws H locs ls hn104 r_p1 r_p2 r_p3 r_x4 r_x5 r_x6 r_z0_0 m_z0_0 hn66 hw hl
          exact absurd hn104 (by have q0 := r_x6.1; have u0 := r_x6.2; omega)
        | succ nf104 ih104 =>
          intro x4 x5 x6 z0_0 ws H locs ls hn104 r_p1 r_p2 r_p3 r_x4 r_x5 r_x6 r_z0_0 m_z0_0 hn66 hw hl
          refine lv_iload hx hb dX10_sitters_104 (lv_at hl 6 rfl) ?_
          refine lv_aload_n hx hb dX10_sitters_106 rfl (lv_at hl 0 rfl) ?_
          refine tg_get (ci := 10) (ts := ty_MODEL) (C := RX10) (T := TX10) (N := 49) hx hb hts inX10 hown hK hw h_p0 rfl rfl 14 (by decide) (hts _ tw_1151) (fun _ h9 => h9) (ft := vR 34) rfl dX10_sitters_107 (fun u_3 hv_u_3 m_u_3 => ?_)
          obtain ⟨vu_3, rfl, h_vu_3⟩ := hv_u_3
          refine lv_iconst (v := 3) hx hb dX10_sitters_110 (by decide) ?_
          refine tg_iald (lo := 0) (hi := 8) hx hb hK hw h_vu_3 rfl 3 3 rl_3 (by decide) (by decide +kernel) dX10_sitters_111 (fun v_4 r_v_4 m_v_4 o_v_4 => ?_)
          refine lv_icmp_ge (tgt := 170) hx hb dX10_sitters_112 (by decide) (fun c_112 => ?_) (fun c_112 => ?_)
          · refine lv_aload_n hx hb dX10_sitters_170 rfl (lv_at hl 0 rfl) ?_
            refine lv_iload_n hx hb dX10_sitters_171 rfl (lv_at hl 3 rfl) ?_
            refine tk_i (va_runV (As := [.int p3]) (rest := []) ⟨hx, hb, hml, hown, hts⟩ (c_X10_passDays l D cy z H.size Ps ws hw.1 p0 p3 h_p0 (r_p3.to (by decide))) (cwV 1 hts (gV tw_1560 tw_1562 ts_84 tw_15 tw_1563) rfl rfl rfl (by decide +kernel) ⟨Nat.le_of_ble_eq_true rfl, Nat.le_of_ble_eq_true rfl⟩) (tg_preV hw hK hSD hA (ci := 10) (q := (RX10, TX10, 49)) rfl h_p0 rfl) rfl rfl hl.1 rfl (lv_room (Nat.le_of_ble_eq_true rfl)) dX10_sitters_172 ⟨Nat.le_of_ble_eq_true rfl, Nat.le_of_ble_eq_true rfl⟩) hw hA ⟨by decide, by decide⟩ (fun v_5 ws H locs hp_v_5 hw hF9 => ?_)
            have m_z0_0 := FLD.over hF9 m_z0_0 (by decide)
            have r_v_5 : RI v_5 (-2147483648) 2147483647 := hp_v_5.1
            refine lv_pop hx hb dX10_sitters_175 rfl ?_
            refine lv_aload_n hx hb dX10_sitters_176 rfl (lv_at hl 0 rfl) ?_
            refine lv_iload_n hx hb dX10_sitters_177 rfl (lv_at hl 1 rfl) ?_
            refine tk_ir (va_runV (As := [.int p1]) (rest := []) ⟨hx, hb, hml, hown, hts⟩ (c_X10_whatIs l D cy z H.size Ps ws hw.1 p0 p1 h_p0 r_p1) (cwV 1 hts (gV tw_1449 tw_1451 ts_69 tw_15 tw_1452) rfl rfl rfl (by decide +kernel) ⟨Nat.le_of_ble_eq_true rfl, Nat.le_of_ble_eq_true rfl⟩) (tg_preV hw hK hSD hA (ci := 10) (q := (RX10, TX10, 49)) rfl h_p0 rfl) rfl rfl hl.1 rfl (lv_room (Nat.le_of_ble_eq_true rfl)) dX10_sitters_178 ⟨Nat.le_of_ble_eq_true rfl, Nat.le_of_ble_eq_true rfl⟩) hw hA (fun v_6  H locs hp_v_6 hw => ?_)
            have r_v_6 : RI v_6 (-1) 5 := hp_v_6.1
            by_cases c9_v_6 : v_6.toInt < 0
            · have r_v_6 : RI v_6 (-1) (-1) := by unfold RI at r_v_6 ⊢; omega
              have x_NB_p0_p1 := (hp_v_6.2.2.2.2.1 (by omega)).1
              refine lv_iload_n hx hb dX10_sitters_181 rfl (lv_at hl 2 rfl) ?_
              refine lv_icmp_ne (tgt := 189) hx hb dX10_sitters_182 (by decide) (fun c_182 => ?_) (fun c_182 => ?_)
              · exact B189 x4 x5 x6 z0_0 ws _ _ ls r_p1 r_p2 r_p3 r_x4 r_x5 r_x6 r_z0_0 m_z0_0 (by have q0 := r_x5.1; have u0 := r_x5.2; omega) hw hl
              · have r_v_6 : RI v_6 0 (-1) := rc_eq1 r_v_6 r_p2 (ti_eq c_182) (by decide)
                have r_p2 : RI p2 0 (-1) := rc_eq2 r_v_6 r_p2 (ti_eq c_182) (by decide)
                exact (r_v_6.no (by decide)).elim
            · have r_v_6 : RI v_6 0 5 := by unfold RI at r_v_6 ⊢; omega
              have x_WB_p0_p1_v_6 := (hp_v_6.2.2.2.2.2 (by omega)).1
              refine lv_iload_n hx hb dX10_sitters_181 rfl (lv_at hl 2 rfl) ?_
              refine lv_icmp_ne (tgt := 189) hx hb dX10_sitters_182 (by decide) (fun c_182 => ?_) (fun c_182 => ?_)
              · exact B189 x4 x5 x6 z0_0 ws _ _ ls r_p1 r_p2 r_p3 r_x4 r_x5 r_x6 r_z0_0 m_z0_0 (by have q0 := r_x5.1; have u0 := r_x5.2; omega) hw hl
              · refine lv_iload hx hb dX10_sitters_185 (lv_at hl 5 rfl) ?_
                refine lv_istore (lv' := [(4, .int x5), (0, .ref p0), (1, .int p1), (2, .int p2), (3, .int p3), (5, .int x5), (6, .int x6)]) hx hb dX10_sitters_187 hl (by decide) rfl (fun ls hl => ?_)
                exact B189 x5 x5 x6 z0_0 ws _ _ ls r_p1 r_p2 r_p3 (r_x5.to (by decide)) r_x5 r_x6 r_z0_0 m_z0_0 (by have q0 := r_x5.1; have u0 := r_x5.2; omega) hw (lv_sub hl [1, 2, 3, 4, 0, 5, 6] rfl)
          · have r_x6 : RI x6 0 7 := rc_lt1 r_x6 r_v_4 (ti_nle c_112) (by decide)
            have r_v_4 : RI v_4 1 8 := rc_lt2 r_x6 r_v_4 (ti_nle c_112) (by decide)
            refine lv_iload hx hb dX10_sitters_115 (lv_at hl 5 rfl) ?_
            refine lv_iload hx hb dX10_sitters_117 (lv_at hl 6 rfl) ?_
            refine tk_ir (va_runS (As := [.int x5, .int x6]) (rest := []) ⟨hx, hb, hml, hown, hts⟩ (c_X10_has__3 l D cy z H.size Ps ws hw.1 x5 x6 r_x5 r_x6) (va_cwS 2 hts (gS tw_1402 tw_1403 tw_15 tw_1404) rfl rfl rfl (by decide +kernel) ⟨Nat.le_of_ble_eq_true rfl, Nat.le_of_ble_eq_true rfl⟩) (tg_preS hw hK hSD hA) rfl rfl hl.1 rfl (lv_room (Nat.le_of_ble_eq_true rfl)) dX10_sitters_119 ⟨Nat.le_of_ble_eq_true rfl, Nat.le_of_ble_eq_true rfl⟩) hw hA (fun v_7  H locs hp_v_7 hw => ?_)
            have r_v_7 : RI v_7 0 1 := hp_v_7.1
            refine lv_if_eq (tgt := 139) hx hb dX10_sitters_122 (by decide) (fun c_122 => ?_) (fun c_122 => ?_)
            · have r_v_7 : RI v_7 0 0 := rc_eq1 r_v_7 rl_0 (ti_eq c_122) (by decide)
              refine lv_aload_n hx hb dX10_sitters_139 rfl (lv_at hl 0 rfl) ?_
              refine tg_mem (ci := 10) (C := RX10) (T := TX10) (N := 49) hx hb hts inX10 hown hK hw 14 m_u_3 rfl (by decide) (hts _ tw_1151) (fun _ h9 => h9) dX10_sitters_140 ?_
              refine lv_bipush (v := 112) hx hb dX10_sitters_143 (by decide) ?_
              refine lv_iload hx hb dX10_sitters_145 (lv_at hl 6 rfl) ?_
              refine lv_iadd hx hb dX10_sitters_147 (lv_topi (fun v_8 e_v_8 => ?_))
              obtain ⟨t_v_8, r_v_8⟩ := tq_add (lo := 112) (hi := 119) rl_112 r_x6 (by decide +kernel) e_v_8
              have t_v_8 : v_8.toInt = 112 + x6.toInt := t_v_8
              refine tg_iald (lo := (-1)) (hi := 5) hx hb hK hw h_vu_3 rfl 112 119 r_v_8 (by decide) (by decide +kernel) dX10_sitters_148 (fun v_9 r_v_9 m_v_9 o_v_9 => ?_)
              refine lv_iload_n hx hb dX10_sitters_149 rfl (lv_at hl 1 rfl) ?_
              refine lv_icmp_ne (tgt := 164) hx hb dX10_sitters_150 (by decide) (fun c_150 => ?_) (fun c_150 => ?_)
              · obtain ⟨v_10, e_v_10⟩ : ∃ q9 : Int32, q9 = x6 + Int32.ofInt 1 := ⟨_, rfl⟩
                obtain ⟨t_v_10, r_v_10⟩ := tq_add (lo := 1) (hi := 8) r_x6 (show RI (Int32.ofInt 1) 1 1 by unfold RI; decide +kernel) (by decide +kernel) e_v_10
                have t_v_10 : v_10.toInt = x6.toInt + 1 := t_v_10
                refine lv_iinc (v := v_10) (lv' := [(6, .int v_10), (0, .ref p0), (1, .int p1), (2, .int p2), (3, .int p3), (4, .int x4), (5, .int x5)]) hx hb dX10_sitters_164 hl (k := 6) rfl e_v_10.symm (by decide) rfl (fun ls hl => ?_)
                refine lv_goto (tgt := 104) hx hb dX10_sitters_167 (by decide) ?_
                exact ih104 x4 x5 v_10 z0_0 ws _ _ ls (by have q0 := r_v_10.1; have u0 := r_v_10.2; have o0 := r_x6.1; have p0 := r_x6.2; omega) r_p1 r_p2 r_p3 r_x4 r_x5 (r_v_10.to (by decide)) r_z0_0 m_z0_0 (by have q0 := r_x5.1; have u0 := r_x5.2; omega) hw (lv_sub hl [1, 2, 3, 4, 5, 6, 0] rfl)
              · have r_v_9 : RI v_9 0 5 := rc_eq1 r_v_9 r_p1 (ti_eq c_150) (by decide)
                refine lv_aload_n hx hb dX10_sitters_153 rfl (lv_at hl 0 rfl) ?_
                refine tg_mem (ci := 10) (C := RX10) (T := TX10) (N := 49) hx hb hts inX10 hown hK hw 14 m_u_3 rfl (by decide) (hts _ tw_1151) (fun _ h9 => h9) dX10_sitters_154 ?_
                refine lv_bipush (v := 112) hx hb dX10_sitters_157 (by decide) ?_
                refine lv_iload hx hb dX10_sitters_159 (lv_at hl 6 rfl) ?_
                refine lv_iadd hx hb dX10_sitters_161 (lv_topi (fun v_11 e_v_11 => ?_))
                obtain ⟨t_v_11, r_v_11⟩ := tq_add (lo := 112) (hi := 119) rl_112 r_x6 (by decide +kernel) e_v_11
                have t_v_11 : v_11.toInt = 112 + x6.toInt := t_v_11
                refine lv_iconst (v := (-1)) hx hb dX10_sitters_162 (by decide) ?_
                refine tg_iast hx hb hK hw h_vu_3 rfl 112 119 r_v_11 (by decide) rl_m1 (by decide +kernel) (RN_upd (by decide) (by decide)) (by decide) dX10_sitters_163 (fun ws H locs hw hF9 hU9 => ?_)
                have m_z0_0 := FLD.over hF9 m_z0_0 (by decide)
                obtain ⟨v_12, e_v_12⟩ : ∃ q9 : Int32, q9 = x6 + Int32.ofInt 1 := ⟨_, rfl⟩
                obtain ⟨t_v_12, r_v_12⟩ := tq_add (lo := 1) (hi := 8) r_x6 (show RI (Int32.ofInt 1) 1 1 by unfold RI; decide +kernel) (by decide +kernel) e_v_12
                have t_v_12 : v_12.toInt = x6.toInt + 1 := t_v_12
                refine lv_iinc (v := v_12) (lv' := [(6, .int v_12), (0, .ref p0), (1, .int p1), (2, .int p2), (3, .int p3), (4, .int x4), (5, .int x5)]) hx hb dX10_sitters_164 hl (k := 6) rfl e_v_12.symm (by decide) rfl (fun ls hl => ?_)
                refine lv_goto (tgt := 104) hx hb dX10_sitters_167 (by decide) ?_
                exact ih104 x4 x5 v_12 z0_0 ws _ _ ls (by have q0 := r_v_12.1; have u0 := r_v_12.2; have o0 := r_x6.1; have p0 := r_x6.2; omega) r_p1 r_p2 r_p3 r_x4 r_x5 (r_v_12.to (by decide)) r_z0_0 m_z0_0 (by have q0 := r_x5.1; have u0 := r_x5.2; omega) hw (lv_sub hl [1, 2, 3, 4, 5, 6, 0] rfl)
            · have r_v_7 : RI v_7 1 1 := rc_neL r_v_7 rl_0 (ti_ne c_122) (by decide)
              refine lv_aload_n hx hb dX10_sitters_125 rfl (lv_at hl 0 rfl) ?_
              refine tg_mem (ci := 10) (C := RX10) (T := TX10) (N := 49) hx hb hts inX10 hown hK hw 14 m_u_3 rfl (by decide) (hts _ tw_1151) (fun _ h9 => h9) dX10_sitters_126 ?_
              refine lv_bipush (v := 112) hx hb dX10_sitters_129 (by decide) ?_
              refine lv_iload hx hb dX10_sitters_131 (lv_at hl 6 rfl) ?_
              refine lv_iadd hx hb dX10_sitters_133 (lv_topi (fun v_13 e_v_13 => ?_))
              obtain ⟨t_v_13, r_v_13⟩ := tq_add (lo := 112) (hi := 119) rl_112 r_x6 (by decide +kernel) e_v_13
              have t_v_13 : v_13.toInt = 112 + x6.toInt := t_v_13
              refine lv_iload_n hx hb dX10_sitters_134 rfl (lv_at hl 1 rfl) ?_
              refine tg_iast hx hb hK hw h_vu_3 rfl 112 119 r_v_13 (by decide) r_p1 (by decide +kernel) (RN_upd (by decide) (by decide)) (by decide) dX10_sitters_135 (fun ws H locs hw hF9 hU9 => ?_)
              have m_z0_0 := FLD.over hF9 m_z0_0 (by decide)
              refine lv_goto (tgt := 164) hx hb dX10_sitters_136 (by decide) ?_
              obtain ⟨v_14, e_v_14⟩ : ∃ q9 : Int32, q9 = x6 + Int32.ofInt 1 := ⟨_, rfl⟩
              obtain ⟨t_v_14, r_v_14⟩ := tq_add (lo := 1) (hi := 8) r_x6 (show RI (Int32.ofInt 1) 1 1 by unfold RI; decide +kernel) (by decide +kernel) e_v_14
              have t_v_14 : v_14.toInt = x6.toInt + 1 := t_v_14
              refine lv_iinc (v := v_14) (lv' := [(6, .int v_14), (0, .ref p0), (1, .int p1), (2, .int p2), (3, .int p3), (4, .int x4), (5, .int x5)]) hx hb dX10_sitters_164 hl (k := 6) rfl e_v_14.symm (by decide) rfl (fun ls hl => ?_)
              refine lv_goto (tgt := 104) hx hb dX10_sitters_167 (by decide) ?_
              exact ih104 x4 x5 v_14 z0_0 ws _ _ ls (by have q0 := r_v_14.1; have u0 := r_v_14.2; have o0 := r_x6.1; have p0 := r_x6.2; omega) r_p1 r_p2 r_p3 r_x4 r_x5 (r_v_14.to (by decide)) r_z0_0 m_z0_0 (by have q0 := r_x5.1; have u0 := r_x5.2; omega) hw (lv_sub hl [1, 2, 3, 4, 5, 6, 0] rfl)
      have B101 : ∀ (x4 : Int32) (x5 : Int32) (z0_0 : Int32) (ws : va_W) (H : Heap) (locs : List Loc) (ls : Array Slot), RI p1 0 5 → RI p2 0 5 → RI p3 1 30 → RI x4 (-1) 255 → RI x5 0 255 → RI z0_0 0 0 → FLD ws p0 10 0 (.int z0_0) → 256 - x5.toInt < ((nf66 + 1 : Nat) : Int) → WD D cy GG A s wr_X10_sitters wa_X10_sitters Ps w0 Ps ws H locs → lv_has ls 7 [(0, .ref p0), (1, .int p1), (2, .int p2), (3, .int p3), (4, .int x4), (5, .int x5)] → W p l e (headSpec (Cond.code yX10_sitters cX10_sitters 7 (some .int) :: gT) ({ frames := 6, cells := 0, slots := 0, locals := 1200 } : Room)).room s m ([.ref p0, .int p1, .int p2, .int p3] : List Value).toArray below meth c H locs 0 0 Q (F0 m 101 ls []) := by
        intro x4 x5 z0_0 ws H locs ls r_p1 r_p2 r_p3 r_x4 r_x5 r_z0_0 m_z0_0 hn66 hw hl
        refine lv_iconst (v := 0) hx hb dX10_sitters_101 (by decide) ?_
        refine lv_istore (lv' := [(6, .int 0), (0, .ref p0), (1, .int p1), (2, .int p2), (3, .int p3), (4, .int x4), (5, .int x5)]) hx hb dX10_sitters_102 hl (by decide) rfl (fun ls hl => ?_)
        exact B104 4294967298 x4 x5 0 z0_0 ws _ _ ls (by have q0 := rl_0.1; have u0 := rl_0.2; omega) r_p1 r_p2 r_p3 r_x4 r_x5 (rl_0.to (by decide)) r_z0_0 m_z0_0 (by have q0 := r_x5.1; have u0 := r_x5.2; omega) hw (lv_sub hl [1, 2, 3, 4, 5, 6, 0] rfl)
      intro x4 x5 z0_0 ws H locs ls hn66 r_p1 r_p2 r_p3 r_x4 r_x5 r_z0_0 m_z0_0 hw hl
      refine lv_iload hx hb dX10_sitters_66 (lv_at hl 5 rfl) ?_
      refine lv_iconst (v := 1) hx hb dX10_sitters_68 (by decide) ?_
      refine lv_aload_n hx hb dX10_sitters_69 rfl (lv_at hl 0 rfl) ?_
      refine tg_get (ci := 10) (ts := ty_MODEL) (C := RX10) (T := TX10) (N := 49) hx hb hts inX10 hown hK hw h_p0 rfl rfl 14 (by decide) (hts _ tw_1151) (fun _ h9 => h9) (ft := vR 34) rfl dX10_sitters_70 (fun u_15 hv_u_15 m_u_15 => ?_)
      obtain ⟨vu_15, rfl, h_vu_15⟩ := hv_u_15
      refine lv_iconst (v := 3) hx hb dX10_sitters_73 (by decide) ?_
      refine tg_iald (lo := 0) (hi := 8) hx hb hK hw h_vu_15 rfl 3 3 rl_3 (by decide) (by decide +kernel) dX10_sitters_74 (fun v_16 r_v_16 m_v_16 o_v_16 => ?_)
      refine lv_ishl hx hb dX10_sitters_75 (lv_topi (fun v_17 e_v_17 => ?_))
      have r_v_17 : RI v_17 1 256 := by rw [e_v_17]; exact ri_shl1 (r_v_16.to (c := 0) (d := 8) (by decide)) (by decide)
      refine lv_icmp_ge (tgt := 199) hx hb dX10_sitters_76 (by decide) (fun c_76 => ?_) (fun c_76 => ?_)
      · have r_x5 : RI x5 1 256 := rc_le2 r_v_17 r_x5 (ti_le c_76) (by decide)
        refine lv_iload hx hb dX10_sitters_199 (lv_at hl 4 rfl) ?_
        refine lv_iconst (v := (-1)) hx hb dX10_sitters_201 (by decide) ?_
        refine lv_icmp_ne (tgt := 207) hx hb dX10_sitters_202 (by decide) (fun c_202 => ?_) (fun c_202 => ?_)
        · have r_x4 : RI x4 0 255 := rc_neL r_x4 rl_m1 (ti_ne c_202) (by decide)
          refine lv_aload_n hx hb dX10_sitters_207 rfl (lv_at hl 0 rfl) ?_
          refine lv_iload hx hb dX10_sitters_208 (lv_at hl 4 rfl) ?_
          refine tg_put (ci := 10) (ts := ty_MODEL) (v := .int x4) (ty := .int) (C := RX10) (T := TX10) (N := 49) hx hb hts inX10 tyX10 tyX10_ok nmX10 hown hK hw h_p0 rfl rfl 27 (by decide) (hts _ tw_1164) (fun _ h9 => h9) rfl (by decide +kernel) rfl rfl (ft := vI (-2147483648) 2147483647) rfl ⟨_, rfl, (r_x4.to (by decide))⟩ (by decide) dX10_sitters_210 (fun ws H locs hw n_k_18 hF9 => ?_)
          have m_z0_0 := FLD.over hF9 m_z0_0 (by decide)
          refine lv_iload hx hb dX10_sitters_213 (lv_at hl 4 rfl) ?_
          refine tk_ir (va_runS (As := [.int x4]) (rest := []) ⟨hx, hb, hml, hown, hts⟩ (c_X10_bits l D cy z H.size Ps ws hw.1 x4 (r_x4.to (by decide))) (va_cwS 1 hts (gS tw_1576 tw_1577 tw_15 tw_1578) rfl rfl rfl (by decide +kernel) ⟨Nat.le_of_ble_eq_true rfl, Nat.le_of_ble_eq_true rfl⟩) (tg_preS hw hK hSD hA) rfl rfl hl.1 rfl (lv_room (Nat.le_of_ble_eq_true rfl)) dX10_sitters_215 ⟨Nat.le_of_ble_eq_true rfl, Nat.le_of_ble_eq_true rfl⟩) hw hA (fun v_19  H locs hp_v_19 hw => ?_)
          have r_v_19 : RI v_19 (-2147483648) 2147483647 := hp_v_19.1
          subst hQ
          exact W.iret (v := v_19) hx hb hr (fun t ht hW => ⟨⟨v_19, ws, rfl, ⟨⟨r_v_19.to (by decide), (fun h0 => trivial), (fun h0 => trivial)⟩, hw.1, hw.2.2.2.2.1⟩, by rw [ht]; exact hw.2.1, va_K.moved hW.alike hK, hw.2.2.1⟩, hw.2.2.2.1.F ht⟩) hw.2.2.2.1.2.2 dX10_sitters_218
        · have r_x4 : RI x4 (-1) (-1) := rc_eq1 r_x4 rl_m1 (ti_eq c_202) (by decide)
          refine lv_iconst (v := (-1)) hx hb dX10_sitters_205 (by decide) ?_
          subst hQ
          exact W.iret (v := (-1)) hx hb hr (fun t ht hW => ⟨⟨(-1), ws, rfl, ⟨⟨rl_m1.to (by decide), (fun _ => trivial), (fun h0 => trivial)⟩, hw.1, hw.2.2.2.2.1⟩, by rw [ht]; exact hw.2.1, va_K.moved hW.alike hK, hw.2.2.1⟩, hw.2.2.2.1.F ht⟩) hw.2.2.2.1.2.2 dX10_sitters_206
      · have r_x5 : RI x5 0 255 := rc_lt1 r_x5 r_v_17 (ti_nle c_76) (by decide)
        refine lv_iload hx hb dX10_sitters_79 (lv_at hl 4 rfl) ?_
        refine lv_iconst (v := (-1)) hx hb dX10_sitters_81 (by decide) ?_
        refine lv_icmp_eq (tgt := 101) hx hb dX10_sitters_82 (by decide) (fun c_82 => ?_) (fun c_82 => ?_)
        · have r_x4 : RI x4 (-1) (-1) := rc_eq1 r_x4 rl_m1 (ti_eq c_82) (by decide)
          exact B101 x4 x5 z0_0 ws _ _ ls r_p1 r_p2 r_p3 (r_x4.to (by decide)) r_x5 r_z0_0 m_z0_0 (by have q0 := r_x5.1; have u0 := r_x5.2; omega) hw hl
        · have r_x4 : RI x4 0 255 := rc_neL r_x4 rl_m1 (ti_ne c_82) (by decide)
          refine lv_iload hx hb dX10_sitters_85 (lv_at hl 5 rfl) ?_
          refine tk_ir (va_runS (As := [.int x5]) (rest := []) ⟨hx, hb, hml, hown, hts⟩ (c_X10_bits l D cy z H.size Ps ws hw.1 x5 (r_x5.to (by decide))) (va_cwS 1 hts (gS tw_1576 tw_1577 tw_15 tw_1578) rfl rfl rfl (by decide +kernel) ⟨Nat.le_of_ble_eq_true rfl, Nat.le_of_ble_eq_true rfl⟩) (tg_preS hw hK hSD hA) rfl rfl hl.1 rfl (lv_room (Nat.le_of_ble_eq_true rfl)) dX10_sitters_87 ⟨Nat.le_of_ble_eq_true rfl, Nat.le_of_ble_eq_true rfl⟩) hw hA (fun v_20  H locs hp_v_20 hw => ?_)
          have r_v_20 : RI v_20 (-2147483648) 2147483647 := hp_v_20.1
          refine lv_iload hx hb dX10_sitters_90 (lv_at hl 4 rfl) ?_
          refine tk_ir (va_runS (As := [.int x4]) (rest := [.int v_20]) ⟨hx, hb, hml, hown, hts⟩ (c_X10_bits l D cy z H.size Ps ws hw.1 x4 (r_x4.to (by decide))) (va_cwS 1 hts (gS tw_1576 tw_1577 tw_15 tw_1578) rfl rfl rfl (by decide +kernel) ⟨Nat.le_of_ble_eq_true rfl, Nat.le_of_ble_eq_true rfl⟩) (tg_preS hw hK hSD hA) rfl rfl hl.1 rfl (lv_room (Nat.le_of_ble_eq_true rfl)) dX10_sitters_92 ⟨Nat.le_of_ble_eq_true rfl, Nat.le_of_ble_eq_true rfl⟩) hw hA (fun v_21  H locs hp_v_21 hw => ?_)
          have r_v_21 : RI v_21 (-2147483648) 2147483647 := hp_v_21.1
          refine lv_icmp_lt (tgt := 101) hx hb dX10_sitters_95 (by decide) (fun c_95 => ?_) (fun c_95 => ?_)
          · have r_v_20 : RI v_20 (-2147483648) 2147483646 := rc_lt1 r_v_20 r_v_21 (ti_lt c_95) (by decide)
            have r_v_21 : RI v_21 (-2147483647) 2147483647 := rc_lt2 r_v_20 r_v_21 (ti_lt c_95) (by decide)
            exact B101 x4 x5 z0_0 ws _ _ ls r_p1 r_p2 r_p3 (r_x4.to (by decide)) r_x5 r_z0_0 m_z0_0 (by have q0 := r_x5.1; have u0 := r_x5.2; omega) hw hl
          · refine lv_goto (tgt := 193) hx hb dX10_sitters_98 (by decide) ?_
            obtain ⟨v_22, e_v_22⟩ : ∃ q9 : Int32, q9 = x5 + Int32.ofInt 1 := ⟨_, rfl⟩
            obtain ⟨t_v_22, r_v_22⟩ := tq_add (lo := 1) (hi := 256) r_x5 (show RI (Int32.ofInt 1) 1 1 by unfold RI; decide +kernel) (by decide +kernel) e_v_22
            have t_v_22 : v_22.toInt = x5.toInt + 1 := t_v_22
            refine lv_iinc (v := v_22) (lv' := [(5, .int v_22), (0, .ref p0), (1, .int p1), (2, .int p2), (3, .int p3), (4, .int x4)]) hx hb dX10_sitters_193 hl (k := 5) rfl e_v_22.symm (by decide) rfl (fun ls hl => ?_)
            refine lv_goto (tgt := 66) hx hb dX10_sitters_196 (by decide) ?_
            exact ih66 x4 v_22 z0_0 ws _ _ ls (by have q0 := r_v_22.1; have u0 := r_v_22.2; have o0 := r_x5.1; have p0 := r_x5.2; omega) r_p1 r_p2 r_p3 (r_x4.to (by decide)) (r_v_22.to (by decide)) r_z0_0 m_z0_0 hw (lv_sub hl [1, 2, 3, 4, 5, 0] rfl)
  refine lv_aload_n hx hb dX10_sitters_0 rfl (lv_at hl 0 rfl) ?_
  refine lv_iconst (v := 0) hx hb dX10_sitters_1 (by decide) ?_
  refine tg_put (ci := 10) (ts := ty_MODEL) (v := .int 0) (ty := .int) (C := RX10) (T := TX10) (N := 49) hx hb hts inX10 tyX10 tyX10_ok nmX10 hown hK hw h_p0 rfl rfl 0 (by decide) (hts _ tw_1137) (fun _ h9 => h9) rfl (by decide +kernel) rfl rfl (ft := vI (-2147483648) 2147483647) rfl ⟨_, rfl, (rl_0.to (by decide))⟩ (by decide) dX10_sitters_2 (fun ws H locs hw n_k_23 hF9 => ?_)
  refine lv_aload_n hx hb dX10_sitters_5 rfl (lv_at hl 0 rfl) ?_
  refine lv_iload_n hx hb dX10_sitters_6 rfl (lv_at hl 1 rfl) ?_
  refine tk_ir (va_runV (As := [.int p1]) (rest := []) ⟨hx, hb, hml, hown, hts⟩ (c_X10_isParcel l D cy z H.size Ps ws hw.1 p0 p1 h_p0 r_p1) (cwV 1 hts (gV tw_1429 tw_1431 ts_65 tw_15 tw_1432) rfl rfl rfl (by decide +kernel) ⟨Nat.le_of_ble_eq_true rfl, Nat.le_of_ble_eq_true rfl⟩) (tg_preV hw hK hSD hA (ci := 10) (q := (RX10, TX10, 49)) rfl h_p0 rfl) rfl rfl hl.1 rfl (lv_room (Nat.le_of_ble_eq_true rfl)) dX10_sitters_7 ⟨Nat.le_of_ble_eq_true rfl, Nat.le_of_ble_eq_true rfl⟩) hw hA (fun v_24  H locs hp_v_24 hw => ?_)
  have r_v_24 : RI v_24 0 1 := hp_v_24.1
  refine lv_if_eq (tgt := 54) hx hb dX10_sitters_10 (by decide) (fun c_10 => ?_) (fun c_10 => ?_)
  · have r_v_24 : RI v_24 0 0 := rc_eq1 r_v_24 rl_0 (ti_eq c_10) (by decide)
    refine lv_iconst (v := (-1)) hx hb dX10_sitters_54 (by decide) ?_
    subst hQ
    exact W.iret (v := (-1)) hx hb hr (fun t ht hW => ⟨⟨(-1), ws, rfl, ⟨⟨rl_m1.to (by decide), (fun _ => trivial), (fun h0 => trivial)⟩, hw.1, hw.2.2.2.2.1⟩, by rw [ht]; exact hw.2.1, va_K.moved hW.alike hK, hw.2.2.1⟩, hw.2.2.2.1.F ht⟩) hw.2.2.2.1.2.2 dX10_sitters_55
  · have r_v_24 : RI v_24 1 1 := rc_neL r_v_24 rl_0 (ti_ne c_10) (by decide)
    have r_p1 : RI p1 0 5 := ((hp_v_24.2.2 c_10).1)
    refine lv_aload_n hx hb dX10_sitters_13 rfl (lv_at hl 0 rfl) ?_
    refine lv_iload_n hx hb dX10_sitters_14 rfl (lv_at hl 2 rfl) ?_
    refine tk_ir (va_runV (As := [.int p2]) (rest := []) ⟨hx, hb, hml, hown, hts⟩ (c_X10_isIdea l D cy z H.size Ps ws hw.1 p0 p2 h_p0 r_p2) (cwV 1 hts (gV tw_1433 tw_1435 ts_66 tw_15 tw_1436) rfl rfl rfl (by decide +kernel) ⟨Nat.le_of_ble_eq_true rfl, Nat.le_of_ble_eq_true rfl⟩) (tg_preV hw hK hSD hA (ci := 10) (q := (RX10, TX10, 49)) rfl h_p0 rfl) rfl rfl hl.1 rfl (lv_room (Nat.le_of_ble_eq_true rfl)) dX10_sitters_15 ⟨Nat.le_of_ble_eq_true rfl, Nat.le_of_ble_eq_true rfl⟩) hw hA (fun v_25  H locs hp_v_25 hw => ?_)
    have r_v_25 : RI v_25 0 1 := hp_v_25.1
    refine lv_if_eq (tgt := 54) hx hb dX10_sitters_18 (by decide) (fun c_18 => ?_) (fun c_18 => ?_)
    · have r_v_25 : RI v_25 0 0 := rc_eq1 r_v_25 rl_0 (ti_eq c_18) (by decide)
      refine lv_iconst (v := (-1)) hx hb dX10_sitters_54 (by decide) ?_
      subst hQ
      exact W.iret (v := (-1)) hx hb hr (fun t ht hW => ⟨⟨(-1), ws, rfl, ⟨⟨rl_m1.to (by decide), (fun _ => trivial), (fun h0 => trivial)⟩, hw.1, hw.2.2.2.2.1⟩, by rw [ht]; exact hw.2.1, va_K.moved hW.alike hK, hw.2.2.1⟩, hw.2.2.2.1.F ht⟩) hw.2.2.2.1.2.2 dX10_sitters_55
    · have r_v_25 : RI v_25 1 1 := rc_neL r_v_25 rl_0 (ti_ne c_18) (by decide)
      have r_p2 : RI p2 0 5 := ((hp_v_25.2.2 c_18).1)
      refine lv_iload_n hx hb dX10_sitters_21 rfl (lv_at hl 3 rfl) ?_
      refine lv_iconst (v := 1) hx hb dX10_sitters_22 (by decide) ?_
      refine lv_bipush (v := 30) hx hb dX10_sitters_23 (by decide) ?_
      refine tk_ir (va_runS (As := [.int p3, .int 1, .int 30]) (rest := []) ⟨hx, hb, hml, hown, hts⟩ (c_X10_isIn__6 l D cy z H.size Ps ws hw.1 p3 1 30 r_p3 rl_1 rl_30) (va_cwS 3 hts (gS tw_1359 tw_1360 tw_15 tw_1361) rfl rfl rfl (by decide +kernel) ⟨Nat.le_of_ble_eq_true rfl, Nat.le_of_ble_eq_true rfl⟩) (tg_preS hw hK hSD hA) rfl rfl hl.1 rfl (lv_room (Nat.le_of_ble_eq_true rfl)) dX10_sitters_25 ⟨Nat.le_of_ble_eq_true rfl, Nat.le_of_ble_eq_true rfl⟩) hw hA (fun v_26  H locs hp_v_26 hw => ?_)
      have r_v_26 : RI v_26 0 1 := hp_v_26.1
      refine lv_if_eq (tgt := 54) hx hb dX10_sitters_28 (by decide) (fun c_28 => ?_) (fun c_28 => ?_)
      · have r_v_26 : RI v_26 0 0 := rc_eq1 r_v_26 rl_0 (ti_eq c_28) (by decide)
        refine lv_iconst (v := (-1)) hx hb dX10_sitters_54 (by decide) ?_
        subst hQ
        exact W.iret (v := (-1)) hx hb hr (fun t ht hW => ⟨⟨(-1), ws, rfl, ⟨⟨rl_m1.to (by decide), (fun _ => trivial), (fun h0 => trivial)⟩, hw.1, hw.2.2.2.2.1⟩, by rw [ht]; exact hw.2.1, va_K.moved hW.alike hK, hw.2.2.1⟩, hw.2.2.2.1.F ht⟩) hw.2.2.2.1.2.2 dX10_sitters_55
      · have r_v_26 : RI v_26 1 1 := rc_neL r_v_26 rl_0 (ti_ne c_28) (by decide)
        have r_p3 : RI p3 1 30 := ((hp_v_26.2.2 c_28).1)
        refine lv_aload_n hx hb dX10_sitters_31 rfl (lv_at hl 0 rfl) ?_
        refine lv_iload_n hx hb dX10_sitters_32 rfl (lv_at hl 1 rfl) ?_
        refine tk_ir (va_runV (As := [.int p1]) (rest := []) ⟨hx, hb, hml, hown, hts⟩ (c_X10_isOpen l D cy z H.size Ps ws hw.1 p0 p1 h_p0 (r_p1.to (by decide))) (cwV 1 hts (gV tw_1457 tw_1459 ts_71 tw_15 tw_1460) rfl rfl rfl (by decide +kernel) ⟨Nat.le_of_ble_eq_true rfl, Nat.le_of_ble_eq_true rfl⟩) (tg_preV hw hK hSD hA (ci := 10) (q := (RX10, TX10, 49)) rfl h_p0 rfl) rfl rfl hl.1 rfl (lv_room (Nat.le_of_ble_eq_true rfl)) dX10_sitters_33 ⟨Nat.le_of_ble_eq_true rfl, Nat.le_of_ble_eq_true rfl⟩) hw hA (fun v_27  H locs hp_v_27 hw => ?_)
        have r_v_27 : RI v_27 0 1 := hp_v_27.1
        refine lv_if_ne (tgt := 54) hx hb dX10_sitters_36 (by decide) (fun c_36 => ?_) (fun c_36 => ?_)
        · have r_v_27 : RI v_27 1 1 := rc_neL r_v_27 rl_0 (ti_ne c_36) (by decide)
          refine lv_iconst (v := (-1)) hx hb dX10_sitters_54 (by decide) ?_
          subst hQ
          exact W.iret (v := (-1)) hx hb hr (fun t ht hW => ⟨⟨(-1), ws, rfl, ⟨⟨rl_m1.to (by decide), (fun _ => trivial), (fun h0 => trivial)⟩, hw.1, hw.2.2.2.2.1⟩, by rw [ht]; exact hw.2.1, va_K.moved hW.alike hK, hw.2.2.1⟩, hw.2.2.2.1.F ht⟩) hw.2.2.2.1.2.2 dX10_sitters_55
        · have r_v_27 : RI v_27 0 0 := rc_eq1 r_v_27 rl_0 (ti_eq c_36) (by decide)
          refine lv_aload_n hx hb dX10_sitters_39 rfl (lv_at hl 0 rfl) ?_
          refine tg_get (ci := 10) (ts := ty_MODEL) (C := RX10) (T := TX10) (N := 49) hx hb hts inX10 hown hK hw h_p0 rfl rfl 14 (by decide) (hts _ tw_1151) (fun _ h9 => h9) (ft := vR 34) rfl dX10_sitters_40 (fun u_28 hv_u_28 m_u_28 => ?_)
          obtain ⟨vu_28, rfl, h_vu_28⟩ := hv_u_28
          refine lv_bipush (v := 84) hx hb dX10_sitters_43 (by decide) ?_
          refine tg_iald (lo := (-2147483648)) (hi := 2147483647) hx hb hK hw h_vu_28 rfl 84 84 rl_84 (by decide) (by decide +kernel) dX10_sitters_45 (fun v_29 r_v_29 m_v_29 o_v_29 => ?_)
          refine lv_iload_n hx hb dX10_sitters_46 rfl (lv_at hl 3 rfl) ?_
          refine lv_iadd hx hb dX10_sitters_47 (lv_topi (fun v_30 e_v_30 => ?_))
          have r_v_30 := ri_any v_30
          refine lv_sipush (v := 400) hx hb dX10_sitters_48 (by decide) ?_
          refine lv_icmp_le (tgt := 56) hx hb dX10_sitters_51 (by decide) (fun c_51 => ?_) (fun c_51 => ?_)
          · have r_v_30 : RI v_30 (-2147483648) 400 := rc_le1 r_v_30 rl_400 (ti_le c_51) (by decide)
            refine lv_aload_n hx hb dX10_sitters_56 rfl (lv_at hl 0 rfl) ?_
            refine tk_v (va_runV (As := []) (rest := []) ⟨hx, hb, hml, hown, hts⟩ (c_X10_layAside l D cy z H.size Ps ws hw.1 p0 h_p0) (cwV 0 hts (gV tw_1583 tw_1585 ts_88 tw_15 tw_1586) rfl rfl rfl (by decide +kernel) ⟨Nat.le_of_ble_eq_true rfl, Nat.le_of_ble_eq_true rfl⟩) (tg_preV hw hK hSD hA (ci := 10) (q := (RX10, TX10, 49)) rfl h_p0 rfl) rfl rfl hl.1 rfl (lv_room (Nat.le_of_ble_eq_true rfl)) dX10_sitters_57 ⟨Nat.le_of_ble_eq_true rfl, Nat.le_of_ble_eq_true rfl⟩) hw hA ⟨by decide, by decide⟩ (fun ws H locs hp_v_31 hw hF9 => ?_)
            have n_k_23 := FLD.over hF9 n_k_23 (by decide)
            refine lv_iconst (v := (-1)) hx hb dX10_sitters_60 (by decide) ?_
            refine lv_istore (lv' := [(4, .int (-1)), (0, .ref p0), (1, .int p1), (2, .int p2), (3, .int p3)]) hx hb dX10_sitters_61 hl (by decide) rfl (fun ls hl => ?_)
            refine lv_iconst (v := 0) hx hb dX10_sitters_63 (by decide) ?_
            refine lv_istore (lv' := [(5, .int 0), (4, .int (-1)), (0, .ref p0), (1, .int p1), (2, .int p2), (3, .int p3)]) hx hb dX10_sitters_64 hl (by decide) rfl (fun ls hl => ?_)
            exact B66 4294967298 (-1) 0 0 ws _ _ ls (by have q0 := rl_0.1; have u0 := rl_0.2; omega) r_p1 r_p2 r_p3 (rl_m1.to (by decide)) (rl_0.to (by decide)) rl_0 n_k_23 hw (lv_sub hl [2, 3, 4, 5, 1, 0] rfl)
          · have r_v_30 : RI v_30 401 2147483647 := rc_lt2 rl_400 r_v_30 (ti_nle c_51) (by decide)
            refine lv_iconst (v := (-1)) hx hb dX10_sitters_54 (by decide) ?_
            subst hQ
            exact W.iret (v := (-1)) hx hb hr (fun t ht hW => ⟨⟨(-1), ws, rfl, ⟨⟨rl_m1.to (by decide), (fun _ => trivial), (fun h0 => trivial)⟩, hw.1, hw.2.2.2.2.1⟩, by rw [ht]; exact hw.2.1, va_K.moved hW.alike hK, hw.2.2.1⟩, hw.2.2.2.1.F ht⟩) hw.2.2.2.1.2.2 dX10_sitters_55
abbrev wr_X10_write : List (Nat × Nat) := [(10, 38)]
abbrev wa_X10_write : List Nat := [51]
set_option maxHeartbeats 4000000 in
set_option maxRecDepth 100000 in
theorem c_X10_write (l : Launch) (D : va_G) (cy : Nat → ClassId) (z : Nat → Nat) (sz : Nat) (Ps : PSI) (w0 : va_W) (hT : HT cy GG Ps w0) (p0 : Nat) (p1 : Int32) (f0_38 : Int32) (h_p0 : (p0, 55) ∈ Ps) (r_p1 : RI p1 (-2147483648) 2147483647) (r_f0_38 : RI f0_38 4 17) (m_f0_38 : FLD w0 p0 10 38 (.int f0_38)) : Met l yX10_write (Cond.code yX10_write cX10_write 2 none :: gT) ({ frames := 0, cells := 0, slots := 0, locals := 200 } : Room) (va_Pc [.ref p0, .int p1] (PRE D cy z w0 sz)) (va_Qv (fun (u : va_W) => ((∃ v9 : Int32, FLD u p0 10 38 (.int v9) ∧ RI v9 5 18) ∧ True) ∧ HT cy GG Ps u ∧ FR wr_X10_write wa_X10_write Ps w0 u) (BB D cy (va_A w0 sz) (fun (u : va_W) => u)) (va_A w0 sz)) 0 0 (va_A w0 sz) := by
  refine Met.ofW (cc := cX10_write) (maxL := 2) (ret := none) (by decide) rfl ?_
  intro p e s m args below meth c s₁ B hml hv
  obtain ⟨rfl, hsz, hP, hK, hD0, hSD⟩ := hv
  have hx := B.exec
  have hb := B.bytes
  have hr := B.returns
  have hlocks := B.notSynchronized
  have hts : ∀ w ∈ gT, w.before _ s = true := fun w h => atoms_spec (ws := Cond.code yX10_write cX10_write 2 none :: gT) B.pre w (List.mem_cons_of_mem _ h)
  have hown : s.vm.findClass RX10 = some m.cls := findClass_of_methodNamed B.named
  subst hsz
  have hD := hD0.self (sz := s.heap.size)
  generalize hAe : va_A w0 s.heap.size = A at hD hSD ⊢
  have hA : ∀ q : Nat, s.heap.size ≤ q → A q := fun q h => by rw [← hAe]; exact Or.inr h
  have hl := lv_entry ([.ref p0, .int p1]) (n := 2) (Nat.le_of_ble_eq_true rfl)
  rw [lg_entry_eq]
  generalize (lg_sl ([.ref p0, .int p1]) ++ List.replicate (2 - (lg_sl ([.ref p0, .int p1])).length) Slot.unset).toArray = ls at hl ⊢
  have hl : lv_has ls 2 [(0, .ref p0), (1, .int p1)] := hl
  refine nameQ (fun Q hQ => ?_)
  have hw : WD D cy GG A s wr_X10_write wa_X10_write Ps w0 Ps w0 s.heap [] := ⟨hT, hP, hD, va_S.rf, FR.rf, hT.1, [], (List.append_nil _).symm⟩
  refine lv_aload_n hx hb dX10_write_0 rfl (lv_at hl 0 rfl) ?_
  refine tg_get (ci := 10) (ts := ty_MODEL) (C := RX10) (T := TX10) (N := 49) hx hb hts inX10 hown hK hw h_p0 rfl rfl 37 (by decide) (hts _ tw_1174) (fun _ h9 => h9) (ft := vR 51) rfl dX10_write_1 (fun u_1 hv_u_1 m_u_1 => ?_)
  obtain ⟨vu_1, rfl, h_vu_1⟩ := hv_u_1
  refine lv_aload_n hx hb dX10_write_4 rfl (lv_at hl 0 rfl) ?_
  refine tg_mem (ci := 10) (C := RX10) (T := TX10) (N := 49) hx hb hts inX10 hown hK hw 38 m_f0_38 rfl (by decide) (hts _ tw_1175) (fun _ h9 => h9) dX10_write_5 ?_
  refine lv_iload_n hx hb dX10_write_8 rfl (lv_at hl 1 rfl) ?_
  refine tg_iast hx hb hK hw h_vu_1 rfl 4 17 r_f0_38 (by decide) r_p1 (by exact fun _ _ _ => by decide) (fun _ _ _ _ _ => trivial) (by decide) dX10_write_9 (fun ws H locs hw hF9 hU9 => ?_)
  have m_f0_38 := FLD.over hF9 m_f0_38 (by decide)
  refine lv_aload_n hx hb dX10_write_10 rfl (lv_at hl 0 rfl) ?_
  refine lv_dup hx hb dX10_write_11 rfl ?_
  refine tg_mem (ci := 10) (C := RX10) (T := TX10) (N := 49) hx hb hts inX10 hown hK hw 38 m_f0_38 rfl (by decide) (hts _ tw_1175) (fun _ h9 => h9) dX10_write_12 ?_
  refine lv_iconst (v := 1) hx hb dX10_write_15 (by decide) ?_
  refine lv_iadd hx hb dX10_write_16 (lv_topi (fun v_2 e_v_2 => ?_))
  obtain ⟨t_v_2, r_v_2⟩ := tq_add (lo := 5) (hi := 18) r_f0_38 rl_1 (by decide +kernel) e_v_2
  have t_v_2 : v_2.toInt = f0_38.toInt + 1 := t_v_2
  refine tg_put (ci := 10) (ts := ty_MODEL) (v := .int v_2) (ty := .int) (C := RX10) (T := TX10) (N := 49) hx hb hts inX10 tyX10 tyX10_ok nmX10 hown hK hw h_p0 rfl rfl 38 (by decide) (hts _ tw_1175) (fun _ h9 => h9) rfl (by decide +kernel) rfl rfl (ft := vI 0 64) rfl ⟨_, rfl, (r_v_2.to (by decide))⟩ (by decide) dX10_write_17 (fun ws H locs hw n_k_3 hF9 => ?_)
  subst hQ
  exact W.vret hx hb hr (fun t ht hW => ⟨⟨ws, rfl, ⟨⟨⟨_, n_k_3, r_v_2⟩, trivial⟩, hw.1, hw.2.2.2.2.1⟩, by rw [ht]; exact hw.2.1, va_K.moved hW.alike hK, hw.2.2.1⟩, hw.2.2.2.1.F ht⟩) hw.2.2.2.1.2.2 dX10_write_20
abbrev wr_X10_write__1 : List (Nat × Nat) := [(10, 38)]
abbrev wa_X10_write__1 : List Nat := [51]
set_option maxHeartbeats 4000000 in
set_option maxRecDepth 100000 in
theorem c_X10_write__1 (l : Launch) (D : va_G) (cy : Nat → ClassId) (z : Nat → Nat) (sz : Nat) (Ps : PSI) (w0 : va_W) (hT : HT cy GG Ps w0) (p0 : Nat) (p1 : Int32) (f0_38 : Int32) (h_p0 : (p0, 55) ∈ Ps) (r_p1 : RI p1 (-2147483648) 2147483647) (r_f0_38 : RI f0_38 5 31) (m_f0_38 : FLD w0 p0 10 38 (.int f0_38)) : Met l yX10_write (Cond.code yX10_write cX10_write 2 none :: gT) ({ frames := 0, cells := 0, slots := 0, locals := 200 } : Room) (va_Pc [.ref p0, .int p1] (PRE D cy z w0 sz)) (va_Qv (fun (u : va_W) => ((∃ v9 : Int32, FLD u p0 10 38 (.int v9) ∧ RI v9 6 32) ∧ True) ∧ HT cy GG Ps u ∧ FR wr_X10_write__1 wa_X10_write__1 Ps w0 u) (BB D cy (va_A w0 sz) (fun (u : va_W) => u)) (va_A w0 sz)) 0 0 (va_A w0 sz) := by
  refine Met.ofW (cc := cX10_write) (maxL := 2) (ret := none) (by decide) rfl ?_
  intro p e s m args below meth c s₁ B hml hv
  obtain ⟨rfl, hsz, hP, hK, hD0, hSD⟩ := hv
  have hx := B.exec
  have hb := B.bytes
  have hr := B.returns
  have hlocks := B.notSynchronized
  have hts : ∀ w ∈ gT, w.before _ s = true := fun w h => atoms_spec (ws := Cond.code yX10_write cX10_write 2 none :: gT) B.pre w (List.mem_cons_of_mem _ h)
  have hown : s.vm.findClass RX10 = some m.cls := findClass_of_methodNamed B.named
  subst hsz
  have hD := hD0.self (sz := s.heap.size)
  generalize hAe : va_A w0 s.heap.size = A at hD hSD ⊢
  have hA : ∀ q : Nat, s.heap.size ≤ q → A q := fun q h => by rw [← hAe]; exact Or.inr h
  have hl := lv_entry ([.ref p0, .int p1]) (n := 2) (Nat.le_of_ble_eq_true rfl)
  rw [lg_entry_eq]
  generalize (lg_sl ([.ref p0, .int p1]) ++ List.replicate (2 - (lg_sl ([.ref p0, .int p1])).length) Slot.unset).toArray = ls at hl ⊢
  have hl : lv_has ls 2 [(0, .ref p0), (1, .int p1)] := hl
  refine nameQ (fun Q hQ => ?_)
  have hw : WD D cy GG A s wr_X10_write__1 wa_X10_write__1 Ps w0 Ps w0 s.heap [] := ⟨hT, hP, hD, va_S.rf, FR.rf, hT.1, [], (List.append_nil _).symm⟩
  refine lv_aload_n hx hb dX10_write_0 rfl (lv_at hl 0 rfl) ?_
  refine tg_get (ci := 10) (ts := ty_MODEL) (C := RX10) (T := TX10) (N := 49) hx hb hts inX10 hown hK hw h_p0 rfl rfl 37 (by decide) (hts _ tw_1174) (fun _ h9 => h9) (ft := vR 51) rfl dX10_write_1 (fun u_1 hv_u_1 m_u_1 => ?_)
  obtain ⟨vu_1, rfl, h_vu_1⟩ := hv_u_1
  refine lv_aload_n hx hb dX10_write_4 rfl (lv_at hl 0 rfl) ?_
  refine tg_mem (ci := 10) (C := RX10) (T := TX10) (N := 49) hx hb hts inX10 hown hK hw 38 m_f0_38 rfl (by decide) (hts _ tw_1175) (fun _ h9 => h9) dX10_write_5 ?_
  refine lv_iload_n hx hb dX10_write_8 rfl (lv_at hl 1 rfl) ?_
  refine tg_iast hx hb hK hw h_vu_1 rfl 5 31 r_f0_38 (by decide) r_p1 (by exact fun _ _ _ => by decide) (fun _ _ _ _ _ => trivial) (by decide) dX10_write_9 (fun ws H locs hw hF9 hU9 => ?_)
  have m_f0_38 := FLD.over hF9 m_f0_38 (by decide)
  refine lv_aload_n hx hb dX10_write_10 rfl (lv_at hl 0 rfl) ?_
  refine lv_dup hx hb dX10_write_11 rfl ?_
  refine tg_mem (ci := 10) (C := RX10) (T := TX10) (N := 49) hx hb hts inX10 hown hK hw 38 m_f0_38 rfl (by decide) (hts _ tw_1175) (fun _ h9 => h9) dX10_write_12 ?_
  refine lv_iconst (v := 1) hx hb dX10_write_15 (by decide) ?_
  refine lv_iadd hx hb dX10_write_16 (lv_topi (fun v_2 e_v_2 => ?_))
  obtain ⟨t_v_2, r_v_2⟩ := tq_add (lo := 6) (hi := 32) r_f0_38 rl_1 (by decide +kernel) e_v_2
  have t_v_2 : v_2.toInt = f0_38.toInt + 1 := t_v_2
  refine tg_put (ci := 10) (ts := ty_MODEL) (v := .int v_2) (ty := .int) (C := RX10) (T := TX10) (N := 49) hx hb hts inX10 tyX10 tyX10_ok nmX10 hown hK hw h_p0 rfl rfl 38 (by decide) (hts _ tw_1175) (fun _ h9 => h9) rfl (by decide +kernel) rfl rfl (ft := vI 0 64) rfl ⟨_, rfl, (r_v_2.to (by decide))⟩ (by decide) dX10_write_17 (fun ws H locs hw n_k_3 hF9 => ?_)
  subst hQ
  exact W.vret hx hb hr (fun t ht hW => ⟨⟨ws, rfl, ⟨⟨⟨_, n_k_3, r_v_2⟩, trivial⟩, hw.1, hw.2.2.2.2.1⟩, by rw [ht]; exact hw.2.1, va_K.moved hW.alike hK, hw.2.2.1⟩, hw.2.2.2.1.F ht⟩) hw.2.2.2.1.2.2 dX10_write_20
abbrev wr_X10_write__2 : List (Nat × Nat) := [(10, 38)]
abbrev wa_X10_write__2 : List Nat := [51]
set_option maxHeartbeats 4000000 in
set_option maxRecDepth 100000 in
theorem c_X10_write__2 (l : Launch) (D : va_G) (cy : Nat → ClassId) (z : Nat → Nat) (sz : Nat) (Ps : PSI) (w0 : va_W) (hT : HT cy GG Ps w0) (p0 : Nat) (p1 : Int32) (f0_38 : Int32) (h_p0 : (p0, 55) ∈ Ps) (r_p1 : RI p1 (-2147483648) 2147483647) (r_f0_38 : RI f0_38 5 30) (m_f0_38 : FLD w0 p0 10 38 (.int f0_38)) : Met l yX10_write (Cond.code yX10_write cX10_write 2 none :: gT) ({ frames := 0, cells := 0, slots := 0, locals := 200 } : Room) (va_Pc [.ref p0, .int p1] (PRE D cy z w0 sz)) (va_Qv (fun (u : va_W) => ((∃ v9 : Int32, FLD u p0 10 38 (.int v9) ∧ RI v9 6 31) ∧ True) ∧ HT cy GG Ps u ∧ FR wr_X10_write__2 wa_X10_write__2 Ps w0 u) (BB D cy (va_A w0 sz) (fun (u : va_W) => u)) (va_A w0 sz)) 0 0 (va_A w0 sz) := by
  refine Met.ofW (cc := cX10_write) (maxL := 2) (ret := none) (by decide) rfl ?_
  intro p e s m args below meth c s₁ B hml hv
  obtain ⟨rfl, hsz, hP, hK, hD0, hSD⟩ := hv
  have hx := B.exec
  have hb := B.bytes
  have hr := B.returns
  have hlocks := B.notSynchronized
  have hts : ∀ w ∈ gT, w.before _ s = true := fun w h => atoms_spec (ws := Cond.code yX10_write cX10_write 2 none :: gT) B.pre w (List.mem_cons_of_mem _ h)
  have hown : s.vm.findClass RX10 = some m.cls := findClass_of_methodNamed B.named
  subst hsz
  have hD := hD0.self (sz := s.heap.size)
  generalize hAe : va_A w0 s.heap.size = A at hD hSD ⊢
  have hA : ∀ q : Nat, s.heap.size ≤ q → A q := fun q h => by rw [← hAe]; exact Or.inr h
  have hl := lv_entry ([.ref p0, .int p1]) (n := 2) (Nat.le_of_ble_eq_true rfl)
  rw [lg_entry_eq]
  generalize (lg_sl ([.ref p0, .int p1]) ++ List.replicate (2 - (lg_sl ([.ref p0, .int p1])).length) Slot.unset).toArray = ls at hl ⊢
  have hl : lv_has ls 2 [(0, .ref p0), (1, .int p1)] := hl
  refine nameQ (fun Q hQ => ?_)
  have hw : WD D cy GG A s wr_X10_write__2 wa_X10_write__2 Ps w0 Ps w0 s.heap [] := ⟨hT, hP, hD, va_S.rf, FR.rf, hT.1, [], (List.append_nil _).symm⟩
  refine lv_aload_n hx hb dX10_write_0 rfl (lv_at hl 0 rfl) ?_
  refine tg_get (ci := 10) (ts := ty_MODEL) (C := RX10) (T := TX10) (N := 49) hx hb hts inX10 hown hK hw h_p0 rfl rfl 37 (by decide) (hts _ tw_1174) (fun _ h9 => h9) (ft := vR 51) rfl dX10_write_1 (fun u_1 hv_u_1 m_u_1 => ?_)
  obtain ⟨vu_1, rfl, h_vu_1⟩ := hv_u_1
  refine lv_aload_n hx hb dX10_write_4 rfl (lv_at hl 0 rfl) ?_
  refine tg_mem (ci := 10) (C := RX10) (T := TX10) (N := 49) hx hb hts inX10 hown hK hw 38 m_f0_38 rfl (by decide) (hts _ tw_1175) (fun _ h9 => h9) dX10_write_5 ?_
  refine lv_iload_n hx hb dX10_write_8 rfl (lv_at hl 1 rfl) ?_
  refine tg_iast hx hb hK hw h_vu_1 rfl 5 30 r_f0_38 (by decide) r_p1 (by exact fun _ _ _ => by decide) (fun _ _ _ _ _ => trivial) (by decide) dX10_write_9 (fun ws H locs hw hF9 hU9 => ?_)
  have m_f0_38 := FLD.over hF9 m_f0_38 (by decide)
  refine lv_aload_n hx hb dX10_write_10 rfl (lv_at hl 0 rfl) ?_
  refine lv_dup hx hb dX10_write_11 rfl ?_
  refine tg_mem (ci := 10) (C := RX10) (T := TX10) (N := 49) hx hb hts inX10 hown hK hw 38 m_f0_38 rfl (by decide) (hts _ tw_1175) (fun _ h9 => h9) dX10_write_12 ?_
  refine lv_iconst (v := 1) hx hb dX10_write_15 (by decide) ?_
  refine lv_iadd hx hb dX10_write_16 (lv_topi (fun v_2 e_v_2 => ?_))
  obtain ⟨t_v_2, r_v_2⟩ := tq_add (lo := 6) (hi := 31) r_f0_38 rl_1 (by decide +kernel) e_v_2
  have t_v_2 : v_2.toInt = f0_38.toInt + 1 := t_v_2
  refine tg_put (ci := 10) (ts := ty_MODEL) (v := .int v_2) (ty := .int) (C := RX10) (T := TX10) (N := 49) hx hb hts inX10 tyX10 tyX10_ok nmX10 hown hK hw h_p0 rfl rfl 38 (by decide) (hts _ tw_1175) (fun _ h9 => h9) rfl (by decide +kernel) rfl rfl (ft := vI 0 64) rfl ⟨_, rfl, (r_v_2.to (by decide))⟩ (by decide) dX10_write_17 (fun ws H locs hw n_k_3 hF9 => ?_)
  subst hQ
  exact W.vret hx hb hr (fun t ht hW => ⟨⟨ws, rfl, ⟨⟨⟨_, n_k_3, r_v_2⟩, trivial⟩, hw.1, hw.2.2.2.2.1⟩, by rw [ht]; exact hw.2.1, va_K.moved hW.alike hK, hw.2.2.1⟩, hw.2.2.2.1.F ht⟩) hw.2.2.2.1.2.2 dX10_write_20
abbrev wr_X10_write__3 : List (Nat × Nat) := [(10, 38)]
abbrev wa_X10_write__3 : List Nat := [51]
set_option maxHeartbeats 4000000 in
set_option maxRecDepth 100000 in
theorem c_X10_write__3 (l : Launch) (D : va_G) (cy : Nat → ClassId) (z : Nat → Nat) (sz : Nat) (Ps : PSI) (w0 : va_W) (hT : HT cy GG Ps w0) (p0 : Nat) (p1 : Int32) (f0_38 : Int32) (h_p0 : (p0, 55) ∈ Ps) (r_p1 : RI p1 (-2147483648) 2147483647) (r_f0_38 : RI f0_38 5 29) (m_f0_38 : FLD w0 p0 10 38 (.int f0_38)) : Met l yX10_write (Cond.code yX10_write cX10_write 2 none :: gT) ({ frames := 0, cells := 0, slots := 0, locals := 200 } : Room) (va_Pc [.ref p0, .int p1] (PRE D cy z w0 sz)) (va_Qv (fun (u : va_W) => ((∃ v9 : Int32, FLD u p0 10 38 (.int v9) ∧ RI v9 6 30) ∧ True) ∧ HT cy GG Ps u ∧ FR wr_X10_write__3 wa_X10_write__3 Ps w0 u) (BB D cy (va_A w0 sz) (fun (u : va_W) => u)) (va_A w0 sz)) 0 0 (va_A w0 sz) := by
  refine Met.ofW (cc := cX10_write) (maxL := 2) (ret := none) (by decide) rfl ?_
  intro p e s m args below meth c s₁ B hml hv
  obtain ⟨rfl, hsz, hP, hK, hD0, hSD⟩ := hv
  have hx := B.exec
  have hb := B.bytes
  have hr := B.returns
  have hlocks := B.notSynchronized
  have hts : ∀ w ∈ gT, w.before _ s = true := fun w h => atoms_spec (ws := Cond.code yX10_write cX10_write 2 none :: gT) B.pre w (List.mem_cons_of_mem _ h)
  have hown : s.vm.findClass RX10 = some m.cls := findClass_of_methodNamed B.named
  subst hsz
  have hD := hD0.self (sz := s.heap.size)
  generalize hAe : va_A w0 s.heap.size = A at hD hSD ⊢
  have hA : ∀ q : Nat, s.heap.size ≤ q → A q := fun q h => by rw [← hAe]; exact Or.inr h
  have hl := lv_entry ([.ref p0, .int p1]) (n := 2) (Nat.le_of_ble_eq_true rfl)
  rw [lg_entry_eq]
  generalize (lg_sl ([.ref p0, .int p1]) ++ List.replicate (2 - (lg_sl ([.ref p0, .int p1])).length) Slot.unset).toArray = ls at hl ⊢
  have hl : lv_has ls 2 [(0, .ref p0), (1, .int p1)] := hl
  refine nameQ (fun Q hQ => ?_)
  have hw : WD D cy GG A s wr_X10_write__3 wa_X10_write__3 Ps w0 Ps w0 s.heap [] := ⟨hT, hP, hD, va_S.rf, FR.rf, hT.1, [], (List.append_nil _).symm⟩
  refine lv_aload_n hx hb dX10_write_0 rfl (lv_at hl 0 rfl) ?_
  refine tg_get (ci := 10) (ts := ty_MODEL) (C := RX10) (T := TX10) (N := 49) hx hb hts inX10 hown hK hw h_p0 rfl rfl 37 (by decide) (hts _ tw_1174) (fun _ h9 => h9) (ft := vR 51) rfl dX10_write_1 (fun u_1 hv_u_1 m_u_1 => ?_)
  obtain ⟨vu_1, rfl, h_vu_1⟩ := hv_u_1
  refine lv_aload_n hx hb dX10_write_4 rfl (lv_at hl 0 rfl) ?_
  refine tg_mem (ci := 10) (C := RX10) (T := TX10) (N := 49) hx hb hts inX10 hown hK hw 38 m_f0_38 rfl (by decide) (hts _ tw_1175) (fun _ h9 => h9) dX10_write_5 ?_
  refine lv_iload_n hx hb dX10_write_8 rfl (lv_at hl 1 rfl) ?_
  refine tg_iast hx hb hK hw h_vu_1 rfl 5 29 r_f0_38 (by decide) r_p1 (by exact fun _ _ _ => by decide) (fun _ _ _ _ _ => trivial) (by decide) dX10_write_9 (fun ws H locs hw hF9 hU9 => ?_)
  have m_f0_38 := FLD.over hF9 m_f0_38 (by decide)
  refine lv_aload_n hx hb dX10_write_10 rfl (lv_at hl 0 rfl) ?_
  refine lv_dup hx hb dX10_write_11 rfl ?_
  refine tg_mem (ci := 10) (C := RX10) (T := TX10) (N := 49) hx hb hts inX10 hown hK hw 38 m_f0_38 rfl (by decide) (hts _ tw_1175) (fun _ h9 => h9) dX10_write_12 ?_
  refine lv_iconst (v := 1) hx hb dX10_write_15 (by decide) ?_
  refine lv_iadd hx hb dX10_write_16 (lv_topi (fun v_2 e_v_2 => ?_))
  obtain ⟨t_v_2, r_v_2⟩ := tq_add (lo := 6) (hi := 30) r_f0_38 rl_1 (by decide +kernel) e_v_2
  have t_v_2 : v_2.toInt = f0_38.toInt + 1 := t_v_2
  refine tg_put (ci := 10) (ts := ty_MODEL) (v := .int v_2) (ty := .int) (C := RX10) (T := TX10) (N := 49) hx hb hts inX10 tyX10 tyX10_ok nmX10 hown hK hw h_p0 rfl rfl 38 (by decide) (hts _ tw_1175) (fun _ h9 => h9) rfl (by decide +kernel) rfl rfl (ft := vI 0 64) rfl ⟨_, rfl, (r_v_2.to (by decide))⟩ (by decide) dX10_write_17 (fun ws H locs hw n_k_3 hF9 => ?_)
  subst hQ
  exact W.vret hx hb hr (fun t ht hW => ⟨⟨ws, rfl, ⟨⟨⟨_, n_k_3, r_v_2⟩, trivial⟩, hw.1, hw.2.2.2.2.1⟩, by rw [ht]; exact hw.2.1, va_K.moved hW.alike hK, hw.2.2.1⟩, hw.2.2.2.1.F ht⟩) hw.2.2.2.1.2.2 dX10_write_20
abbrev wr_X10_write__4 : List (Nat × Nat) := [(10, 38)]
abbrev wa_X10_write__4 : List Nat := [51]
set_option maxHeartbeats 4000000 in
set_option maxRecDepth 100000 in
theorem c_X10_write__4 (l : Launch) (D : va_G) (cy : Nat → ClassId) (z : Nat → Nat) (sz : Nat) (Ps : PSI) (w0 : va_W) (hT : HT cy GG Ps w0) (p0 : Nat) (p1 : Int32) (f0_38 : Int32) (h_p0 : (p0, 55) ∈ Ps) (r_p1 : RI p1 (-2147483648) 2147483647) (r_f0_38 : RI f0_38 5 28) (m_f0_38 : FLD w0 p0 10 38 (.int f0_38)) : Met l yX10_write (Cond.code yX10_write cX10_write 2 none :: gT) ({ frames := 0, cells := 0, slots := 0, locals := 200 } : Room) (va_Pc [.ref p0, .int p1] (PRE D cy z w0 sz)) (va_Qv (fun (u : va_W) => ((∃ v9 : Int32, FLD u p0 10 38 (.int v9) ∧ RI v9 6 29) ∧ True) ∧ HT cy GG Ps u ∧ FR wr_X10_write__4 wa_X10_write__4 Ps w0 u) (BB D cy (va_A w0 sz) (fun (u : va_W) => u)) (va_A w0 sz)) 0 0 (va_A w0 sz) := by
  refine Met.ofW (cc := cX10_write) (maxL := 2) (ret := none) (by decide) rfl ?_
  intro p e s m args below meth c s₁ B hml hv
  obtain ⟨rfl, hsz, hP, hK, hD0, hSD⟩ := hv
  have hx := B.exec
  have hb := B.bytes
  have hr := B.returns
  have hlocks := B.notSynchronized
  have hts : ∀ w ∈ gT, w.before _ s = true := fun w h => atoms_spec (ws := Cond.code yX10_write cX10_write 2 none :: gT) B.pre w (List.mem_cons_of_mem _ h)
  have hown : s.vm.findClass RX10 = some m.cls := findClass_of_methodNamed B.named
  subst hsz
  have hD := hD0.self (sz := s.heap.size)
  generalize hAe : va_A w0 s.heap.size = A at hD hSD ⊢
  have hA : ∀ q : Nat, s.heap.size ≤ q → A q := fun q h => by rw [← hAe]; exact Or.inr h
  have hl := lv_entry ([.ref p0, .int p1]) (n := 2) (Nat.le_of_ble_eq_true rfl)
  rw [lg_entry_eq]
  generalize (lg_sl ([.ref p0, .int p1]) ++ List.replicate (2 - (lg_sl ([.ref p0, .int p1])).length) Slot.unset).toArray = ls at hl ⊢
  have hl : lv_has ls 2 [(0, .ref p0), (1, .int p1)] := hl
  refine nameQ (fun Q hQ => ?_)
  have hw : WD D cy GG A s wr_X10_write__4 wa_X10_write__4 Ps w0 Ps w0 s.heap [] := ⟨hT, hP, hD, va_S.rf, FR.rf, hT.1, [], (List.append_nil _).symm⟩
  refine lv_aload_n hx hb dX10_write_0 rfl (lv_at hl 0 rfl) ?_
  refine tg_get (ci := 10) (ts := ty_MODEL) (C := RX10) (T := TX10) (N := 49) hx hb hts inX10 hown hK hw h_p0 rfl rfl 37 (by decide) (hts _ tw_1174) (fun _ h9 => h9) (ft := vR 51) rfl dX10_write_1 (fun u_1 hv_u_1 m_u_1 => ?_)
  obtain ⟨vu_1, rfl, h_vu_1⟩ := hv_u_1
  refine lv_aload_n hx hb dX10_write_4 rfl (lv_at hl 0 rfl) ?_
  refine tg_mem (ci := 10) (C := RX10) (T := TX10) (N := 49) hx hb hts inX10 hown hK hw 38 m_f0_38 rfl (by decide) (hts _ tw_1175) (fun _ h9 => h9) dX10_write_5 ?_
  refine lv_iload_n hx hb dX10_write_8 rfl (lv_at hl 1 rfl) ?_
  refine tg_iast hx hb hK hw h_vu_1 rfl 5 28 r_f0_38 (by decide) r_p1 (by exact fun _ _ _ => by decide) (fun _ _ _ _ _ => trivial) (by decide) dX10_write_9 (fun ws H locs hw hF9 hU9 => ?_)
  have m_f0_38 := FLD.over hF9 m_f0_38 (by decide)
  refine lv_aload_n hx hb dX10_write_10 rfl (lv_at hl 0 rfl) ?_
  refine lv_dup hx hb dX10_write_11 rfl ?_
  refine tg_mem (ci := 10) (C := RX10) (T := TX10) (N := 49) hx hb hts inX10 hown hK hw 38 m_f0_38 rfl (by decide) (hts _ tw_1175) (fun _ h9 => h9) dX10_write_12 ?_
  refine lv_iconst (v := 1) hx hb dX10_write_15 (by decide) ?_
  refine lv_iadd hx hb dX10_write_16 (lv_topi (fun v_2 e_v_2 => ?_))
  obtain ⟨t_v_2, r_v_2⟩ := tq_add (lo := 6) (hi := 29) r_f0_38 rl_1 (by decide +kernel) e_v_2
  have t_v_2 : v_2.toInt = f0_38.toInt + 1 := t_v_2
  refine tg_put (ci := 10) (ts := ty_MODEL) (v := .int v_2) (ty := .int) (C := RX10) (T := TX10) (N := 49) hx hb hts inX10 tyX10 tyX10_ok nmX10 hown hK hw h_p0 rfl rfl 38 (by decide) (hts _ tw_1175) (fun _ h9 => h9) rfl (by decide +kernel) rfl rfl (ft := vI 0 64) rfl ⟨_, rfl, (r_v_2.to (by decide))⟩ (by decide) dX10_write_17 (fun ws H locs hw n_k_3 hF9 => ?_)
  subst hQ
  exact W.vret hx hb hr (fun t ht hW => ⟨⟨ws, rfl, ⟨⟨⟨_, n_k_3, r_v_2⟩, trivial⟩, hw.1, hw.2.2.2.2.1⟩, by rw [ht]; exact hw.2.1, va_K.moved hW.alike hK, hw.2.2.1⟩, hw.2.2.2.1.F ht⟩) hw.2.2.2.1.2.2 dX10_write_20
abbrev wr_X10_write__5 : List (Nat × Nat) := [(10, 38)]
abbrev wa_X10_write__5 : List Nat := [51]
set_option maxHeartbeats 4000000 in
set_option maxRecDepth 100000 in
theorem c_X10_write__5 (l : Launch) (D : va_G) (cy : Nat → ClassId) (z : Nat → Nat) (sz : Nat) (Ps : PSI) (w0 : va_W) (hT : HT cy GG Ps w0) (p0 : Nat) (p1 : Int32) (f0_38 : Int32) (h_p0 : (p0, 55) ∈ Ps) (r_p1 : RI p1 (-2147483648) 2147483647) (r_f0_38 : RI f0_38 5 27) (m_f0_38 : FLD w0 p0 10 38 (.int f0_38)) : Met l yX10_write (Cond.code yX10_write cX10_write 2 none :: gT) ({ frames := 0, cells := 0, slots := 0, locals := 200 } : Room) (va_Pc [.ref p0, .int p1] (PRE D cy z w0 sz)) (va_Qv (fun (u : va_W) => ((∃ v9 : Int32, FLD u p0 10 38 (.int v9) ∧ RI v9 6 28) ∧ True) ∧ HT cy GG Ps u ∧ FR wr_X10_write__5 wa_X10_write__5 Ps w0 u) (BB D cy (va_A w0 sz) (fun (u : va_W) => u)) (va_A w0 sz)) 0 0 (va_A w0 sz) := by
  refine Met.ofW (cc := cX10_write) (maxL := 2) (ret := none) (by decide) rfl ?_
  intro p e s m args below meth c s₁ B hml hv
  obtain ⟨rfl, hsz, hP, hK, hD0, hSD⟩ := hv
  have hx := B.exec
  have hb := B.bytes
  have hr := B.returns
  have hlocks := B.notSynchronized
  have hts : ∀ w ∈ gT, w.before _ s = true := fun w h => atoms_spec (ws := Cond.code yX10_write cX10_write 2 none :: gT) B.pre w (List.mem_cons_of_mem _ h)
  have hown : s.vm.findClass RX10 = some m.cls := findClass_of_methodNamed B.named
  subst hsz
  have hD := hD0.self (sz := s.heap.size)
  generalize hAe : va_A w0 s.heap.size = A at hD hSD ⊢
  have hA : ∀ q : Nat, s.heap.size ≤ q → A q := fun q h => by rw [← hAe]; exact Or.inr h
  have hl := lv_entry ([.ref p0, .int p1]) (n := 2) (Nat.le_of_ble_eq_true rfl)
  rw [lg_entry_eq]
  generalize (lg_sl ([.ref p0, .int p1]) ++ List.replicate (2 - (lg_sl ([.ref p0, .int p1])).length) Slot.unset).toArray = ls at hl ⊢
  have hl : lv_has ls 2 [(0, .ref p0), (1, .int p1)] := hl
  refine nameQ (fun Q hQ => ?_)
  have hw : WD D cy GG A s wr_X10_write__5 wa_X10_write__5 Ps w0 Ps w0 s.heap [] := ⟨hT, hP, hD, va_S.rf, FR.rf, hT.1, [], (List.append_nil _).symm⟩
  refine lv_aload_n hx hb dX10_write_0 rfl (lv_at hl 0 rfl) ?_
  refine tg_get (ci := 10) (ts := ty_MODEL) (C := RX10) (T := TX10) (N := 49) hx hb hts inX10 hown hK hw h_p0 rfl rfl 37 (by decide) (hts _ tw_1174) (fun _ h9 => h9) (ft := vR 51) rfl dX10_write_1 (fun u_1 hv_u_1 m_u_1 => ?_)
  obtain ⟨vu_1, rfl, h_vu_1⟩ := hv_u_1
  refine lv_aload_n hx hb dX10_write_4 rfl (lv_at hl 0 rfl) ?_
  refine tg_mem (ci := 10) (C := RX10) (T := TX10) (N := 49) hx hb hts inX10 hown hK hw 38 m_f0_38 rfl (by decide) (hts _ tw_1175) (fun _ h9 => h9) dX10_write_5 ?_
  refine lv_iload_n hx hb dX10_write_8 rfl (lv_at hl 1 rfl) ?_
  refine tg_iast hx hb hK hw h_vu_1 rfl 5 27 r_f0_38 (by decide) r_p1 (by exact fun _ _ _ => by decide) (fun _ _ _ _ _ => trivial) (by decide) dX10_write_9 (fun ws H locs hw hF9 hU9 => ?_)
  have m_f0_38 := FLD.over hF9 m_f0_38 (by decide)
  refine lv_aload_n hx hb dX10_write_10 rfl (lv_at hl 0 rfl) ?_
  refine lv_dup hx hb dX10_write_11 rfl ?_
  refine tg_mem (ci := 10) (C := RX10) (T := TX10) (N := 49) hx hb hts inX10 hown hK hw 38 m_f0_38 rfl (by decide) (hts _ tw_1175) (fun _ h9 => h9) dX10_write_12 ?_
  refine lv_iconst (v := 1) hx hb dX10_write_15 (by decide) ?_
  refine lv_iadd hx hb dX10_write_16 (lv_topi (fun v_2 e_v_2 => ?_))
  obtain ⟨t_v_2, r_v_2⟩ := tq_add (lo := 6) (hi := 28) r_f0_38 rl_1 (by decide +kernel) e_v_2
  have t_v_2 : v_2.toInt = f0_38.toInt + 1 := t_v_2
  refine tg_put (ci := 10) (ts := ty_MODEL) (v := .int v_2) (ty := .int) (C := RX10) (T := TX10) (N := 49) hx hb hts inX10 tyX10 tyX10_ok nmX10 hown hK hw h_p0 rfl rfl 38 (by decide) (hts _ tw_1175) (fun _ h9 => h9) rfl (by decide +kernel) rfl rfl (ft := vI 0 64) rfl ⟨_, rfl, (r_v_2.to (by decide))⟩ (by decide) dX10_write_17 (fun ws H locs hw n_k_3 hF9 => ?_)
  subst hQ
  exact W.vret hx hb hr (fun t ht hW => ⟨⟨ws, rfl, ⟨⟨⟨_, n_k_3, r_v_2⟩, trivial⟩, hw.1, hw.2.2.2.2.1⟩, by rw [ht]; exact hw.2.1, va_K.moved hW.alike hK, hw.2.2.1⟩, hw.2.2.2.1.F ht⟩) hw.2.2.2.1.2.2 dX10_write_20
abbrev wr_X10_write__6 : List (Nat × Nat) := [(10, 38)]
abbrev wa_X10_write__6 : List Nat := [51]
set_option maxHeartbeats 4000000 in
set_option maxRecDepth 100000 in
theorem c_X10_write__6 (l : Launch) (D : va_G) (cy : Nat → ClassId) (z : Nat → Nat) (sz : Nat) (Ps : PSI) (w0 : va_W) (hT : HT cy GG Ps w0) (p0 : Nat) (p1 : Int32) (f0_38 : Int32) (h_p0 : (p0, 55) ∈ Ps) (r_p1 : RI p1 (-2147483648) 2147483647) (r_f0_38 : RI f0_38 5 26) (m_f0_38 : FLD w0 p0 10 38 (.int f0_38)) : Met l yX10_write (Cond.code yX10_write cX10_write 2 none :: gT) ({ frames := 0, cells := 0, slots := 0, locals := 200 } : Room) (va_Pc [.ref p0, .int p1] (PRE D cy z w0 sz)) (va_Qv (fun (u : va_W) => ((∃ v9 : Int32, FLD u p0 10 38 (.int v9) ∧ RI v9 6 27) ∧ True) ∧ HT cy GG Ps u ∧ FR wr_X10_write__6 wa_X10_write__6 Ps w0 u) (BB D cy (va_A w0 sz) (fun (u : va_W) => u)) (va_A w0 sz)) 0 0 (va_A w0 sz) := by
  refine Met.ofW (cc := cX10_write) (maxL := 2) (ret := none) (by decide) rfl ?_
  intro p e s m args below meth c s₁ B hml hv
  obtain ⟨rfl, hsz, hP, hK, hD0, hSD⟩ := hv
  have hx := B.exec
  have hb := B.bytes
  have hr := B.returns
  have hlocks := B.notSynchronized
  have hts : ∀ w ∈ gT, w.before _ s = true := fun w h => atoms_spec (ws := Cond.code yX10_write cX10_write 2 none :: gT) B.pre w (List.mem_cons_of_mem _ h)
  have hown : s.vm.findClass RX10 = some m.cls := findClass_of_methodNamed B.named
  subst hsz
  have hD := hD0.self (sz := s.heap.size)
  generalize hAe : va_A w0 s.heap.size = A at hD hSD ⊢
  have hA : ∀ q : Nat, s.heap.size ≤ q → A q := fun q h => by rw [← hAe]; exact Or.inr h
  have hl := lv_entry ([.ref p0, .int p1]) (n := 2) (Nat.le_of_ble_eq_true rfl)
  rw [lg_entry_eq]
  generalize (lg_sl ([.ref p0, .int p1]) ++ List.replicate (2 - (lg_sl ([.ref p0, .int p1])).length) Slot.unset).toArray = ls at hl ⊢
  have hl : lv_has ls 2 [(0, .ref p0), (1, .int p1)] := hl
  refine nameQ (fun Q hQ => ?_)
  have hw : WD D cy GG A s wr_X10_write__6 wa_X10_write__6 Ps w0 Ps w0 s.heap [] := ⟨hT, hP, hD, va_S.rf, FR.rf, hT.1, [], (List.append_nil _).symm⟩
  refine lv_aload_n hx hb dX10_write_0 rfl (lv_at hl 0 rfl) ?_
  refine tg_get (ci := 10) (ts := ty_MODEL) (C := RX10) (T := TX10) (N := 49) hx hb hts inX10 hown hK hw h_p0 rfl rfl 37 (by decide) (hts _ tw_1174) (fun _ h9 => h9) (ft := vR 51) rfl dX10_write_1 (fun u_1 hv_u_1 m_u_1 => ?_)
  obtain ⟨vu_1, rfl, h_vu_1⟩ := hv_u_1
  refine lv_aload_n hx hb dX10_write_4 rfl (lv_at hl 0 rfl) ?_
  refine tg_mem (ci := 10) (C := RX10) (T := TX10) (N := 49) hx hb hts inX10 hown hK hw 38 m_f0_38 rfl (by decide) (hts _ tw_1175) (fun _ h9 => h9) dX10_write_5 ?_
  refine lv_iload_n hx hb dX10_write_8 rfl (lv_at hl 1 rfl) ?_
  refine tg_iast hx hb hK hw h_vu_1 rfl 5 26 r_f0_38 (by decide) r_p1 (by exact fun _ _ _ => by decide) (fun _ _ _ _ _ => trivial) (by decide) dX10_write_9 (fun ws H locs hw hF9 hU9 => ?_)
  have m_f0_38 := FLD.over hF9 m_f0_38 (by decide)
  refine lv_aload_n hx hb dX10_write_10 rfl (lv_at hl 0 rfl) ?_
  refine lv_dup hx hb dX10_write_11 rfl ?_
  refine tg_mem (ci := 10) (C := RX10) (T := TX10) (N := 49) hx hb hts inX10 hown hK hw 38 m_f0_38 rfl (by decide) (hts _ tw_1175) (fun _ h9 => h9) dX10_write_12 ?_
  refine lv_iconst (v := 1) hx hb dX10_write_15 (by decide) ?_
  refine lv_iadd hx hb dX10_write_16 (lv_topi (fun v_2 e_v_2 => ?_))
  obtain ⟨t_v_2, r_v_2⟩ := tq_add (lo := 6) (hi := 27) r_f0_38 rl_1 (by decide +kernel) e_v_2
  have t_v_2 : v_2.toInt = f0_38.toInt + 1 := t_v_2
  refine tg_put (ci := 10) (ts := ty_MODEL) (v := .int v_2) (ty := .int) (C := RX10) (T := TX10) (N := 49) hx hb hts inX10 tyX10 tyX10_ok nmX10 hown hK hw h_p0 rfl rfl 38 (by decide) (hts _ tw_1175) (fun _ h9 => h9) rfl (by decide +kernel) rfl rfl (ft := vI 0 64) rfl ⟨_, rfl, (r_v_2.to (by decide))⟩ (by decide) dX10_write_17 (fun ws H locs hw n_k_3 hF9 => ?_)
  subst hQ
  exact W.vret hx hb hr (fun t ht hW => ⟨⟨ws, rfl, ⟨⟨⟨_, n_k_3, r_v_2⟩, trivial⟩, hw.1, hw.2.2.2.2.1⟩, by rw [ht]; exact hw.2.1, va_K.moved hW.alike hK, hw.2.2.1⟩, hw.2.2.2.1.F ht⟩) hw.2.2.2.1.2.2 dX10_write_20
abbrev wr_X10_write__7 : List (Nat × Nat) := [(10, 38)]
abbrev wa_X10_write__7 : List Nat := [51]
set_option maxHeartbeats 4000000 in
set_option maxRecDepth 100000 in
theorem c_X10_write__7 (l : Launch) (D : va_G) (cy : Nat → ClassId) (z : Nat → Nat) (sz : Nat) (Ps : PSI) (w0 : va_W) (hT : HT cy GG Ps w0) (p0 : Nat) (p1 : Int32) (f0_38 : Int32) (h_p0 : (p0, 55) ∈ Ps) (r_p1 : RI p1 (-2147483648) 2147483647) (r_f0_38 : RI f0_38 5 25) (m_f0_38 : FLD w0 p0 10 38 (.int f0_38)) : Met l yX10_write (Cond.code yX10_write cX10_write 2 none :: gT) ({ frames := 0, cells := 0, slots := 0, locals := 200 } : Room) (va_Pc [.ref p0, .int p1] (PRE D cy z w0 sz)) (va_Qv (fun (u : va_W) => ((∃ v9 : Int32, FLD u p0 10 38 (.int v9) ∧ RI v9 6 26) ∧ True) ∧ HT cy GG Ps u ∧ FR wr_X10_write__7 wa_X10_write__7 Ps w0 u) (BB D cy (va_A w0 sz) (fun (u : va_W) => u)) (va_A w0 sz)) 0 0 (va_A w0 sz) := by
  refine Met.ofW (cc := cX10_write) (maxL := 2) (ret := none) (by decide) rfl ?_
  intro p e s m args below meth c s₁ B hml hv
  obtain ⟨rfl, hsz, hP, hK, hD0, hSD⟩ := hv
  have hx := B.exec
  have hb := B.bytes
  have hr := B.returns
  have hlocks := B.notSynchronized
  have hts : ∀ w ∈ gT, w.before _ s = true := fun w h => atoms_spec (ws := Cond.code yX10_write cX10_write 2 none :: gT) B.pre w (List.mem_cons_of_mem _ h)
  have hown : s.vm.findClass RX10 = some m.cls := findClass_of_methodNamed B.named
  subst hsz
  have hD := hD0.self (sz := s.heap.size)
  generalize hAe : va_A w0 s.heap.size = A at hD hSD ⊢
  have hA : ∀ q : Nat, s.heap.size ≤ q → A q := fun q h => by rw [← hAe]; exact Or.inr h
  have hl := lv_entry ([.ref p0, .int p1]) (n := 2) (Nat.le_of_ble_eq_true rfl)
  rw [lg_entry_eq]
  generalize (lg_sl ([.ref p0, .int p1]) ++ List.replicate (2 - (lg_sl ([.ref p0, .int p1])).length) Slot.unset).toArray = ls at hl ⊢
  have hl : lv_has ls 2 [(0, .ref p0), (1, .int p1)] := hl
  refine nameQ (fun Q hQ => ?_)
  have hw : WD D cy GG A s wr_X10_write__7 wa_X10_write__7 Ps w0 Ps w0 s.heap [] := ⟨hT, hP, hD, va_S.rf, FR.rf, hT.1, [], (List.append_nil _).symm⟩
  refine lv_aload_n hx hb dX10_write_0 rfl (lv_at hl 0 rfl) ?_
  refine tg_get (ci := 10) (ts := ty_MODEL) (C := RX10) (T := TX10) (N := 49) hx hb hts inX10 hown hK hw h_p0 rfl rfl 37 (by decide) (hts _ tw_1174) (fun _ h9 => h9) (ft := vR 51) rfl dX10_write_1 (fun u_1 hv_u_1 m_u_1 => ?_)
  obtain ⟨vu_1, rfl, h_vu_1⟩ := hv_u_1
  refine lv_aload_n hx hb dX10_write_4 rfl (lv_at hl 0 rfl) ?_
  refine tg_mem (ci := 10) (C := RX10) (T := TX10) (N := 49) hx hb hts inX10 hown hK hw 38 m_f0_38 rfl (by decide) (hts _ tw_1175) (fun _ h9 => h9) dX10_write_5 ?_
  refine lv_iload_n hx hb dX10_write_8 rfl (lv_at hl 1 rfl) ?_
  refine tg_iast hx hb hK hw h_vu_1 rfl 5 25 r_f0_38 (by decide) r_p1 (by exact fun _ _ _ => by decide) (fun _ _ _ _ _ => trivial) (by decide) dX10_write_9 (fun ws H locs hw hF9 hU9 => ?_)
  have m_f0_38 := FLD.over hF9 m_f0_38 (by decide)
  refine lv_aload_n hx hb dX10_write_10 rfl (lv_at hl 0 rfl) ?_
  refine lv_dup hx hb dX10_write_11 rfl ?_
  refine tg_mem (ci := 10) (C := RX10) (T := TX10) (N := 49) hx hb hts inX10 hown hK hw 38 m_f0_38 rfl (by decide) (hts _ tw_1175) (fun _ h9 => h9) dX10_write_12 ?_
  refine lv_iconst (v := 1) hx hb dX10_write_15 (by decide) ?_
  refine lv_iadd hx hb dX10_write_16 (lv_topi (fun v_2 e_v_2 => ?_))
  obtain ⟨t_v_2, r_v_2⟩ := tq_add (lo := 6) (hi := 26) r_f0_38 rl_1 (by decide +kernel) e_v_2
  have t_v_2 : v_2.toInt = f0_38.toInt + 1 := t_v_2
  refine tg_put (ci := 10) (ts := ty_MODEL) (v := .int v_2) (ty := .int) (C := RX10) (T := TX10) (N := 49) hx hb hts inX10 tyX10 tyX10_ok nmX10 hown hK hw h_p0 rfl rfl 38 (by decide) (hts _ tw_1175) (fun _ h9 => h9) rfl (by decide +kernel) rfl rfl (ft := vI 0 64) rfl ⟨_, rfl, (r_v_2.to (by decide))⟩ (by decide) dX10_write_17 (fun ws H locs hw n_k_3 hF9 => ?_)
  subst hQ
  exact W.vret hx hb hr (fun t ht hW => ⟨⟨ws, rfl, ⟨⟨⟨_, n_k_3, r_v_2⟩, trivial⟩, hw.1, hw.2.2.2.2.1⟩, by rw [ht]; exact hw.2.1, va_K.moved hW.alike hK, hw.2.2.1⟩, hw.2.2.2.1.F ht⟩) hw.2.2.2.1.2.2 dX10_write_20
abbrev wr_X10_write__8 : List (Nat × Nat) := [(10, 38)]
abbrev wa_X10_write__8 : List Nat := [51]
set_option maxHeartbeats 4000000 in
set_option maxRecDepth 100000 in
theorem c_X10_write__8 (l : Launch) (D : va_G) (cy : Nat → ClassId) (z : Nat → Nat) (sz : Nat) (Ps : PSI) (w0 : va_W) (hT : HT cy GG Ps w0) (p0 : Nat) (p1 : Int32) (f0_38 : Int32) (h_p0 : (p0, 55) ∈ Ps) (r_p1 : RI p1 (-2147483648) 2147483647) (r_f0_38 : RI f0_38 5 24) (m_f0_38 : FLD w0 p0 10 38 (.int f0_38)) : Met l yX10_write (Cond.code yX10_write cX10_write 2 none :: gT) ({ frames := 0, cells := 0, slots := 0, locals := 200 } : Room) (va_Pc [.ref p0, .int p1] (PRE D cy z w0 sz)) (va_Qv (fun (u : va_W) => ((∃ v9 : Int32, FLD u p0 10 38 (.int v9) ∧ RI v9 6 25) ∧ True) ∧ HT cy GG Ps u ∧ FR wr_X10_write__8 wa_X10_write__8 Ps w0 u) (BB D cy (va_A w0 sz) (fun (u : va_W) => u)) (va_A w0 sz)) 0 0 (va_A w0 sz) := by
  refine Met.ofW (cc := cX10_write) (maxL := 2) (ret := none) (by decide) rfl ?_
  intro p e s m args below meth c s₁ B hml hv
  obtain ⟨rfl, hsz, hP, hK, hD0, hSD⟩ := hv
  have hx := B.exec
  have hb := B.bytes
  have hr := B.returns
  have hlocks := B.notSynchronized
  have hts : ∀ w ∈ gT, w.before _ s = true := fun w h => atoms_spec (ws := Cond.code yX10_write cX10_write 2 none :: gT) B.pre w (List.mem_cons_of_mem _ h)
  have hown : s.vm.findClass RX10 = some m.cls := findClass_of_methodNamed B.named
  subst hsz
  have hD := hD0.self (sz := s.heap.size)
  generalize hAe : va_A w0 s.heap.size = A at hD hSD ⊢
  have hA : ∀ q : Nat, s.heap.size ≤ q → A q := fun q h => by rw [← hAe]; exact Or.inr h
  have hl := lv_entry ([.ref p0, .int p1]) (n := 2) (Nat.le_of_ble_eq_true rfl)
  rw [lg_entry_eq]
  generalize (lg_sl ([.ref p0, .int p1]) ++ List.replicate (2 - (lg_sl ([.ref p0, .int p1])).length) Slot.unset).toArray = ls at hl ⊢
  have hl : lv_has ls 2 [(0, .ref p0), (1, .int p1)] := hl
  refine nameQ (fun Q hQ => ?_)
  have hw : WD D cy GG A s wr_X10_write__8 wa_X10_write__8 Ps w0 Ps w0 s.heap [] := ⟨hT, hP, hD, va_S.rf, FR.rf, hT.1, [], (List.append_nil _).symm⟩
  refine lv_aload_n hx hb dX10_write_0 rfl (lv_at hl 0 rfl) ?_
  refine tg_get (ci := 10) (ts := ty_MODEL) (C := RX10) (T := TX10) (N := 49) hx hb hts inX10 hown hK hw h_p0 rfl rfl 37 (by decide) (hts _ tw_1174) (fun _ h9 => h9) (ft := vR 51) rfl dX10_write_1 (fun u_1 hv_u_1 m_u_1 => ?_)
  obtain ⟨vu_1, rfl, h_vu_1⟩ := hv_u_1
  refine lv_aload_n hx hb dX10_write_4 rfl (lv_at hl 0 rfl) ?_
  refine tg_mem (ci := 10) (C := RX10) (T := TX10) (N := 49) hx hb hts inX10 hown hK hw 38 m_f0_38 rfl (by decide) (hts _ tw_1175) (fun _ h9 => h9) dX10_write_5 ?_
  refine lv_iload_n hx hb dX10_write_8 rfl (lv_at hl 1 rfl) ?_
  refine tg_iast hx hb hK hw h_vu_1 rfl 5 24 r_f0_38 (by decide) r_p1 (by exact fun _ _ _ => by decide) (fun _ _ _ _ _ => trivial) (by decide) dX10_write_9 (fun ws H locs hw hF9 hU9 => ?_)
  have m_f0_38 := FLD.over hF9 m_f0_38 (by decide)
  refine lv_aload_n hx hb dX10_write_10 rfl (lv_at hl 0 rfl) ?_
  refine lv_dup hx hb dX10_write_11 rfl ?_
  refine tg_mem (ci := 10) (C := RX10) (T := TX10) (N := 49) hx hb hts inX10 hown hK hw 38 m_f0_38 rfl (by decide) (hts _ tw_1175) (fun _ h9 => h9) dX10_write_12 ?_
  refine lv_iconst (v := 1) hx hb dX10_write_15 (by decide) ?_
  refine lv_iadd hx hb dX10_write_16 (lv_topi (fun v_2 e_v_2 => ?_))
  obtain ⟨t_v_2, r_v_2⟩ := tq_add (lo := 6) (hi := 25) r_f0_38 rl_1 (by decide +kernel) e_v_2
  have t_v_2 : v_2.toInt = f0_38.toInt + 1 := t_v_2
  refine tg_put (ci := 10) (ts := ty_MODEL) (v := .int v_2) (ty := .int) (C := RX10) (T := TX10) (N := 49) hx hb hts inX10 tyX10 tyX10_ok nmX10 hown hK hw h_p0 rfl rfl 38 (by decide) (hts _ tw_1175) (fun _ h9 => h9) rfl (by decide +kernel) rfl rfl (ft := vI 0 64) rfl ⟨_, rfl, (r_v_2.to (by decide))⟩ (by decide) dX10_write_17 (fun ws H locs hw n_k_3 hF9 => ?_)
  subst hQ
  exact W.vret hx hb hr (fun t ht hW => ⟨⟨ws, rfl, ⟨⟨⟨_, n_k_3, r_v_2⟩, trivial⟩, hw.1, hw.2.2.2.2.1⟩, by rw [ht]; exact hw.2.1, va_K.moved hW.alike hK, hw.2.2.1⟩, hw.2.2.2.1.F ht⟩) hw.2.2.2.1.2.2 dX10_write_20
abbrev wr_X10_write__9 : List (Nat × Nat) := [(10, 38)]
abbrev wa_X10_write__9 : List Nat := [51]
set_option maxHeartbeats 4000000 in
set_option maxRecDepth 100000 in
theorem c_X10_write__9 (l : Launch) (D : va_G) (cy : Nat → ClassId) (z : Nat → Nat) (sz : Nat) (Ps : PSI) (w0 : va_W) (hT : HT cy GG Ps w0) (p0 : Nat) (p1 : Int32) (f0_38 : Int32) (h_p0 : (p0, 55) ∈ Ps) (r_p1 : RI p1 (-2147483648) 2147483647) (r_f0_38 : RI f0_38 5 23) (m_f0_38 : FLD w0 p0 10 38 (.int f0_38)) : Met l yX10_write (Cond.code yX10_write cX10_write 2 none :: gT) ({ frames := 0, cells := 0, slots := 0, locals := 200 } : Room) (va_Pc [.ref p0, .int p1] (PRE D cy z w0 sz)) (va_Qv (fun (u : va_W) => ((∃ v9 : Int32, FLD u p0 10 38 (.int v9) ∧ RI v9 6 24) ∧ True) ∧ HT cy GG Ps u ∧ FR wr_X10_write__9 wa_X10_write__9 Ps w0 u) (BB D cy (va_A w0 sz) (fun (u : va_W) => u)) (va_A w0 sz)) 0 0 (va_A w0 sz) := by
  refine Met.ofW (cc := cX10_write) (maxL := 2) (ret := none) (by decide) rfl ?_
  intro p e s m args below meth c s₁ B hml hv
  obtain ⟨rfl, hsz, hP, hK, hD0, hSD⟩ := hv
  have hx := B.exec
  have hb := B.bytes
  have hr := B.returns
  have hlocks := B.notSynchronized
  have hts : ∀ w ∈ gT, w.before _ s = true := fun w h => atoms_spec (ws := Cond.code yX10_write cX10_write 2 none :: gT) B.pre w (List.mem_cons_of_mem _ h)
  have hown : s.vm.findClass RX10 = some m.cls := findClass_of_methodNamed B.named
  subst hsz
  have hD := hD0.self (sz := s.heap.size)
  generalize hAe : va_A w0 s.heap.size = A at hD hSD ⊢
  have hA : ∀ q : Nat, s.heap.size ≤ q → A q := fun q h => by rw [← hAe]; exact Or.inr h
  have hl := lv_entry ([.ref p0, .int p1]) (n := 2) (Nat.le_of_ble_eq_true rfl)
  rw [lg_entry_eq]
  generalize (lg_sl ([.ref p0, .int p1]) ++ List.replicate (2 - (lg_sl ([.ref p0, .int p1])).length) Slot.unset).toArray = ls at hl ⊢
  have hl : lv_has ls 2 [(0, .ref p0), (1, .int p1)] := hl
  refine nameQ (fun Q hQ => ?_)
  have hw : WD D cy GG A s wr_X10_write__9 wa_X10_write__9 Ps w0 Ps w0 s.heap [] := ⟨hT, hP, hD, va_S.rf, FR.rf, hT.1, [], (List.append_nil _).symm⟩
  refine lv_aload_n hx hb dX10_write_0 rfl (lv_at hl 0 rfl) ?_
  refine tg_get (ci := 10) (ts := ty_MODEL) (C := RX10) (T := TX10) (N := 49) hx hb hts inX10 hown hK hw h_p0 rfl rfl 37 (by decide) (hts _ tw_1174) (fun _ h9 => h9) (ft := vR 51) rfl dX10_write_1 (fun u_1 hv_u_1 m_u_1 => ?_)
  obtain ⟨vu_1, rfl, h_vu_1⟩ := hv_u_1
  refine lv_aload_n hx hb dX10_write_4 rfl (lv_at hl 0 rfl) ?_
  refine tg_mem (ci := 10) (C := RX10) (T := TX10) (N := 49) hx hb hts inX10 hown hK hw 38 m_f0_38 rfl (by decide) (hts _ tw_1175) (fun _ h9 => h9) dX10_write_5 ?_
  refine lv_iload_n hx hb dX10_write_8 rfl (lv_at hl 1 rfl) ?_
  refine tg_iast hx hb hK hw h_vu_1 rfl 5 23 r_f0_38 (by decide) r_p1 (by exact fun _ _ _ => by decide) (fun _ _ _ _ _ => trivial) (by decide) dX10_write_9 (fun ws H locs hw hF9 hU9 => ?_)
  have m_f0_38 := FLD.over hF9 m_f0_38 (by decide)
  refine lv_aload_n hx hb dX10_write_10 rfl (lv_at hl 0 rfl) ?_
  refine lv_dup hx hb dX10_write_11 rfl ?_
  refine tg_mem (ci := 10) (C := RX10) (T := TX10) (N := 49) hx hb hts inX10 hown hK hw 38 m_f0_38 rfl (by decide) (hts _ tw_1175) (fun _ h9 => h9) dX10_write_12 ?_
  refine lv_iconst (v := 1) hx hb dX10_write_15 (by decide) ?_
  refine lv_iadd hx hb dX10_write_16 (lv_topi (fun v_2 e_v_2 => ?_))
  obtain ⟨t_v_2, r_v_2⟩ := tq_add (lo := 6) (hi := 24) r_f0_38 rl_1 (by decide +kernel) e_v_2
  have t_v_2 : v_2.toInt = f0_38.toInt + 1 := t_v_2
  refine tg_put (ci := 10) (ts := ty_MODEL) (v := .int v_2) (ty := .int) (C := RX10) (T := TX10) (N := 49) hx hb hts inX10 tyX10 tyX10_ok nmX10 hown hK hw h_p0 rfl rfl 38 (by decide) (hts _ tw_1175) (fun _ h9 => h9) rfl (by decide +kernel) rfl rfl (ft := vI 0 64) rfl ⟨_, rfl, (r_v_2.to (by decide))⟩ (by decide) dX10_write_17 (fun ws H locs hw n_k_3 hF9 => ?_)
  subst hQ
  exact W.vret hx hb hr (fun t ht hW => ⟨⟨ws, rfl, ⟨⟨⟨_, n_k_3, r_v_2⟩, trivial⟩, hw.1, hw.2.2.2.2.1⟩, by rw [ht]; exact hw.2.1, va_K.moved hW.alike hK, hw.2.2.1⟩, hw.2.2.2.1.F ht⟩) hw.2.2.2.1.2.2 dX10_write_20
abbrev wr_X10_write__10 : List (Nat × Nat) := [(10, 38)]
abbrev wa_X10_write__10 : List Nat := [51]
set_option maxHeartbeats 4000000 in
set_option maxRecDepth 100000 in
theorem c_X10_write__10 (l : Launch) (D : va_G) (cy : Nat → ClassId) (z : Nat → Nat) (sz : Nat) (Ps : PSI) (w0 : va_W) (hT : HT cy GG Ps w0) (p0 : Nat) (p1 : Int32) (f0_38 : Int32) (h_p0 : (p0, 55) ∈ Ps) (r_p1 : RI p1 (-2147483648) 2147483647) (r_f0_38 : RI f0_38 5 22) (m_f0_38 : FLD w0 p0 10 38 (.int f0_38)) : Met l yX10_write (Cond.code yX10_write cX10_write 2 none :: gT) ({ frames := 0, cells := 0, slots := 0, locals := 200 } : Room) (va_Pc [.ref p0, .int p1] (PRE D cy z w0 sz)) (va_Qv (fun (u : va_W) => ((∃ v9 : Int32, FLD u p0 10 38 (.int v9) ∧ RI v9 6 23) ∧ True) ∧ HT cy GG Ps u ∧ FR wr_X10_write__10 wa_X10_write__10 Ps w0 u) (BB D cy (va_A w0 sz) (fun (u : va_W) => u)) (va_A w0 sz)) 0 0 (va_A w0 sz) := by
  refine Met.ofW (cc := cX10_write) (maxL := 2) (ret := none) (by decide) rfl ?_
  intro p e s m args below meth c s₁ B hml hv
  obtain ⟨rfl, hsz, hP, hK, hD0, hSD⟩ := hv
  have hx := B.exec
  have hb := B.bytes
  have hr := B.returns
  have hlocks := B.notSynchronized
  have hts : ∀ w ∈ gT, w.before _ s = true := fun w h => atoms_spec (ws := Cond.code yX10_write cX10_write 2 none :: gT) B.pre w (List.mem_cons_of_mem _ h)
  have hown : s.vm.findClass RX10 = some m.cls := findClass_of_methodNamed B.named
  subst hsz
  have hD := hD0.self (sz := s.heap.size)
  generalize hAe : va_A w0 s.heap.size = A at hD hSD ⊢
  have hA : ∀ q : Nat, s.heap.size ≤ q → A q := fun q h => by rw [← hAe]; exact Or.inr h
  have hl := lv_entry ([.ref p0, .int p1]) (n := 2) (Nat.le_of_ble_eq_true rfl)
  rw [lg_entry_eq]
  generalize (lg_sl ([.ref p0, .int p1]) ++ List.replicate (2 - (lg_sl ([.ref p0, .int p1])).length) Slot.unset).toArray = ls at hl ⊢
  have hl : lv_has ls 2 [(0, .ref p0), (1, .int p1)] := hl
  refine nameQ (fun Q hQ => ?_)
  have hw : WD D cy GG A s wr_X10_write__10 wa_X10_write__10 Ps w0 Ps w0 s.heap [] := ⟨hT, hP, hD, va_S.rf, FR.rf, hT.1, [], (List.append_nil _).symm⟩
  refine lv_aload_n hx hb dX10_write_0 rfl (lv_at hl 0 rfl) ?_
  refine tg_get (ci := 10) (ts := ty_MODEL) (C := RX10) (T := TX10) (N := 49) hx hb hts inX10 hown hK hw h_p0 rfl rfl 37 (by decide) (hts _ tw_1174) (fun _ h9 => h9) (ft := vR 51) rfl dX10_write_1 (fun u_1 hv_u_1 m_u_1 => ?_)
  obtain ⟨vu_1, rfl, h_vu_1⟩ := hv_u_1
  refine lv_aload_n hx hb dX10_write_4 rfl (lv_at hl 0 rfl) ?_
  refine tg_mem (ci := 10) (C := RX10) (T := TX10) (N := 49) hx hb hts inX10 hown hK hw 38 m_f0_38 rfl (by decide) (hts _ tw_1175) (fun _ h9 => h9) dX10_write_5 ?_
  refine lv_iload_n hx hb dX10_write_8 rfl (lv_at hl 1 rfl) ?_
  refine tg_iast hx hb hK hw h_vu_1 rfl 5 22 r_f0_38 (by decide) r_p1 (by exact fun _ _ _ => by decide) (fun _ _ _ _ _ => trivial) (by decide) dX10_write_9 (fun ws H locs hw hF9 hU9 => ?_)
  have m_f0_38 := FLD.over hF9 m_f0_38 (by decide)
  refine lv_aload_n hx hb dX10_write_10 rfl (lv_at hl 0 rfl) ?_
  refine lv_dup hx hb dX10_write_11 rfl ?_
  refine tg_mem (ci := 10) (C := RX10) (T := TX10) (N := 49) hx hb hts inX10 hown hK hw 38 m_f0_38 rfl (by decide) (hts _ tw_1175) (fun _ h9 => h9) dX10_write_12 ?_
  refine lv_iconst (v := 1) hx hb dX10_write_15 (by decide) ?_
  refine lv_iadd hx hb dX10_write_16 (lv_topi (fun v_2 e_v_2 => ?_))
  obtain ⟨t_v_2, r_v_2⟩ := tq_add (lo := 6) (hi := 23) r_f0_38 rl_1 (by decide +kernel) e_v_2
  have t_v_2 : v_2.toInt = f0_38.toInt + 1 := t_v_2
  refine tg_put (ci := 10) (ts := ty_MODEL) (v := .int v_2) (ty := .int) (C := RX10) (T := TX10) (N := 49) hx hb hts inX10 tyX10 tyX10_ok nmX10 hown hK hw h_p0 rfl rfl 38 (by decide) (hts _ tw_1175) (fun _ h9 => h9) rfl (by decide +kernel) rfl rfl (ft := vI 0 64) rfl ⟨_, rfl, (r_v_2.to (by decide))⟩ (by decide) dX10_write_17 (fun ws H locs hw n_k_3 hF9 => ?_)
  subst hQ
  exact W.vret hx hb hr (fun t ht hW => ⟨⟨ws, rfl, ⟨⟨⟨_, n_k_3, r_v_2⟩, trivial⟩, hw.1, hw.2.2.2.2.1⟩, by rw [ht]; exact hw.2.1, va_K.moved hW.alike hK, hw.2.2.1⟩, hw.2.2.2.1.F ht⟩) hw.2.2.2.1.2.2 dX10_write_20
abbrev wr_X10_write__11 : List (Nat × Nat) := [(10, 38)]
abbrev wa_X10_write__11 : List Nat := [51]
set_option maxHeartbeats 4000000 in
set_option maxRecDepth 100000 in
theorem c_X10_write__11 (l : Launch) (D : va_G) (cy : Nat → ClassId) (z : Nat → Nat) (sz : Nat) (Ps : PSI) (w0 : va_W) (hT : HT cy GG Ps w0) (p0 : Nat) (p1 : Int32) (f0_38 : Int32) (h_p0 : (p0, 55) ∈ Ps) (r_p1 : RI p1 (-2147483648) 2147483647) (r_f0_38 : RI f0_38 5 21) (m_f0_38 : FLD w0 p0 10 38 (.int f0_38)) : Met l yX10_write (Cond.code yX10_write cX10_write 2 none :: gT) ({ frames := 0, cells := 0, slots := 0, locals := 200 } : Room) (va_Pc [.ref p0, .int p1] (PRE D cy z w0 sz)) (va_Qv (fun (u : va_W) => ((∃ v9 : Int32, FLD u p0 10 38 (.int v9) ∧ RI v9 6 22) ∧ True) ∧ HT cy GG Ps u ∧ FR wr_X10_write__11 wa_X10_write__11 Ps w0 u) (BB D cy (va_A w0 sz) (fun (u : va_W) => u)) (va_A w0 sz)) 0 0 (va_A w0 sz) := by
  refine Met.ofW (cc := cX10_write) (maxL := 2) (ret := none) (by decide) rfl ?_
  intro p e s m args below meth c s₁ B hml hv
  obtain ⟨rfl, hsz, hP, hK, hD0, hSD⟩ := hv
  have hx := B.exec
  have hb := B.bytes
  have hr := B.returns
  have hlocks := B.notSynchronized
  have hts : ∀ w ∈ gT, w.before _ s = true := fun w h => atoms_spec (ws := Cond.code yX10_write cX10_write 2 none :: gT) B.pre w (List.mem_cons_of_mem _ h)
  have hown : s.vm.findClass RX10 = some m.cls := findClass_of_methodNamed B.named
  subst hsz
  have hD := hD0.self (sz := s.heap.size)
  generalize hAe : va_A w0 s.heap.size = A at hD hSD ⊢
  have hA : ∀ q : Nat, s.heap.size ≤ q → A q := fun q h => by rw [← hAe]; exact Or.inr h
  have hl := lv_entry ([.ref p0, .int p1]) (n := 2) (Nat.le_of_ble_eq_true rfl)
  rw [lg_entry_eq]
  generalize (lg_sl ([.ref p0, .int p1]) ++ List.replicate (2 - (lg_sl ([.ref p0, .int p1])).length) Slot.unset).toArray = ls at hl ⊢
  have hl : lv_has ls 2 [(0, .ref p0), (1, .int p1)] := hl
  refine nameQ (fun Q hQ => ?_)
  have hw : WD D cy GG A s wr_X10_write__11 wa_X10_write__11 Ps w0 Ps w0 s.heap [] := ⟨hT, hP, hD, va_S.rf, FR.rf, hT.1, [], (List.append_nil _).symm⟩
  refine lv_aload_n hx hb dX10_write_0 rfl (lv_at hl 0 rfl) ?_
  refine tg_get (ci := 10) (ts := ty_MODEL) (C := RX10) (T := TX10) (N := 49) hx hb hts inX10 hown hK hw h_p0 rfl rfl 37 (by decide) (hts _ tw_1174) (fun _ h9 => h9) (ft := vR 51) rfl dX10_write_1 (fun u_1 hv_u_1 m_u_1 => ?_)
  obtain ⟨vu_1, rfl, h_vu_1⟩ := hv_u_1
  refine lv_aload_n hx hb dX10_write_4 rfl (lv_at hl 0 rfl) ?_
  refine tg_mem (ci := 10) (C := RX10) (T := TX10) (N := 49) hx hb hts inX10 hown hK hw 38 m_f0_38 rfl (by decide) (hts _ tw_1175) (fun _ h9 => h9) dX10_write_5 ?_
  refine lv_iload_n hx hb dX10_write_8 rfl (lv_at hl 1 rfl) ?_
  refine tg_iast hx hb hK hw h_vu_1 rfl 5 21 r_f0_38 (by decide) r_p1 (by exact fun _ _ _ => by decide) (fun _ _ _ _ _ => trivial) (by decide) dX10_write_9 (fun ws H locs hw hF9 hU9 => ?_)
  have m_f0_38 := FLD.over hF9 m_f0_38 (by decide)
  refine lv_aload_n hx hb dX10_write_10 rfl (lv_at hl 0 rfl) ?_
  refine lv_dup hx hb dX10_write_11 rfl ?_
  refine tg_mem (ci := 10) (C := RX10) (T := TX10) (N := 49) hx hb hts inX10 hown hK hw 38 m_f0_38 rfl (by decide) (hts _ tw_1175) (fun _ h9 => h9) dX10_write_12 ?_
  refine lv_iconst (v := 1) hx hb dX10_write_15 (by decide) ?_
  refine lv_iadd hx hb dX10_write_16 (lv_topi (fun v_2 e_v_2 => ?_))
  obtain ⟨t_v_2, r_v_2⟩ := tq_add (lo := 6) (hi := 22) r_f0_38 rl_1 (by decide +kernel) e_v_2
  have t_v_2 : v_2.toInt = f0_38.toInt + 1 := t_v_2
  refine tg_put (ci := 10) (ts := ty_MODEL) (v := .int v_2) (ty := .int) (C := RX10) (T := TX10) (N := 49) hx hb hts inX10 tyX10 tyX10_ok nmX10 hown hK hw h_p0 rfl rfl 38 (by decide) (hts _ tw_1175) (fun _ h9 => h9) rfl (by decide +kernel) rfl rfl (ft := vI 0 64) rfl ⟨_, rfl, (r_v_2.to (by decide))⟩ (by decide) dX10_write_17 (fun ws H locs hw n_k_3 hF9 => ?_)
  subst hQ
  exact W.vret hx hb hr (fun t ht hW => ⟨⟨ws, rfl, ⟨⟨⟨_, n_k_3, r_v_2⟩, trivial⟩, hw.1, hw.2.2.2.2.1⟩, by rw [ht]; exact hw.2.1, va_K.moved hW.alike hK, hw.2.2.1⟩, hw.2.2.2.1.F ht⟩) hw.2.2.2.1.2.2 dX10_write_20
abbrev wr_X10_write__12 : List (Nat × Nat) := [(10, 38)]
abbrev wa_X10_write__12 : List Nat := [51]
set_option maxHeartbeats 4000000 in
set_option maxRecDepth 100000 in
theorem c_X10_write__12 (l : Launch) (D : va_G) (cy : Nat → ClassId) (z : Nat → Nat) (sz : Nat) (Ps : PSI) (w0 : va_W) (hT : HT cy GG Ps w0) (p0 : Nat) (p1 : Int32) (f0_38 : Int32) (h_p0 : (p0, 55) ∈ Ps) (r_p1 : RI p1 (-2147483648) 2147483647) (r_f0_38 : RI f0_38 5 20) (m_f0_38 : FLD w0 p0 10 38 (.int f0_38)) : Met l yX10_write (Cond.code yX10_write cX10_write 2 none :: gT) ({ frames := 0, cells := 0, slots := 0, locals := 200 } : Room) (va_Pc [.ref p0, .int p1] (PRE D cy z w0 sz)) (va_Qv (fun (u : va_W) => ((∃ v9 : Int32, FLD u p0 10 38 (.int v9) ∧ RI v9 6 21) ∧ True) ∧ HT cy GG Ps u ∧ FR wr_X10_write__12 wa_X10_write__12 Ps w0 u) (BB D cy (va_A w0 sz) (fun (u : va_W) => u)) (va_A w0 sz)) 0 0 (va_A w0 sz) := by
  refine Met.ofW (cc := cX10_write) (maxL := 2) (ret := none) (by decide) rfl ?_
  intro p e s m args below meth c s₁ B hml hv
  obtain ⟨rfl, hsz, hP, hK, hD0, hSD⟩ := hv
  have hx := B.exec
  have hb := B.bytes
  have hr := B.returns
  have hlocks := B.notSynchronized
  have hts : ∀ w ∈ gT, w.before _ s = true := fun w h => atoms_spec (ws := Cond.code yX10_write cX10_write 2 none :: gT) B.pre w (List.mem_cons_of_mem _ h)
  have hown : s.vm.findClass RX10 = some m.cls := findClass_of_methodNamed B.named
  subst hsz
  have hD := hD0.self (sz := s.heap.size)
  generalize hAe : va_A w0 s.heap.size = A at hD hSD ⊢
  have hA : ∀ q : Nat, s.heap.size ≤ q → A q := fun q h => by rw [← hAe]; exact Or.inr h
  have hl := lv_entry ([.ref p0, .int p1]) (n := 2) (Nat.le_of_ble_eq_true rfl)
  rw [lg_entry_eq]
  generalize (lg_sl ([.ref p0, .int p1]) ++ List.replicate (2 - (lg_sl ([.ref p0, .int p1])).length) Slot.unset).toArray = ls at hl ⊢
  have hl : lv_has ls 2 [(0, .ref p0), (1, .int p1)] := hl
  refine nameQ (fun Q hQ => ?_)
  have hw : WD D cy GG A s wr_X10_write__12 wa_X10_write__12 Ps w0 Ps w0 s.heap [] := ⟨hT, hP, hD, va_S.rf, FR.rf, hT.1, [], (List.append_nil _).symm⟩
  refine lv_aload_n hx hb dX10_write_0 rfl (lv_at hl 0 rfl) ?_
  refine tg_get (ci := 10) (ts := ty_MODEL) (C := RX10) (T := TX10) (N := 49) hx hb hts inX10 hown hK hw h_p0 rfl rfl 37 (by decide) (hts _ tw_1174) (fun _ h9 => h9) (ft := vR 51) rfl dX10_write_1 (fun u_1 hv_u_1 m_u_1 => ?_)
  obtain ⟨vu_1, rfl, h_vu_1⟩ := hv_u_1
  refine lv_aload_n hx hb dX10_write_4 rfl (lv_at hl 0 rfl) ?_
  refine tg_mem (ci := 10) (C := RX10) (T := TX10) (N := 49) hx hb hts inX10 hown hK hw 38 m_f0_38 rfl (by decide) (hts _ tw_1175) (fun _ h9 => h9) dX10_write_5 ?_
  refine lv_iload_n hx hb dX10_write_8 rfl (lv_at hl 1 rfl) ?_
  refine tg_iast hx hb hK hw h_vu_1 rfl 5 20 r_f0_38 (by decide) r_p1 (by exact fun _ _ _ => by decide) (fun _ _ _ _ _ => trivial) (by decide) dX10_write_9 (fun ws H locs hw hF9 hU9 => ?_)
  have m_f0_38 := FLD.over hF9 m_f0_38 (by decide)
  refine lv_aload_n hx hb dX10_write_10 rfl (lv_at hl 0 rfl) ?_
  refine lv_dup hx hb dX10_write_11 rfl ?_
  refine tg_mem (ci := 10) (C := RX10) (T := TX10) (N := 49) hx hb hts inX10 hown hK hw 38 m_f0_38 rfl (by decide) (hts _ tw_1175) (fun _ h9 => h9) dX10_write_12 ?_
  refine lv_iconst (v := 1) hx hb dX10_write_15 (by decide) ?_
  refine lv_iadd hx hb dX10_write_16 (lv_topi (fun v_2 e_v_2 => ?_))
  obtain ⟨t_v_2, r_v_2⟩ := tq_add (lo := 6) (hi := 21) r_f0_38 rl_1 (by decide +kernel) e_v_2
  have t_v_2 : v_2.toInt = f0_38.toInt + 1 := t_v_2
  refine tg_put (ci := 10) (ts := ty_MODEL) (v := .int v_2) (ty := .int) (C := RX10) (T := TX10) (N := 49) hx hb hts inX10 tyX10 tyX10_ok nmX10 hown hK hw h_p0 rfl rfl 38 (by decide) (hts _ tw_1175) (fun _ h9 => h9) rfl (by decide +kernel) rfl rfl (ft := vI 0 64) rfl ⟨_, rfl, (r_v_2.to (by decide))⟩ (by decide) dX10_write_17 (fun ws H locs hw n_k_3 hF9 => ?_)
  subst hQ
  exact W.vret hx hb hr (fun t ht hW => ⟨⟨ws, rfl, ⟨⟨⟨_, n_k_3, r_v_2⟩, trivial⟩, hw.1, hw.2.2.2.2.1⟩, by rw [ht]; exact hw.2.1, va_K.moved hW.alike hK, hw.2.2.1⟩, hw.2.2.2.1.F ht⟩) hw.2.2.2.1.2.2 dX10_write_20
abbrev wr_X10_write__13 : List (Nat × Nat) := [(10, 38)]
abbrev wa_X10_write__13 : List Nat := [51]
set_option maxHeartbeats 4000000 in
set_option maxRecDepth 100000 in
theorem c_X10_write__13 (l : Launch) (D : va_G) (cy : Nat → ClassId) (z : Nat → Nat) (sz : Nat) (Ps : PSI) (w0 : va_W) (hT : HT cy GG Ps w0) (p0 : Nat) (p1 : Int32) (f0_38 : Int32) (h_p0 : (p0, 55) ∈ Ps) (r_p1 : RI p1 (-2147483648) 2147483647) (r_f0_38 : RI f0_38 5 19) (m_f0_38 : FLD w0 p0 10 38 (.int f0_38)) : Met l yX10_write (Cond.code yX10_write cX10_write 2 none :: gT) ({ frames := 0, cells := 0, slots := 0, locals := 200 } : Room) (va_Pc [.ref p0, .int p1] (PRE D cy z w0 sz)) (va_Qv (fun (u : va_W) => ((∃ v9 : Int32, FLD u p0 10 38 (.int v9) ∧ RI v9 6 20) ∧ True) ∧ HT cy GG Ps u ∧ FR wr_X10_write__13 wa_X10_write__13 Ps w0 u) (BB D cy (va_A w0 sz) (fun (u : va_W) => u)) (va_A w0 sz)) 0 0 (va_A w0 sz) := by
  refine Met.ofW (cc := cX10_write) (maxL := 2) (ret := none) (by decide) rfl ?_
  intro p e s m args below meth c s₁ B hml hv
  obtain ⟨rfl, hsz, hP, hK, hD0, hSD⟩ := hv
  have hx := B.exec
  have hb := B.bytes
  have hr := B.returns
  have hlocks := B.notSynchronized
  have hts : ∀ w ∈ gT, w.before _ s = true := fun w h => atoms_spec (ws := Cond.code yX10_write cX10_write 2 none :: gT) B.pre w (List.mem_cons_of_mem _ h)
  have hown : s.vm.findClass RX10 = some m.cls := findClass_of_methodNamed B.named
  subst hsz
  have hD := hD0.self (sz := s.heap.size)
  generalize hAe : va_A w0 s.heap.size = A at hD hSD ⊢
  have hA : ∀ q : Nat, s.heap.size ≤ q → A q := fun q h => by rw [← hAe]; exact Or.inr h
  have hl := lv_entry ([.ref p0, .int p1]) (n := 2) (Nat.le_of_ble_eq_true rfl)
  rw [lg_entry_eq]
  generalize (lg_sl ([.ref p0, .int p1]) ++ List.replicate (2 - (lg_sl ([.ref p0, .int p1])).length) Slot.unset).toArray = ls at hl ⊢
  have hl : lv_has ls 2 [(0, .ref p0), (1, .int p1)] := hl
  refine nameQ (fun Q hQ => ?_)
  have hw : WD D cy GG A s wr_X10_write__13 wa_X10_write__13 Ps w0 Ps w0 s.heap [] := ⟨hT, hP, hD, va_S.rf, FR.rf, hT.1, [], (List.append_nil _).symm⟩
  refine lv_aload_n hx hb dX10_write_0 rfl (lv_at hl 0 rfl) ?_
  refine tg_get (ci := 10) (ts := ty_MODEL) (C := RX10) (T := TX10) (N := 49) hx hb hts inX10 hown hK hw h_p0 rfl rfl 37 (by decide) (hts _ tw_1174) (fun _ h9 => h9) (ft := vR 51) rfl dX10_write_1 (fun u_1 hv_u_1 m_u_1 => ?_)
  obtain ⟨vu_1, rfl, h_vu_1⟩ := hv_u_1
  refine lv_aload_n hx hb dX10_write_4 rfl (lv_at hl 0 rfl) ?_
  refine tg_mem (ci := 10) (C := RX10) (T := TX10) (N := 49) hx hb hts inX10 hown hK hw 38 m_f0_38 rfl (by decide) (hts _ tw_1175) (fun _ h9 => h9) dX10_write_5 ?_
  refine lv_iload_n hx hb dX10_write_8 rfl (lv_at hl 1 rfl) ?_
  refine tg_iast hx hb hK hw h_vu_1 rfl 5 19 r_f0_38 (by decide) r_p1 (by exact fun _ _ _ => by decide) (fun _ _ _ _ _ => trivial) (by decide) dX10_write_9 (fun ws H locs hw hF9 hU9 => ?_)
  have m_f0_38 := FLD.over hF9 m_f0_38 (by decide)
  refine lv_aload_n hx hb dX10_write_10 rfl (lv_at hl 0 rfl) ?_
  refine lv_dup hx hb dX10_write_11 rfl ?_
  refine tg_mem (ci := 10) (C := RX10) (T := TX10) (N := 49) hx hb hts inX10 hown hK hw 38 m_f0_38 rfl (by decide) (hts _ tw_1175) (fun _ h9 => h9) dX10_write_12 ?_
  refine lv_iconst (v := 1) hx hb dX10_write_15 (by decide) ?_
  refine lv_iadd hx hb dX10_write_16 (lv_topi (fun v_2 e_v_2 => ?_))
  obtain ⟨t_v_2, r_v_2⟩ := tq_add (lo := 6) (hi := 20) r_f0_38 rl_1 (by decide +kernel) e_v_2
  have t_v_2 : v_2.toInt = f0_38.toInt + 1 := t_v_2
  refine tg_put (ci := 10) (ts := ty_MODEL) (v := .int v_2) (ty := .int) (C := RX10) (T := TX10) (N := 49) hx hb hts inX10 tyX10 tyX10_ok nmX10 hown hK hw h_p0 rfl rfl 38 (by decide) (hts _ tw_1175) (fun _ h9 => h9) rfl (by decide +kernel) rfl rfl (ft := vI 0 64) rfl ⟨_, rfl, (r_v_2.to (by decide))⟩ (by decide) dX10_write_17 (fun ws H locs hw n_k_3 hF9 => ?_)
  subst hQ
  exact W.vret hx hb hr (fun t ht hW => ⟨⟨ws, rfl, ⟨⟨⟨_, n_k_3, r_v_2⟩, trivial⟩, hw.1, hw.2.2.2.2.1⟩, by rw [ht]; exact hw.2.1, va_K.moved hW.alike hK, hw.2.2.1⟩, hw.2.2.2.1.F ht⟩) hw.2.2.2.1.2.2 dX10_write_20
abbrev wr_X10_write__14 : List (Nat × Nat) := [(10, 38)]
abbrev wa_X10_write__14 : List Nat := [51]
set_option maxHeartbeats 4000000 in
set_option maxRecDepth 100000 in
theorem c_X10_write__14 (l : Launch) (D : va_G) (cy : Nat → ClassId) (z : Nat → Nat) (sz : Nat) (Ps : PSI) (w0 : va_W) (hT : HT cy GG Ps w0) (p0 : Nat) (p1 : Int32) (f0_38 : Int32) (h_p0 : (p0, 55) ∈ Ps) (r_p1 : RI p1 (-2147483648) 2147483647) (r_f0_38 : RI f0_38 5 18) (m_f0_38 : FLD w0 p0 10 38 (.int f0_38)) : Met l yX10_write (Cond.code yX10_write cX10_write 2 none :: gT) ({ frames := 0, cells := 0, slots := 0, locals := 200 } : Room) (va_Pc [.ref p0, .int p1] (PRE D cy z w0 sz)) (va_Qv (fun (u : va_W) => ((∃ v9 : Int32, FLD u p0 10 38 (.int v9) ∧ RI v9 6 19) ∧ True) ∧ HT cy GG Ps u ∧ FR wr_X10_write__14 wa_X10_write__14 Ps w0 u) (BB D cy (va_A w0 sz) (fun (u : va_W) => u)) (va_A w0 sz)) 0 0 (va_A w0 sz) := by
  refine Met.ofW (cc := cX10_write) (maxL := 2) (ret := none) (by decide) rfl ?_
  intro p e s m args below meth c s₁ B hml hv
  obtain ⟨rfl, hsz, hP, hK, hD0, hSD⟩ := hv
  have hx := B.exec
  have hb := B.bytes
  have hr := B.returns
  have hlocks := B.notSynchronized
  have hts : ∀ w ∈ gT, w.before _ s = true := fun w h => atoms_spec (ws := Cond.code yX10_write cX10_write 2 none :: gT) B.pre w (List.mem_cons_of_mem _ h)
  have hown : s.vm.findClass RX10 = some m.cls := findClass_of_methodNamed B.named
  subst hsz
  have hD := hD0.self (sz := s.heap.size)
  generalize hAe : va_A w0 s.heap.size = A at hD hSD ⊢
  have hA : ∀ q : Nat, s.heap.size ≤ q → A q := fun q h => by rw [← hAe]; exact Or.inr h
  have hl := lv_entry ([.ref p0, .int p1]) (n := 2) (Nat.le_of_ble_eq_true rfl)
  rw [lg_entry_eq]
  generalize (lg_sl ([.ref p0, .int p1]) ++ List.replicate (2 - (lg_sl ([.ref p0, .int p1])).length) Slot.unset).toArray = ls at hl ⊢
  have hl : lv_has ls 2 [(0, .ref p0), (1, .int p1)] := hl
  refine nameQ (fun Q hQ => ?_)
  have hw : WD D cy GG A s wr_X10_write__14 wa_X10_write__14 Ps w0 Ps w0 s.heap [] := ⟨hT, hP, hD, va_S.rf, FR.rf, hT.1, [], (List.append_nil _).symm⟩
  refine lv_aload_n hx hb dX10_write_0 rfl (lv_at hl 0 rfl) ?_
  refine tg_get (ci := 10) (ts := ty_MODEL) (C := RX10) (T := TX10) (N := 49) hx hb hts inX10 hown hK hw h_p0 rfl rfl 37 (by decide) (hts _ tw_1174) (fun _ h9 => h9) (ft := vR 51) rfl dX10_write_1 (fun u_1 hv_u_1 m_u_1 => ?_)
  obtain ⟨vu_1, rfl, h_vu_1⟩ := hv_u_1
  refine lv_aload_n hx hb dX10_write_4 rfl (lv_at hl 0 rfl) ?_
  refine tg_mem (ci := 10) (C := RX10) (T := TX10) (N := 49) hx hb hts inX10 hown hK hw 38 m_f0_38 rfl (by decide) (hts _ tw_1175) (fun _ h9 => h9) dX10_write_5 ?_
  refine lv_iload_n hx hb dX10_write_8 rfl (lv_at hl 1 rfl) ?_
  refine tg_iast hx hb hK hw h_vu_1 rfl 5 18 r_f0_38 (by decide) r_p1 (by exact fun _ _ _ => by decide) (fun _ _ _ _ _ => trivial) (by decide) dX10_write_9 (fun ws H locs hw hF9 hU9 => ?_)
  have m_f0_38 := FLD.over hF9 m_f0_38 (by decide)
  refine lv_aload_n hx hb dX10_write_10 rfl (lv_at hl 0 rfl) ?_
  refine lv_dup hx hb dX10_write_11 rfl ?_
  refine tg_mem (ci := 10) (C := RX10) (T := TX10) (N := 49) hx hb hts inX10 hown hK hw 38 m_f0_38 rfl (by decide) (hts _ tw_1175) (fun _ h9 => h9) dX10_write_12 ?_
  refine lv_iconst (v := 1) hx hb dX10_write_15 (by decide) ?_
  refine lv_iadd hx hb dX10_write_16 (lv_topi (fun v_2 e_v_2 => ?_))
  obtain ⟨t_v_2, r_v_2⟩ := tq_add (lo := 6) (hi := 19) r_f0_38 rl_1 (by decide +kernel) e_v_2
  have t_v_2 : v_2.toInt = f0_38.toInt + 1 := t_v_2
  refine tg_put (ci := 10) (ts := ty_MODEL) (v := .int v_2) (ty := .int) (C := RX10) (T := TX10) (N := 49) hx hb hts inX10 tyX10 tyX10_ok nmX10 hown hK hw h_p0 rfl rfl 38 (by decide) (hts _ tw_1175) (fun _ h9 => h9) rfl (by decide +kernel) rfl rfl (ft := vI 0 64) rfl ⟨_, rfl, (r_v_2.to (by decide))⟩ (by decide) dX10_write_17 (fun ws H locs hw n_k_3 hF9 => ?_)
  subst hQ
  exact W.vret hx hb hr (fun t ht hW => ⟨⟨ws, rfl, ⟨⟨⟨_, n_k_3, r_v_2⟩, trivial⟩, hw.1, hw.2.2.2.2.1⟩, by rw [ht]; exact hw.2.1, va_K.moved hW.alike hK, hw.2.2.1⟩, hw.2.2.2.1.F ht⟩) hw.2.2.2.1.2.2 dX10_write_20
abbrev wr_X10_writeWord__13 : List (Nat × Nat) := [(10, 38)]
abbrev wa_X10_writeWord__13 : List Nat := [51]
set_option maxHeartbeats 4000000 in
set_option maxRecDepth 100000 in
theorem c_X10_writeWord__13 (l : Launch) (D : va_G) (cy : Nat → ClassId) (z : Nat → Nat) (sz : Nat) (Ps : PSI) (w0 : va_W) (hT : HT cy GG Ps w0) (p0 : Nat) (p1 : Int64) (f0_38 : Int32) (h_p0 : (p0, 55) ∈ Ps) (r_p1 : RJ p1 1 2) (r_f0_38 : RI f0_38 5 18) (m_f0_38 : FLD w0 p0 10 38 (.int f0_38)) : Met l yX10_writeWord (Cond.code yX10_writeWord cX10_writeWord 3 none :: gT) ({ frames := 2, cells := 0, slots := 0, locals := 400 } : Room) (va_Pc [.ref p0, .long p1] (PRE D cy z w0 sz)) (va_Qv (fun (u : va_W) => ((∃ v9 : Int32, FLD u p0 10 38 (.int v9) ∧ RI v9 6 19) ∧ True) ∧ HT cy GG Ps u ∧ FR wr_X10_writeWord__13 wa_X10_writeWord__13 Ps w0 u) (BB D cy (va_A w0 sz) (fun (u : va_W) => u)) (va_A w0 sz)) 0 0 (va_A w0 sz) := by
  refine Met.ofW (cc := cX10_writeWord) (maxL := 3) (ret := none) (by decide) rfl ?_
  intro p e s m args below meth c s₁ B hml hv
  obtain ⟨rfl, hsz, hP, hK, hD0, hSD⟩ := hv
  have hx := B.exec
  have hb := B.bytes
  have hr := B.returns
  have hlocks := B.notSynchronized
  have hts : ∀ w ∈ gT, w.before _ s = true := fun w h => atoms_spec (ws := Cond.code yX10_writeWord cX10_writeWord 3 none :: gT) B.pre w (List.mem_cons_of_mem _ h)
  have hown : s.vm.findClass RX10 = some m.cls := findClass_of_methodNamed B.named
  subst hsz
  have hD := hD0.self (sz := s.heap.size)
  generalize hAe : va_A w0 s.heap.size = A at hD hSD ⊢
  have hA : ∀ q : Nat, s.heap.size ≤ q → A q := fun q h => by rw [← hAe]; exact Or.inr h
  have hl := lv_entry ([.ref p0, .long p1]) (n := 3) (Nat.le_of_ble_eq_true rfl)
  rw [lg_entry_eq]
  generalize (lg_sl ([.ref p0, .long p1]) ++ List.replicate (3 - (lg_sl ([.ref p0, .long p1])).length) Slot.unset).toArray = ls at hl ⊢
  have hl : lv_has ls 3 [(0, .ref p0), (1, .long p1)] := hl
  refine nameQ (fun Q hQ => ?_)
  have hw : WD D cy GG A s wr_X10_writeWord__13 wa_X10_writeWord__13 Ps w0 Ps w0 s.heap [] := ⟨hT, hP, hD, va_S.rf, FR.rf, hT.1, [], (List.append_nil _).symm⟩
  have B17 : ∀ (z0_38 : Int32) (ws : va_W) (H : Heap) (locs : List Loc) (ls : Array Slot), RJ p1 1 2 → RI z0_38 5 18 → FLD ws p0 10 38 (.int z0_38) → WD D cy GG A s wr_X10_writeWord__13 wa_X10_writeWord__13 Ps w0 Ps ws H locs → lv_has ls 3 [(0, .ref p0), (1, .long p1)] → W p l e (headSpec (Cond.code yX10_writeWord cX10_writeWord 3 none :: gT) ({ frames := 2, cells := 0, slots := 0, locals := 400 } : Room)).room s m ([.ref p0, .long p1] : List Value).toArray below meth c H locs 0 0 Q (F0 m 17 ls []) := by
    intro z0_38 ws H locs ls r_p1 r_z0_38 m_z0_38 hw hl
    refine lv_aload_n hx hb dX10_writeWord_17 rfl (lv_at hl 0 rfl) ?_
    refine lv_bipush (v := 96) hx hb dX10_writeWord_18 (by decide) ?_
    refine lv_lload_n hx hb dX10_writeWord_20 rfl (lv_at hl 1 rfl) ?_
    refine lv_ldc2 (v := 27) hx hb hown (hts _ tw_1312) dX10_writeWord_21 ?_
    refine lv_lrem hx hb dX10_writeWord_24 (by decide) (lv_topl (fun w_1 e_w_1 => ?_))
    have r_w_1 := rj_any w_1
    obtain ⟨v_2, e_v_2⟩ : ∃ q9 : Int32, (w_1 : Int64).toInt32 = q9 := ⟨_, rfl⟩
    refine lv_l2i (v := v_2) hx hb dX10_writeWord_25 e_v_2 ?_
    have r_v_2 := ri_any v_2
    refine lv_iadd hx hb dX10_writeWord_26 (lv_topi (fun v_3 e_v_3 => ?_))
    have r_v_3 := ri_any v_3
    refine tk_v (va_runV (As := [.int v_3]) (rest := []) ⟨hx, hb, hml, hown, hts⟩ (c_X10_write__14 l D cy z H.size Ps ws hw.1 p0 v_3 z0_38 h_p0 r_v_3 r_z0_38 m_z0_38) (cwV 1 hts (gV tw_1674 tw_1676 ts_98 tw_15 tw_1677) rfl rfl rfl (by decide +kernel) ⟨Nat.le_of_ble_eq_true rfl, Nat.le_of_ble_eq_true rfl⟩) (tg_preV hw hK hSD hA (ci := 10) (q := (RX10, TX10, 49)) rfl h_p0 rfl) rfl rfl hl.1 rfl (lv_room (Nat.le_of_ble_eq_true rfl)) dX10_writeWord_27 ⟨Nat.le_of_ble_eq_true rfl, Nat.le_of_ble_eq_true rfl⟩) hw hA ⟨by decide, by decide⟩ (fun ws H locs hp_v_4 hw hF9 => ?_)
    obtain ⟨v_5, m_v_5, r_v_5⟩ := (hp_v_4.1)
    subst hQ
    exact W.vret hx hb hr (fun t ht hW => ⟨⟨ws, rfl, ⟨⟨⟨_, m_v_5, r_v_5⟩, trivial⟩, hw.1, hw.2.2.2.2.1⟩, by rw [ht]; exact hw.2.1, va_K.moved hW.alike hK, hw.2.2.1⟩, hw.2.2.2.1.F ht⟩) hw.2.2.2.1.2.2 dX10_writeWord_30
  refine lv_lload_n hx hb dX10_writeWord_0 rfl (lv_at hl 1 rfl) ?_
  refine lv_ldc2 (v := 27) hx hb hown (hts _ tw_1312) dX10_writeWord_1 ?_
  refine W.lcmp hx hb dX10_writeWord_4 (lv_topi (fun v_6 e_v_6 => ?_))
  have r_v_6 := ri_any v_6
  refine lv_if_lt (tgt := 17) hx hb dX10_writeWord_5 (by decide) (fun c_5 => ?_) (fun c_5 => ?_)
  · have r_v_6 : RI v_6 (-2147483648) (-1) := rc_lt1 r_v_6 rl_0 (ti_lt c_5) (by decide)
    exact B17 f0_38 w0 _ _ ls r_p1 r_f0_38 m_f0_38 hw hl
  · have r_v_6 : RI v_6 0 2147483647 := rc_le2 rl_0 r_v_6 (ti_nlt c_5) (by decide)
    have r_p1 : RJ p1 27 2 := tq_lc_nlt r_p1 rk_27 e_v_6 c_5 (by decide)
    exact (r_p1.no (by decide)).elim
abbrev wr_X10_writeWord__12 : List (Nat × Nat) := [(10, 38)]
abbrev wa_X10_writeWord__12 : List Nat := [51]
set_option maxHeartbeats 4000000 in
set_option maxRecDepth 100000 in
theorem c_X10_writeWord__12 (l : Launch) (D : va_G) (cy : Nat → ClassId) (z : Nat → Nat) (sz : Nat) (Ps : PSI) (w0 : va_W) (hT : HT cy GG Ps w0) (p0 : Nat) (p1 : Int64) (f0_38 : Int32) (h_p0 : (p0, 55) ∈ Ps) (r_p1 : RJ p1 1 61) (r_f0_38 : RI f0_38 5 18) (m_f0_38 : FLD w0 p0 10 38 (.int f0_38)) : Met l yX10_writeWord (Cond.code yX10_writeWord cX10_writeWord 3 none :: gT) ({ frames := 3, cells := 0, slots := 0, locals := 600 } : Room) (va_Pc [.ref p0, .long p1] (PRE D cy z w0 sz)) (va_Qv (fun (u : va_W) => ((∃ v9 : Int32, FLD u p0 10 38 (.int v9) ∧ RI v9 6 20) ∧ True) ∧ HT cy GG Ps u ∧ FR wr_X10_writeWord__12 wa_X10_writeWord__12 Ps w0 u) (BB D cy (va_A w0 sz) (fun (u : va_W) => u)) (va_A w0 sz)) 0 0 (va_A w0 sz) := by
  refine Met.ofW (cc := cX10_writeWord) (maxL := 3) (ret := none) (by decide) rfl ?_
  intro p e s m args below meth c s₁ B hml hv
  obtain ⟨rfl, hsz, hP, hK, hD0, hSD⟩ := hv
  have hx := B.exec
  have hb := B.bytes
  have hr := B.returns
  have hlocks := B.notSynchronized
  have hts : ∀ w ∈ gT, w.before _ s = true := fun w h => atoms_spec (ws := Cond.code yX10_writeWord cX10_writeWord 3 none :: gT) B.pre w (List.mem_cons_of_mem _ h)
  have hown : s.vm.findClass RX10 = some m.cls := findClass_of_methodNamed B.named
  subst hsz
  have hD := hD0.self (sz := s.heap.size)
  generalize hAe : va_A w0 s.heap.size = A at hD hSD ⊢
  have hA : ∀ q : Nat, s.heap.size ≤ q → A q := fun q h => by rw [← hAe]; exact Or.inr h
  have hl := lv_entry ([.ref p0, .long p1]) (n := 3) (Nat.le_of_ble_eq_true rfl)
  rw [lg_entry_eq]
  generalize (lg_sl ([.ref p0, .long p1]) ++ List.replicate (3 - (lg_sl ([.ref p0, .long p1])).length) Slot.unset).toArray = ls at hl ⊢
  have hl : lv_has ls 3 [(0, .ref p0), (1, .long p1)] := hl
  refine nameQ (fun Q hQ => ?_)
  have hw : WD D cy GG A s wr_X10_writeWord__12 wa_X10_writeWord__12 Ps w0 Ps w0 s.heap [] := ⟨hT, hP, hD, va_S.rf, FR.rf, hT.1, [], (List.append_nil _).symm⟩
  have B17 : ∀ (z0_38 : Int32) (ws : va_W) (H : Heap) (locs : List Loc) (ls : Array Slot), RJ p1 1 61 → RI z0_38 5 19 → FLD ws p0 10 38 (.int z0_38) → WD D cy GG A s wr_X10_writeWord__12 wa_X10_writeWord__12 Ps w0 Ps ws H locs → lv_has ls 3 [(0, .ref p0), (1, .long p1)] → W p l e (headSpec (Cond.code yX10_writeWord cX10_writeWord 3 none :: gT) ({ frames := 3, cells := 0, slots := 0, locals := 600 } : Room)).room s m ([.ref p0, .long p1] : List Value).toArray below meth c H locs 0 0 Q (F0 m 17 ls []) := by
    intro z0_38 ws H locs ls r_p1 r_z0_38 m_z0_38 hw hl
    refine lv_aload_n hx hb dX10_writeWord_17 rfl (lv_at hl 0 rfl) ?_
    refine lv_bipush (v := 96) hx hb dX10_writeWord_18 (by decide) ?_
    refine lv_lload_n hx hb dX10_writeWord_20 rfl (lv_at hl 1 rfl) ?_
    refine lv_ldc2 (v := 27) hx hb hown (hts _ tw_1312) dX10_writeWord_21 ?_
    refine lv_lrem hx hb dX10_writeWord_24 (by decide) (lv_topl (fun w_1 e_w_1 => ?_))
    have r_w_1 := rj_any w_1
    obtain ⟨v_2, e_v_2⟩ : ∃ q9 : Int32, (w_1 : Int64).toInt32 = q9 := ⟨_, rfl⟩
    refine lv_l2i (v := v_2) hx hb dX10_writeWord_25 e_v_2 ?_
    have r_v_2 := ri_any v_2
    refine lv_iadd hx hb dX10_writeWord_26 (lv_topi (fun v_3 e_v_3 => ?_))
    have r_v_3 := ri_any v_3
    refine tk_v (va_runV (As := [.int v_3]) (rest := []) ⟨hx, hb, hml, hown, hts⟩ (c_X10_write__13 l D cy z H.size Ps ws hw.1 p0 v_3 z0_38 h_p0 r_v_3 r_z0_38 m_z0_38) (cwV 1 hts (gV tw_1674 tw_1676 ts_98 tw_15 tw_1677) rfl rfl rfl (by decide +kernel) ⟨Nat.le_of_ble_eq_true rfl, Nat.le_of_ble_eq_true rfl⟩) (tg_preV hw hK hSD hA (ci := 10) (q := (RX10, TX10, 49)) rfl h_p0 rfl) rfl rfl hl.1 rfl (lv_room (Nat.le_of_ble_eq_true rfl)) dX10_writeWord_27 ⟨Nat.le_of_ble_eq_true rfl, Nat.le_of_ble_eq_true rfl⟩) hw hA ⟨by decide, by decide⟩ (fun ws H locs hp_v_4 hw hF9 => ?_)
    obtain ⟨v_5, m_v_5, r_v_5⟩ := (hp_v_4.1)
    subst hQ
    exact W.vret hx hb hr (fun t ht hW => ⟨⟨ws, rfl, ⟨⟨⟨_, m_v_5, r_v_5⟩, trivial⟩, hw.1, hw.2.2.2.2.1⟩, by rw [ht]; exact hw.2.1, va_K.moved hW.alike hK, hw.2.2.1⟩, hw.2.2.2.1.F ht⟩) hw.2.2.2.1.2.2 dX10_writeWord_30
  refine lv_lload_n hx hb dX10_writeWord_0 rfl (lv_at hl 1 rfl) ?_
  refine lv_ldc2 (v := 27) hx hb hown (hts _ tw_1312) dX10_writeWord_1 ?_
  refine W.lcmp hx hb dX10_writeWord_4 (lv_topi (fun v_6 e_v_6 => ?_))
  have r_v_6 := ri_any v_6
  refine lv_if_lt (tgt := 17) hx hb dX10_writeWord_5 (by decide) (fun c_5 => ?_) (fun c_5 => ?_)
  · have r_v_6 : RI v_6 (-2147483648) (-1) := rc_lt1 r_v_6 rl_0 (ti_lt c_5) (by decide)
    have r_p1 : RJ p1 1 26 := tq_lc_lt r_p1 rk_27 e_v_6 c_5 (by decide)
    exact B17 f0_38 w0 _ _ ls (r_p1.to (by decide)) (r_f0_38.to (by decide)) m_f0_38 hw hl
  · have r_v_6 : RI v_6 0 2147483647 := rc_le2 rl_0 r_v_6 (ti_nlt c_5) (by decide)
    have r_p1 : RJ p1 27 61 := tq_lc_nlt r_p1 rk_27 e_v_6 c_5 (by decide)
    refine lv_aload_n hx hb dX10_writeWord_8 rfl (lv_at hl 0 rfl) ?_
    refine lv_lload_n hx hb dX10_writeWord_9 rfl (lv_at hl 1 rfl) ?_
    refine lv_ldc2 (v := 27) hx hb hown (hts _ tw_1312) dX10_writeWord_10 ?_
    refine lv_ldiv hx hb dX10_writeWord_13 (by decide) (lv_topl (fun w_7 e_w_7 => ?_))
    have r_w_7 := tq_ldiv (lo := 1) (hi := 2) r_p1 (by decide) e_w_7
    refine tk_v (va_runV (As := [.long w_7]) (rest := []) ⟨hx, hb, hml, hown, hts⟩ (c_X10_writeWord__13 l D cy z s.heap.size Ps w0 hw.1 p0 w_7 f0_38 h_p0 r_w_7 r_f0_38 m_f0_38) (cwV 1 hts (gV tw_1670 tw_1672 ts_97 tw_15 tw_1673) rfl rfl rfl (by decide +kernel) ⟨Nat.le_of_ble_eq_true rfl, Nat.le_of_ble_eq_true rfl⟩) (tg_preV hw hK hSD hA (ci := 10) (q := (RX10, TX10, 49)) rfl h_p0 rfl) rfl rfl hl.1 rfl (lv_room (Nat.le_of_ble_eq_true rfl)) dX10_writeWord_14 ⟨Nat.le_of_ble_eq_true rfl, Nat.le_of_ble_eq_true rfl⟩) hw hA ⟨by decide, by decide⟩ (fun ws H locs hp_v_8 hw hF9 => ?_)
    obtain ⟨v_9, m_v_9, r_v_9⟩ := (hp_v_8.1)
    exact B17 v_9 ws _ _ ls (r_p1.to (by decide)) (r_v_9.to (by decide)) m_v_9 hw hl
abbrev wr_X10_writeWord__11 : List (Nat × Nat) := [(10, 38)]
abbrev wa_X10_writeWord__11 : List Nat := [51]
set_option maxHeartbeats 4000000 in
set_option maxRecDepth 100000 in
theorem c_X10_writeWord__11 (l : Launch) (D : va_G) (cy : Nat → ClassId) (z : Nat → Nat) (sz : Nat) (Ps : PSI) (w0 : va_W) (hT : HT cy GG Ps w0) (p0 : Nat) (p1 : Int64) (f0_38 : Int32) (h_p0 : (p0, 55) ∈ Ps) (r_p1 : RJ p1 1 1659) (r_f0_38 : RI f0_38 5 18) (m_f0_38 : FLD w0 p0 10 38 (.int f0_38)) : Met l yX10_writeWord (Cond.code yX10_writeWord cX10_writeWord 3 none :: gT) ({ frames := 4, cells := 0, slots := 0, locals := 800 } : Room) (va_Pc [.ref p0, .long p1] (PRE D cy z w0 sz)) (va_Qv (fun (u : va_W) => ((∃ v9 : Int32, FLD u p0 10 38 (.int v9) ∧ RI v9 6 21) ∧ True) ∧ HT cy GG Ps u ∧ FR wr_X10_writeWord__11 wa_X10_writeWord__11 Ps w0 u) (BB D cy (va_A w0 sz) (fun (u : va_W) => u)) (va_A w0 sz)) 0 0 (va_A w0 sz) := by
  refine Met.ofW (cc := cX10_writeWord) (maxL := 3) (ret := none) (by decide) rfl ?_
  intro p e s m args below meth c s₁ B hml hv
  obtain ⟨rfl, hsz, hP, hK, hD0, hSD⟩ := hv
  have hx := B.exec
  have hb := B.bytes
  have hr := B.returns
  have hlocks := B.notSynchronized
  have hts : ∀ w ∈ gT, w.before _ s = true := fun w h => atoms_spec (ws := Cond.code yX10_writeWord cX10_writeWord 3 none :: gT) B.pre w (List.mem_cons_of_mem _ h)
  have hown : s.vm.findClass RX10 = some m.cls := findClass_of_methodNamed B.named
  subst hsz
  have hD := hD0.self (sz := s.heap.size)
  generalize hAe : va_A w0 s.heap.size = A at hD hSD ⊢
  have hA : ∀ q : Nat, s.heap.size ≤ q → A q := fun q h => by rw [← hAe]; exact Or.inr h
  have hl := lv_entry ([.ref p0, .long p1]) (n := 3) (Nat.le_of_ble_eq_true rfl)
  rw [lg_entry_eq]
  generalize (lg_sl ([.ref p0, .long p1]) ++ List.replicate (3 - (lg_sl ([.ref p0, .long p1])).length) Slot.unset).toArray = ls at hl ⊢
  have hl : lv_has ls 3 [(0, .ref p0), (1, .long p1)] := hl
  refine nameQ (fun Q hQ => ?_)
  have hw : WD D cy GG A s wr_X10_writeWord__11 wa_X10_writeWord__11 Ps w0 Ps w0 s.heap [] := ⟨hT, hP, hD, va_S.rf, FR.rf, hT.1, [], (List.append_nil _).symm⟩
  have B17 : ∀ (z0_38 : Int32) (ws : va_W) (H : Heap) (locs : List Loc) (ls : Array Slot), RJ p1 1 1659 → RI z0_38 5 20 → FLD ws p0 10 38 (.int z0_38) → WD D cy GG A s wr_X10_writeWord__11 wa_X10_writeWord__11 Ps w0 Ps ws H locs → lv_has ls 3 [(0, .ref p0), (1, .long p1)] → W p l e (headSpec (Cond.code yX10_writeWord cX10_writeWord 3 none :: gT) ({ frames := 4, cells := 0, slots := 0, locals := 800 } : Room)).room s m ([.ref p0, .long p1] : List Value).toArray below meth c H locs 0 0 Q (F0 m 17 ls []) := by
    intro z0_38 ws H locs ls r_p1 r_z0_38 m_z0_38 hw hl
    refine lv_aload_n hx hb dX10_writeWord_17 rfl (lv_at hl 0 rfl) ?_
    refine lv_bipush (v := 96) hx hb dX10_writeWord_18 (by decide) ?_
    refine lv_lload_n hx hb dX10_writeWord_20 rfl (lv_at hl 1 rfl) ?_
    refine lv_ldc2 (v := 27) hx hb hown (hts _ tw_1312) dX10_writeWord_21 ?_
    refine lv_lrem hx hb dX10_writeWord_24 (by decide) (lv_topl (fun w_1 e_w_1 => ?_))
    have r_w_1 := rj_any w_1
    obtain ⟨v_2, e_v_2⟩ : ∃ q9 : Int32, (w_1 : Int64).toInt32 = q9 := ⟨_, rfl⟩
    refine lv_l2i (v := v_2) hx hb dX10_writeWord_25 e_v_2 ?_
    have r_v_2 := ri_any v_2
    refine lv_iadd hx hb dX10_writeWord_26 (lv_topi (fun v_3 e_v_3 => ?_))
    have r_v_3 := ri_any v_3
    refine tk_v (va_runV (As := [.int v_3]) (rest := []) ⟨hx, hb, hml, hown, hts⟩ (c_X10_write__12 l D cy z H.size Ps ws hw.1 p0 v_3 z0_38 h_p0 r_v_3 r_z0_38 m_z0_38) (cwV 1 hts (gV tw_1674 tw_1676 ts_98 tw_15 tw_1677) rfl rfl rfl (by decide +kernel) ⟨Nat.le_of_ble_eq_true rfl, Nat.le_of_ble_eq_true rfl⟩) (tg_preV hw hK hSD hA (ci := 10) (q := (RX10, TX10, 49)) rfl h_p0 rfl) rfl rfl hl.1 rfl (lv_room (Nat.le_of_ble_eq_true rfl)) dX10_writeWord_27 ⟨Nat.le_of_ble_eq_true rfl, Nat.le_of_ble_eq_true rfl⟩) hw hA ⟨by decide, by decide⟩ (fun ws H locs hp_v_4 hw hF9 => ?_)
    obtain ⟨v_5, m_v_5, r_v_5⟩ := (hp_v_4.1)
    subst hQ
    exact W.vret hx hb hr (fun t ht hW => ⟨⟨ws, rfl, ⟨⟨⟨_, m_v_5, r_v_5⟩, trivial⟩, hw.1, hw.2.2.2.2.1⟩, by rw [ht]; exact hw.2.1, va_K.moved hW.alike hK, hw.2.2.1⟩, hw.2.2.2.1.F ht⟩) hw.2.2.2.1.2.2 dX10_writeWord_30
  refine lv_lload_n hx hb dX10_writeWord_0 rfl (lv_at hl 1 rfl) ?_
  refine lv_ldc2 (v := 27) hx hb hown (hts _ tw_1312) dX10_writeWord_1 ?_
  refine W.lcmp hx hb dX10_writeWord_4 (lv_topi (fun v_6 e_v_6 => ?_))
  have r_v_6 := ri_any v_6
  refine lv_if_lt (tgt := 17) hx hb dX10_writeWord_5 (by decide) (fun c_5 => ?_) (fun c_5 => ?_)
  · have r_v_6 : RI v_6 (-2147483648) (-1) := rc_lt1 r_v_6 rl_0 (ti_lt c_5) (by decide)
    have r_p1 : RJ p1 1 26 := tq_lc_lt r_p1 rk_27 e_v_6 c_5 (by decide)
    exact B17 f0_38 w0 _ _ ls (r_p1.to (by decide)) (r_f0_38.to (by decide)) m_f0_38 hw hl
  · have r_v_6 : RI v_6 0 2147483647 := rc_le2 rl_0 r_v_6 (ti_nlt c_5) (by decide)
    have r_p1 : RJ p1 27 1659 := tq_lc_nlt r_p1 rk_27 e_v_6 c_5 (by decide)
    refine lv_aload_n hx hb dX10_writeWord_8 rfl (lv_at hl 0 rfl) ?_
    refine lv_lload_n hx hb dX10_writeWord_9 rfl (lv_at hl 1 rfl) ?_
    refine lv_ldc2 (v := 27) hx hb hown (hts _ tw_1312) dX10_writeWord_10 ?_
    refine lv_ldiv hx hb dX10_writeWord_13 (by decide) (lv_topl (fun w_7 e_w_7 => ?_))
    have r_w_7 := tq_ldiv (lo := 1) (hi := 61) r_p1 (by decide) e_w_7
    refine tk_v (va_runV (As := [.long w_7]) (rest := []) ⟨hx, hb, hml, hown, hts⟩ (c_X10_writeWord__12 l D cy z s.heap.size Ps w0 hw.1 p0 w_7 f0_38 h_p0 r_w_7 r_f0_38 m_f0_38) (cwV 1 hts (gV tw_1670 tw_1672 ts_97 tw_15 tw_1673) rfl rfl rfl (by decide +kernel) ⟨Nat.le_of_ble_eq_true rfl, Nat.le_of_ble_eq_true rfl⟩) (tg_preV hw hK hSD hA (ci := 10) (q := (RX10, TX10, 49)) rfl h_p0 rfl) rfl rfl hl.1 rfl (lv_room (Nat.le_of_ble_eq_true rfl)) dX10_writeWord_14 ⟨Nat.le_of_ble_eq_true rfl, Nat.le_of_ble_eq_true rfl⟩) hw hA ⟨by decide, by decide⟩ (fun ws H locs hp_v_8 hw hF9 => ?_)
    obtain ⟨v_9, m_v_9, r_v_9⟩ := (hp_v_8.1)
    exact B17 v_9 ws _ _ ls (r_p1.to (by decide)) (r_v_9.to (by decide)) m_v_9 hw hl
abbrev wr_X10_writeWord__10 : List (Nat × Nat) := [(10, 38)]
abbrev wa_X10_writeWord__10 : List Nat := [51]
set_option maxHeartbeats 4000000 in
set_option maxRecDepth 100000 in
theorem c_X10_writeWord__10 (l : Launch) (D : va_G) (cy : Nat → ClassId) (z : Nat → Nat) (sz : Nat) (Ps : PSI) (w0 : va_W) (hT : HT cy GG Ps w0) (p0 : Nat) (p1 : Int64) (f0_38 : Int32) (h_p0 : (p0, 55) ∈ Ps) (r_p1 : RJ p1 1 44797) (r_f0_38 : RI f0_38 5 18) (m_f0_38 : FLD w0 p0 10 38 (.int f0_38)) : Met l yX10_writeWord (Cond.code yX10_writeWord cX10_writeWord 3 none :: gT) ({ frames := 5, cells := 0, slots := 0, locals := 1000 } : Room) (va_Pc [.ref p0, .long p1] (PRE D cy z w0 sz)) (va_Qv (fun (u : va_W) => ((∃ v9 : Int32, FLD u p0 10 38 (.int v9) ∧ RI v9 6 22) ∧ True) ∧ HT cy GG Ps u ∧ FR wr_X10_writeWord__10 wa_X10_writeWord__10 Ps w0 u) (BB D cy (va_A w0 sz) (fun (u : va_W) => u)) (va_A w0 sz)) 0 0 (va_A w0 sz) := by
  refine Met.ofW (cc := cX10_writeWord) (maxL := 3) (ret := none) (by decide) rfl ?_
  intro p e s m args below meth c s₁ B hml hv
  obtain ⟨rfl, hsz, hP, hK, hD0, hSD⟩ := hv
  have hx := B.exec
  have hb := B.bytes
  have hr := B.returns
  have hlocks := B.notSynchronized
  have hts : ∀ w ∈ gT, w.before _ s = true := fun w h => atoms_spec (ws := Cond.code yX10_writeWord cX10_writeWord 3 none :: gT) B.pre w (List.mem_cons_of_mem _ h)
  have hown : s.vm.findClass RX10 = some m.cls := findClass_of_methodNamed B.named
  subst hsz
  have hD := hD0.self (sz := s.heap.size)
  generalize hAe : va_A w0 s.heap.size = A at hD hSD ⊢
  have hA : ∀ q : Nat, s.heap.size ≤ q → A q := fun q h => by rw [← hAe]; exact Or.inr h
  have hl := lv_entry ([.ref p0, .long p1]) (n := 3) (Nat.le_of_ble_eq_true rfl)
  rw [lg_entry_eq]
  generalize (lg_sl ([.ref p0, .long p1]) ++ List.replicate (3 - (lg_sl ([.ref p0, .long p1])).length) Slot.unset).toArray = ls at hl ⊢
  have hl : lv_has ls 3 [(0, .ref p0), (1, .long p1)] := hl
  refine nameQ (fun Q hQ => ?_)
  have hw : WD D cy GG A s wr_X10_writeWord__10 wa_X10_writeWord__10 Ps w0 Ps w0 s.heap [] := ⟨hT, hP, hD, va_S.rf, FR.rf, hT.1, [], (List.append_nil _).symm⟩
  have B17 : ∀ (z0_38 : Int32) (ws : va_W) (H : Heap) (locs : List Loc) (ls : Array Slot), RJ p1 1 44797 → RI z0_38 5 21 → FLD ws p0 10 38 (.int z0_38) → WD D cy GG A s wr_X10_writeWord__10 wa_X10_writeWord__10 Ps w0 Ps ws H locs → lv_has ls 3 [(0, .ref p0), (1, .long p1)] → W p l e (headSpec (Cond.code yX10_writeWord cX10_writeWord 3 none :: gT) ({ frames := 5, cells := 0, slots := 0, locals := 1000 } : Room)).room s m ([.ref p0, .long p1] : List Value).toArray below meth c H locs 0 0 Q (F0 m 17 ls []) := by
    intro z0_38 ws H locs ls r_p1 r_z0_38 m_z0_38 hw hl
    refine lv_aload_n hx hb dX10_writeWord_17 rfl (lv_at hl 0 rfl) ?_
    refine lv_bipush (v := 96) hx hb dX10_writeWord_18 (by decide) ?_
    refine lv_lload_n hx hb dX10_writeWord_20 rfl (lv_at hl 1 rfl) ?_
    refine lv_ldc2 (v := 27) hx hb hown (hts _ tw_1312) dX10_writeWord_21 ?_
    refine lv_lrem hx hb dX10_writeWord_24 (by decide) (lv_topl (fun w_1 e_w_1 => ?_))
    have r_w_1 := rj_any w_1
    obtain ⟨v_2, e_v_2⟩ : ∃ q9 : Int32, (w_1 : Int64).toInt32 = q9 := ⟨_, rfl⟩
    refine lv_l2i (v := v_2) hx hb dX10_writeWord_25 e_v_2 ?_
    have r_v_2 := ri_any v_2
    refine lv_iadd hx hb dX10_writeWord_26 (lv_topi (fun v_3 e_v_3 => ?_))
    have r_v_3 := ri_any v_3
    refine tk_v (va_runV (As := [.int v_3]) (rest := []) ⟨hx, hb, hml, hown, hts⟩ (c_X10_write__11 l D cy z H.size Ps ws hw.1 p0 v_3 z0_38 h_p0 r_v_3 r_z0_38 m_z0_38) (cwV 1 hts (gV tw_1674 tw_1676 ts_98 tw_15 tw_1677) rfl rfl rfl (by decide +kernel) ⟨Nat.le_of_ble_eq_true rfl, Nat.le_of_ble_eq_true rfl⟩) (tg_preV hw hK hSD hA (ci := 10) (q := (RX10, TX10, 49)) rfl h_p0 rfl) rfl rfl hl.1 rfl (lv_room (Nat.le_of_ble_eq_true rfl)) dX10_writeWord_27 ⟨Nat.le_of_ble_eq_true rfl, Nat.le_of_ble_eq_true rfl⟩) hw hA ⟨by decide, by decide⟩ (fun ws H locs hp_v_4 hw hF9 => ?_)
    obtain ⟨v_5, m_v_5, r_v_5⟩ := (hp_v_4.1)
    subst hQ
    exact W.vret hx hb hr (fun t ht hW => ⟨⟨ws, rfl, ⟨⟨⟨_, m_v_5, r_v_5⟩, trivial⟩, hw.1, hw.2.2.2.2.1⟩, by rw [ht]; exact hw.2.1, va_K.moved hW.alike hK, hw.2.2.1⟩, hw.2.2.2.1.F ht⟩) hw.2.2.2.1.2.2 dX10_writeWord_30
  refine lv_lload_n hx hb dX10_writeWord_0 rfl (lv_at hl 1 rfl) ?_
  refine lv_ldc2 (v := 27) hx hb hown (hts _ tw_1312) dX10_writeWord_1 ?_
  refine W.lcmp hx hb dX10_writeWord_4 (lv_topi (fun v_6 e_v_6 => ?_))
  have r_v_6 := ri_any v_6
  refine lv_if_lt (tgt := 17) hx hb dX10_writeWord_5 (by decide) (fun c_5 => ?_) (fun c_5 => ?_)
  · have r_v_6 : RI v_6 (-2147483648) (-1) := rc_lt1 r_v_6 rl_0 (ti_lt c_5) (by decide)
    have r_p1 : RJ p1 1 26 := tq_lc_lt r_p1 rk_27 e_v_6 c_5 (by decide)
    exact B17 f0_38 w0 _ _ ls (r_p1.to (by decide)) (r_f0_38.to (by decide)) m_f0_38 hw hl
  · have r_v_6 : RI v_6 0 2147483647 := rc_le2 rl_0 r_v_6 (ti_nlt c_5) (by decide)
    have r_p1 : RJ p1 27 44797 := tq_lc_nlt r_p1 rk_27 e_v_6 c_5 (by decide)
    refine lv_aload_n hx hb dX10_writeWord_8 rfl (lv_at hl 0 rfl) ?_
    refine lv_lload_n hx hb dX10_writeWord_9 rfl (lv_at hl 1 rfl) ?_
    refine lv_ldc2 (v := 27) hx hb hown (hts _ tw_1312) dX10_writeWord_10 ?_
    refine lv_ldiv hx hb dX10_writeWord_13 (by decide) (lv_topl (fun w_7 e_w_7 => ?_))
    have r_w_7 := tq_ldiv (lo := 1) (hi := 1659) r_p1 (by decide) e_w_7
    refine tk_v (va_runV (As := [.long w_7]) (rest := []) ⟨hx, hb, hml, hown, hts⟩ (c_X10_writeWord__11 l D cy z s.heap.size Ps w0 hw.1 p0 w_7 f0_38 h_p0 r_w_7 r_f0_38 m_f0_38) (cwV 1 hts (gV tw_1670 tw_1672 ts_97 tw_15 tw_1673) rfl rfl rfl (by decide +kernel) ⟨Nat.le_of_ble_eq_true rfl, Nat.le_of_ble_eq_true rfl⟩) (tg_preV hw hK hSD hA (ci := 10) (q := (RX10, TX10, 49)) rfl h_p0 rfl) rfl rfl hl.1 rfl (lv_room (Nat.le_of_ble_eq_true rfl)) dX10_writeWord_14 ⟨Nat.le_of_ble_eq_true rfl, Nat.le_of_ble_eq_true rfl⟩) hw hA ⟨by decide, by decide⟩ (fun ws H locs hp_v_8 hw hF9 => ?_)
    obtain ⟨v_9, m_v_9, r_v_9⟩ := (hp_v_8.1)
    exact B17 v_9 ws _ _ ls (r_p1.to (by decide)) (r_v_9.to (by decide)) m_v_9 hw hl
abbrev wr_X10_writeWord__9 : List (Nat × Nat) := [(10, 38)]
abbrev wa_X10_writeWord__9 : List Nat := [51]
set_option maxHeartbeats 4000000 in
set_option maxRecDepth 100000 in
theorem c_X10_writeWord__9 (l : Launch) (D : va_G) (cy : Nat → ClassId) (z : Nat → Nat) (sz : Nat) (Ps : PSI) (w0 : va_W) (hT : HT cy GG Ps w0) (p0 : Nat) (p1 : Int64) (f0_38 : Int32) (h_p0 : (p0, 55) ∈ Ps) (r_p1 : RJ p1 1 1209527) (r_f0_38 : RI f0_38 5 18) (m_f0_38 : FLD w0 p0 10 38 (.int f0_38)) : Met l yX10_writeWord (Cond.code yX10_writeWord cX10_writeWord 3 none :: gT) ({ frames := 6, cells := 0, slots := 0, locals := 1200 } : Room) (va_Pc [.ref p0, .long p1] (PRE D cy z w0 sz)) (va_Qv (fun (u : va_W) => ((∃ v9 : Int32, FLD u p0 10 38 (.int v9) ∧ RI v9 6 23) ∧ True) ∧ HT cy GG Ps u ∧ FR wr_X10_writeWord__9 wa_X10_writeWord__9 Ps w0 u) (BB D cy (va_A w0 sz) (fun (u : va_W) => u)) (va_A w0 sz)) 0 0 (va_A w0 sz) := by
  refine Met.ofW (cc := cX10_writeWord) (maxL := 3) (ret := none) (by decide) rfl ?_
  intro p e s m args below meth c s₁ B hml hv
  obtain ⟨rfl, hsz, hP, hK, hD0, hSD⟩ := hv
  have hx := B.exec
  have hb := B.bytes
  have hr := B.returns
  have hlocks := B.notSynchronized
  have hts : ∀ w ∈ gT, w.before _ s = true := fun w h => atoms_spec (ws := Cond.code yX10_writeWord cX10_writeWord 3 none :: gT) B.pre w (List.mem_cons_of_mem _ h)
  have hown : s.vm.findClass RX10 = some m.cls := findClass_of_methodNamed B.named
  subst hsz
  have hD := hD0.self (sz := s.heap.size)
  generalize hAe : va_A w0 s.heap.size = A at hD hSD ⊢
  have hA : ∀ q : Nat, s.heap.size ≤ q → A q := fun q h => by rw [← hAe]; exact Or.inr h
  have hl := lv_entry ([.ref p0, .long p1]) (n := 3) (Nat.le_of_ble_eq_true rfl)
  rw [lg_entry_eq]
  generalize (lg_sl ([.ref p0, .long p1]) ++ List.replicate (3 - (lg_sl ([.ref p0, .long p1])).length) Slot.unset).toArray = ls at hl ⊢
  have hl : lv_has ls 3 [(0, .ref p0), (1, .long p1)] := hl
  refine nameQ (fun Q hQ => ?_)
  have hw : WD D cy GG A s wr_X10_writeWord__9 wa_X10_writeWord__9 Ps w0 Ps w0 s.heap [] := ⟨hT, hP, hD, va_S.rf, FR.rf, hT.1, [], (List.append_nil _).symm⟩
  have B17 : ∀ (z0_38 : Int32) (ws : va_W) (H : Heap) (locs : List Loc) (ls : Array Slot), RJ p1 1 1209527 → RI z0_38 5 22 → FLD ws p0 10 38 (.int z0_38) → WD D cy GG A s wr_X10_writeWord__9 wa_X10_writeWord__9 Ps w0 Ps ws H locs → lv_has ls 3 [(0, .ref p0), (1, .long p1)] → W p l e (headSpec (Cond.code yX10_writeWord cX10_writeWord 3 none :: gT) ({ frames := 6, cells := 0, slots := 0, locals := 1200 } : Room)).room s m ([.ref p0, .long p1] : List Value).toArray below meth c H locs 0 0 Q (F0 m 17 ls []) := by
    intro z0_38 ws H locs ls r_p1 r_z0_38 m_z0_38 hw hl
    refine lv_aload_n hx hb dX10_writeWord_17 rfl (lv_at hl 0 rfl) ?_
    refine lv_bipush (v := 96) hx hb dX10_writeWord_18 (by decide) ?_
    refine lv_lload_n hx hb dX10_writeWord_20 rfl (lv_at hl 1 rfl) ?_
    refine lv_ldc2 (v := 27) hx hb hown (hts _ tw_1312) dX10_writeWord_21 ?_
    refine lv_lrem hx hb dX10_writeWord_24 (by decide) (lv_topl (fun w_1 e_w_1 => ?_))
    have r_w_1 := rj_any w_1
    obtain ⟨v_2, e_v_2⟩ : ∃ q9 : Int32, (w_1 : Int64).toInt32 = q9 := ⟨_, rfl⟩
    refine lv_l2i (v := v_2) hx hb dX10_writeWord_25 e_v_2 ?_
    have r_v_2 := ri_any v_2
    refine lv_iadd hx hb dX10_writeWord_26 (lv_topi (fun v_3 e_v_3 => ?_))
    have r_v_3 := ri_any v_3
    refine tk_v (va_runV (As := [.int v_3]) (rest := []) ⟨hx, hb, hml, hown, hts⟩ (c_X10_write__10 l D cy z H.size Ps ws hw.1 p0 v_3 z0_38 h_p0 r_v_3 r_z0_38 m_z0_38) (cwV 1 hts (gV tw_1674 tw_1676 ts_98 tw_15 tw_1677) rfl rfl rfl (by decide +kernel) ⟨Nat.le_of_ble_eq_true rfl, Nat.le_of_ble_eq_true rfl⟩) (tg_preV hw hK hSD hA (ci := 10) (q := (RX10, TX10, 49)) rfl h_p0 rfl) rfl rfl hl.1 rfl (lv_room (Nat.le_of_ble_eq_true rfl)) dX10_writeWord_27 ⟨Nat.le_of_ble_eq_true rfl, Nat.le_of_ble_eq_true rfl⟩) hw hA ⟨by decide, by decide⟩ (fun ws H locs hp_v_4 hw hF9 => ?_)
    obtain ⟨v_5, m_v_5, r_v_5⟩ := (hp_v_4.1)
    subst hQ
    exact W.vret hx hb hr (fun t ht hW => ⟨⟨ws, rfl, ⟨⟨⟨_, m_v_5, r_v_5⟩, trivial⟩, hw.1, hw.2.2.2.2.1⟩, by rw [ht]; exact hw.2.1, va_K.moved hW.alike hK, hw.2.2.1⟩, hw.2.2.2.1.F ht⟩) hw.2.2.2.1.2.2 dX10_writeWord_30
  refine lv_lload_n hx hb dX10_writeWord_0 rfl (lv_at hl 1 rfl) ?_
  refine lv_ldc2 (v := 27) hx hb hown (hts _ tw_1312) dX10_writeWord_1 ?_
  refine W.lcmp hx hb dX10_writeWord_4 (lv_topi (fun v_6 e_v_6 => ?_))
  have r_v_6 := ri_any v_6
  refine lv_if_lt (tgt := 17) hx hb dX10_writeWord_5 (by decide) (fun c_5 => ?_) (fun c_5 => ?_)
  · have r_v_6 : RI v_6 (-2147483648) (-1) := rc_lt1 r_v_6 rl_0 (ti_lt c_5) (by decide)
    have r_p1 : RJ p1 1 26 := tq_lc_lt r_p1 rk_27 e_v_6 c_5 (by decide)
    exact B17 f0_38 w0 _ _ ls (r_p1.to (by decide)) (r_f0_38.to (by decide)) m_f0_38 hw hl
  · have r_v_6 : RI v_6 0 2147483647 := rc_le2 rl_0 r_v_6 (ti_nlt c_5) (by decide)
    have r_p1 : RJ p1 27 1209527 := tq_lc_nlt r_p1 rk_27 e_v_6 c_5 (by decide)
    refine lv_aload_n hx hb dX10_writeWord_8 rfl (lv_at hl 0 rfl) ?_
    refine lv_lload_n hx hb dX10_writeWord_9 rfl (lv_at hl 1 rfl) ?_
    refine lv_ldc2 (v := 27) hx hb hown (hts _ tw_1312) dX10_writeWord_10 ?_
    refine lv_ldiv hx hb dX10_writeWord_13 (by decide) (lv_topl (fun w_7 e_w_7 => ?_))
    have r_w_7 := tq_ldiv (lo := 1) (hi := 44797) r_p1 (by decide) e_w_7
    refine tk_v (va_runV (As := [.long w_7]) (rest := []) ⟨hx, hb, hml, hown, hts⟩ (c_X10_writeWord__10 l D cy z s.heap.size Ps w0 hw.1 p0 w_7 f0_38 h_p0 r_w_7 r_f0_38 m_f0_38) (cwV 1 hts (gV tw_1670 tw_1672 ts_97 tw_15 tw_1673) rfl rfl rfl (by decide +kernel) ⟨Nat.le_of_ble_eq_true rfl, Nat.le_of_ble_eq_true rfl⟩) (tg_preV hw hK hSD hA (ci := 10) (q := (RX10, TX10, 49)) rfl h_p0 rfl) rfl rfl hl.1 rfl (lv_room (Nat.le_of_ble_eq_true rfl)) dX10_writeWord_14 ⟨Nat.le_of_ble_eq_true rfl, Nat.le_of_ble_eq_true rfl⟩) hw hA ⟨by decide, by decide⟩ (fun ws H locs hp_v_8 hw hF9 => ?_)
    obtain ⟨v_9, m_v_9, r_v_9⟩ := (hp_v_8.1)
    exact B17 v_9 ws _ _ ls (r_p1.to (by decide)) (r_v_9.to (by decide)) m_v_9 hw hl
abbrev wr_X10_writeWord__8 : List (Nat × Nat) := [(10, 38)]
abbrev wa_X10_writeWord__8 : List Nat := [51]
set_option maxHeartbeats 4000000 in
set_option maxRecDepth 100000 in
theorem c_X10_writeWord__8 (l : Launch) (D : va_G) (cy : Nat → ClassId) (z : Nat → Nat) (sz : Nat) (Ps : PSI) (w0 : va_W) (hT : HT cy GG Ps w0) (p0 : Nat) (p1 : Int64) (f0_38 : Int32) (h_p0 : (p0, 55) ∈ Ps) (r_p1 : RJ p1 1 32657250) (r_f0_38 : RI f0_38 5 18) (m_f0_38 : FLD w0 p0 10 38 (.int f0_38)) : Met l yX10_writeWord (Cond.code yX10_writeWord cX10_writeWord 3 none :: gT) ({ frames := 7, cells := 0, slots := 0, locals := 1400 } : Room) (va_Pc [.ref p0, .long p1] (PRE D cy z w0 sz)) (va_Qv (fun (u : va_W) => ((∃ v9 : Int32, FLD u p0 10 38 (.int v9) ∧ RI v9 6 24) ∧ True) ∧ HT cy GG Ps u ∧ FR wr_X10_writeWord__8 wa_X10_writeWord__8 Ps w0 u) (BB D cy (va_A w0 sz) (fun (u : va_W) => u)) (va_A w0 sz)) 0 0 (va_A w0 sz) := by
  refine Met.ofW (cc := cX10_writeWord) (maxL := 3) (ret := none) (by decide) rfl ?_
  intro p e s m args below meth c s₁ B hml hv
  obtain ⟨rfl, hsz, hP, hK, hD0, hSD⟩ := hv
  have hx := B.exec
  have hb := B.bytes
  have hr := B.returns
  have hlocks := B.notSynchronized
  have hts : ∀ w ∈ gT, w.before _ s = true := fun w h => atoms_spec (ws := Cond.code yX10_writeWord cX10_writeWord 3 none :: gT) B.pre w (List.mem_cons_of_mem _ h)
  have hown : s.vm.findClass RX10 = some m.cls := findClass_of_methodNamed B.named
  subst hsz
  have hD := hD0.self (sz := s.heap.size)
  generalize hAe : va_A w0 s.heap.size = A at hD hSD ⊢
  have hA : ∀ q : Nat, s.heap.size ≤ q → A q := fun q h => by rw [← hAe]; exact Or.inr h
  have hl := lv_entry ([.ref p0, .long p1]) (n := 3) (Nat.le_of_ble_eq_true rfl)
  rw [lg_entry_eq]
  generalize (lg_sl ([.ref p0, .long p1]) ++ List.replicate (3 - (lg_sl ([.ref p0, .long p1])).length) Slot.unset).toArray = ls at hl ⊢
  have hl : lv_has ls 3 [(0, .ref p0), (1, .long p1)] := hl
  refine nameQ (fun Q hQ => ?_)
  have hw : WD D cy GG A s wr_X10_writeWord__8 wa_X10_writeWord__8 Ps w0 Ps w0 s.heap [] := ⟨hT, hP, hD, va_S.rf, FR.rf, hT.1, [], (List.append_nil _).symm⟩
  have B17 : ∀ (z0_38 : Int32) (ws : va_W) (H : Heap) (locs : List Loc) (ls : Array Slot), RJ p1 1 32657250 → RI z0_38 5 23 → FLD ws p0 10 38 (.int z0_38) → WD D cy GG A s wr_X10_writeWord__8 wa_X10_writeWord__8 Ps w0 Ps ws H locs → lv_has ls 3 [(0, .ref p0), (1, .long p1)] → W p l e (headSpec (Cond.code yX10_writeWord cX10_writeWord 3 none :: gT) ({ frames := 7, cells := 0, slots := 0, locals := 1400 } : Room)).room s m ([.ref p0, .long p1] : List Value).toArray below meth c H locs 0 0 Q (F0 m 17 ls []) := by
    intro z0_38 ws H locs ls r_p1 r_z0_38 m_z0_38 hw hl
    refine lv_aload_n hx hb dX10_writeWord_17 rfl (lv_at hl 0 rfl) ?_
    refine lv_bipush (v := 96) hx hb dX10_writeWord_18 (by decide) ?_
    refine lv_lload_n hx hb dX10_writeWord_20 rfl (lv_at hl 1 rfl) ?_
    refine lv_ldc2 (v := 27) hx hb hown (hts _ tw_1312) dX10_writeWord_21 ?_
    refine lv_lrem hx hb dX10_writeWord_24 (by decide) (lv_topl (fun w_1 e_w_1 => ?_))
    have r_w_1 := rj_any w_1
    obtain ⟨v_2, e_v_2⟩ : ∃ q9 : Int32, (w_1 : Int64).toInt32 = q9 := ⟨_, rfl⟩
    refine lv_l2i (v := v_2) hx hb dX10_writeWord_25 e_v_2 ?_
    have r_v_2 := ri_any v_2
    refine lv_iadd hx hb dX10_writeWord_26 (lv_topi (fun v_3 e_v_3 => ?_))
    have r_v_3 := ri_any v_3
    refine tk_v (va_runV (As := [.int v_3]) (rest := []) ⟨hx, hb, hml, hown, hts⟩ (c_X10_write__9 l D cy z H.size Ps ws hw.1 p0 v_3 z0_38 h_p0 r_v_3 r_z0_38 m_z0_38) (cwV 1 hts (gV tw_1674 tw_1676 ts_98 tw_15 tw_1677) rfl rfl rfl (by decide +kernel) ⟨Nat.le_of_ble_eq_true rfl, Nat.le_of_ble_eq_true rfl⟩) (tg_preV hw hK hSD hA (ci := 10) (q := (RX10, TX10, 49)) rfl h_p0 rfl) rfl rfl hl.1 rfl (lv_room (Nat.le_of_ble_eq_true rfl)) dX10_writeWord_27 ⟨Nat.le_of_ble_eq_true rfl, Nat.le_of_ble_eq_true rfl⟩) hw hA ⟨by decide, by decide⟩ (fun ws H locs hp_v_4 hw hF9 => ?_)
    obtain ⟨v_5, m_v_5, r_v_5⟩ := (hp_v_4.1)
    subst hQ
    exact W.vret hx hb hr (fun t ht hW => ⟨⟨ws, rfl, ⟨⟨⟨_, m_v_5, r_v_5⟩, trivial⟩, hw.1, hw.2.2.2.2.1⟩, by rw [ht]; exact hw.2.1, va_K.moved hW.alike hK, hw.2.2.1⟩, hw.2.2.2.1.F ht⟩) hw.2.2.2.1.2.2 dX10_writeWord_30
  refine lv_lload_n hx hb dX10_writeWord_0 rfl (lv_at hl 1 rfl) ?_
  refine lv_ldc2 (v := 27) hx hb hown (hts _ tw_1312) dX10_writeWord_1 ?_
  refine W.lcmp hx hb dX10_writeWord_4 (lv_topi (fun v_6 e_v_6 => ?_))
  have r_v_6 := ri_any v_6
  refine lv_if_lt (tgt := 17) hx hb dX10_writeWord_5 (by decide) (fun c_5 => ?_) (fun c_5 => ?_)
  · have r_v_6 : RI v_6 (-2147483648) (-1) := rc_lt1 r_v_6 rl_0 (ti_lt c_5) (by decide)
    have r_p1 : RJ p1 1 26 := tq_lc_lt r_p1 rk_27 e_v_6 c_5 (by decide)
    exact B17 f0_38 w0 _ _ ls (r_p1.to (by decide)) (r_f0_38.to (by decide)) m_f0_38 hw hl
  · have r_v_6 : RI v_6 0 2147483647 := rc_le2 rl_0 r_v_6 (ti_nlt c_5) (by decide)
    have r_p1 : RJ p1 27 32657250 := tq_lc_nlt r_p1 rk_27 e_v_6 c_5 (by decide)
    refine lv_aload_n hx hb dX10_writeWord_8 rfl (lv_at hl 0 rfl) ?_
    refine lv_lload_n hx hb dX10_writeWord_9 rfl (lv_at hl 1 rfl) ?_
    refine lv_ldc2 (v := 27) hx hb hown (hts _ tw_1312) dX10_writeWord_10 ?_
    refine lv_ldiv hx hb dX10_writeWord_13 (by decide) (lv_topl (fun w_7 e_w_7 => ?_))
    have r_w_7 := tq_ldiv (lo := 1) (hi := 1209527) r_p1 (by decide) e_w_7
    refine tk_v (va_runV (As := [.long w_7]) (rest := []) ⟨hx, hb, hml, hown, hts⟩ (c_X10_writeWord__9 l D cy z s.heap.size Ps w0 hw.1 p0 w_7 f0_38 h_p0 r_w_7 r_f0_38 m_f0_38) (cwV 1 hts (gV tw_1670 tw_1672 ts_97 tw_15 tw_1673) rfl rfl rfl (by decide +kernel) ⟨Nat.le_of_ble_eq_true rfl, Nat.le_of_ble_eq_true rfl⟩) (tg_preV hw hK hSD hA (ci := 10) (q := (RX10, TX10, 49)) rfl h_p0 rfl) rfl rfl hl.1 rfl (lv_room (Nat.le_of_ble_eq_true rfl)) dX10_writeWord_14 ⟨Nat.le_of_ble_eq_true rfl, Nat.le_of_ble_eq_true rfl⟩) hw hA ⟨by decide, by decide⟩ (fun ws H locs hp_v_8 hw hF9 => ?_)
    obtain ⟨v_9, m_v_9, r_v_9⟩ := (hp_v_8.1)
    exact B17 v_9 ws _ _ ls (r_p1.to (by decide)) (r_v_9.to (by decide)) m_v_9 hw hl
abbrev wr_X10_writeWord__7 : List (Nat × Nat) := [(10, 38)]
abbrev wa_X10_writeWord__7 : List Nat := [51]
set_option maxHeartbeats 4000000 in
set_option maxRecDepth 100000 in
theorem c_X10_writeWord__7 (l : Launch) (D : va_G) (cy : Nat → ClassId) (z : Nat → Nat) (sz : Nat) (Ps : PSI) (w0 : va_W) (hT : HT cy GG Ps w0) (p0 : Nat) (p1 : Int64) (f0_38 : Int32) (h_p0 : (p0, 55) ∈ Ps) (r_p1 : RJ p1 1 881745755) (r_f0_38 : RI f0_38 5 18) (m_f0_38 : FLD w0 p0 10 38 (.int f0_38)) : Met l yX10_writeWord (Cond.code yX10_writeWord cX10_writeWord 3 none :: gT) ({ frames := 8, cells := 0, slots := 0, locals := 1600 } : Room) (va_Pc [.ref p0, .long p1] (PRE D cy z w0 sz)) (va_Qv (fun (u : va_W) => ((∃ v9 : Int32, FLD u p0 10 38 (.int v9) ∧ RI v9 6 25) ∧ True) ∧ HT cy GG Ps u ∧ FR wr_X10_writeWord__7 wa_X10_writeWord__7 Ps w0 u) (BB D cy (va_A w0 sz) (fun (u : va_W) => u)) (va_A w0 sz)) 0 0 (va_A w0 sz) := by
  refine Met.ofW (cc := cX10_writeWord) (maxL := 3) (ret := none) (by decide) rfl ?_
  intro p e s m args below meth c s₁ B hml hv
  obtain ⟨rfl, hsz, hP, hK, hD0, hSD⟩ := hv
  have hx := B.exec
  have hb := B.bytes
  have hr := B.returns
  have hlocks := B.notSynchronized
  have hts : ∀ w ∈ gT, w.before _ s = true := fun w h => atoms_spec (ws := Cond.code yX10_writeWord cX10_writeWord 3 none :: gT) B.pre w (List.mem_cons_of_mem _ h)
  have hown : s.vm.findClass RX10 = some m.cls := findClass_of_methodNamed B.named
  subst hsz
  have hD := hD0.self (sz := s.heap.size)
  generalize hAe : va_A w0 s.heap.size = A at hD hSD ⊢
  have hA : ∀ q : Nat, s.heap.size ≤ q → A q := fun q h => by rw [← hAe]; exact Or.inr h
  have hl := lv_entry ([.ref p0, .long p1]) (n := 3) (Nat.le_of_ble_eq_true rfl)
  rw [lg_entry_eq]
  generalize (lg_sl ([.ref p0, .long p1]) ++ List.replicate (3 - (lg_sl ([.ref p0, .long p1])).length) Slot.unset).toArray = ls at hl ⊢
  have hl : lv_has ls 3 [(0, .ref p0), (1, .long p1)] := hl
  refine nameQ (fun Q hQ => ?_)
  have hw : WD D cy GG A s wr_X10_writeWord__7 wa_X10_writeWord__7 Ps w0 Ps w0 s.heap [] := ⟨hT, hP, hD, va_S.rf, FR.rf, hT.1, [], (List.append_nil _).symm⟩
  have B17 : ∀ (z0_38 : Int32) (ws : va_W) (H : Heap) (locs : List Loc) (ls : Array Slot), RJ p1 1 881745755 → RI z0_38 5 24 → FLD ws p0 10 38 (.int z0_38) → WD D cy GG A s wr_X10_writeWord__7 wa_X10_writeWord__7 Ps w0 Ps ws H locs → lv_has ls 3 [(0, .ref p0), (1, .long p1)] → W p l e (headSpec (Cond.code yX10_writeWord cX10_writeWord 3 none :: gT) ({ frames := 8, cells := 0, slots := 0, locals := 1600 } : Room)).room s m ([.ref p0, .long p1] : List Value).toArray below meth c H locs 0 0 Q (F0 m 17 ls []) := by
    intro z0_38 ws H locs ls r_p1 r_z0_38 m_z0_38 hw hl
    refine lv_aload_n hx hb dX10_writeWord_17 rfl (lv_at hl 0 rfl) ?_
    refine lv_bipush (v := 96) hx hb dX10_writeWord_18 (by decide) ?_
    refine lv_lload_n hx hb dX10_writeWord_20 rfl (lv_at hl 1 rfl) ?_
    refine lv_ldc2 (v := 27) hx hb hown (hts _ tw_1312) dX10_writeWord_21 ?_
    refine lv_lrem hx hb dX10_writeWord_24 (by decide) (lv_topl (fun w_1 e_w_1 => ?_))
    have r_w_1 := rj_any w_1
    obtain ⟨v_2, e_v_2⟩ : ∃ q9 : Int32, (w_1 : Int64).toInt32 = q9 := ⟨_, rfl⟩
    refine lv_l2i (v := v_2) hx hb dX10_writeWord_25 e_v_2 ?_
    have r_v_2 := ri_any v_2
    refine lv_iadd hx hb dX10_writeWord_26 (lv_topi (fun v_3 e_v_3 => ?_))
    have r_v_3 := ri_any v_3
    refine tk_v (va_runV (As := [.int v_3]) (rest := []) ⟨hx, hb, hml, hown, hts⟩ (c_X10_write__8 l D cy z H.size Ps ws hw.1 p0 v_3 z0_38 h_p0 r_v_3 r_z0_38 m_z0_38) (cwV 1 hts (gV tw_1674 tw_1676 ts_98 tw_15 tw_1677) rfl rfl rfl (by decide +kernel) ⟨Nat.le_of_ble_eq_true rfl, Nat.le_of_ble_eq_true rfl⟩) (tg_preV hw hK hSD hA (ci := 10) (q := (RX10, TX10, 49)) rfl h_p0 rfl) rfl rfl hl.1 rfl (lv_room (Nat.le_of_ble_eq_true rfl)) dX10_writeWord_27 ⟨Nat.le_of_ble_eq_true rfl, Nat.le_of_ble_eq_true rfl⟩) hw hA ⟨by decide, by decide⟩ (fun ws H locs hp_v_4 hw hF9 => ?_)
    obtain ⟨v_5, m_v_5, r_v_5⟩ := (hp_v_4.1)
    subst hQ
    exact W.vret hx hb hr (fun t ht hW => ⟨⟨ws, rfl, ⟨⟨⟨_, m_v_5, r_v_5⟩, trivial⟩, hw.1, hw.2.2.2.2.1⟩, by rw [ht]; exact hw.2.1, va_K.moved hW.alike hK, hw.2.2.1⟩, hw.2.2.2.1.F ht⟩) hw.2.2.2.1.2.2 dX10_writeWord_30
  refine lv_lload_n hx hb dX10_writeWord_0 rfl (lv_at hl 1 rfl) ?_
  refine lv_ldc2 (v := 27) hx hb hown (hts _ tw_1312) dX10_writeWord_1 ?_
  refine W.lcmp hx hb dX10_writeWord_4 (lv_topi (fun v_6 e_v_6 => ?_))
  have r_v_6 := ri_any v_6
  refine lv_if_lt (tgt := 17) hx hb dX10_writeWord_5 (by decide) (fun c_5 => ?_) (fun c_5 => ?_)
  · have r_v_6 : RI v_6 (-2147483648) (-1) := rc_lt1 r_v_6 rl_0 (ti_lt c_5) (by decide)
    have r_p1 : RJ p1 1 26 := tq_lc_lt r_p1 rk_27 e_v_6 c_5 (by decide)
    exact B17 f0_38 w0 _ _ ls (r_p1.to (by decide)) (r_f0_38.to (by decide)) m_f0_38 hw hl
  · have r_v_6 : RI v_6 0 2147483647 := rc_le2 rl_0 r_v_6 (ti_nlt c_5) (by decide)
    have r_p1 : RJ p1 27 881745755 := tq_lc_nlt r_p1 rk_27 e_v_6 c_5 (by decide)
    refine lv_aload_n hx hb dX10_writeWord_8 rfl (lv_at hl 0 rfl) ?_
    refine lv_lload_n hx hb dX10_writeWord_9 rfl (lv_at hl 1 rfl) ?_
    refine lv_ldc2 (v := 27) hx hb hown (hts _ tw_1312) dX10_writeWord_10 ?_
    refine lv_ldiv hx hb dX10_writeWord_13 (by decide) (lv_topl (fun w_7 e_w_7 => ?_))
    have r_w_7 := tq_ldiv (lo := 1) (hi := 32657250) r_p1 (by decide) e_w_7
    refine tk_v (va_runV (As := [.long w_7]) (rest := []) ⟨hx, hb, hml, hown, hts⟩ (c_X10_writeWord__8 l D cy z s.heap.size Ps w0 hw.1 p0 w_7 f0_38 h_p0 r_w_7 r_f0_38 m_f0_38) (cwV 1 hts (gV tw_1670 tw_1672 ts_97 tw_15 tw_1673) rfl rfl rfl (by decide +kernel) ⟨Nat.le_of_ble_eq_true rfl, Nat.le_of_ble_eq_true rfl⟩) (tg_preV hw hK hSD hA (ci := 10) (q := (RX10, TX10, 49)) rfl h_p0 rfl) rfl rfl hl.1 rfl (lv_room (Nat.le_of_ble_eq_true rfl)) dX10_writeWord_14 ⟨Nat.le_of_ble_eq_true rfl, Nat.le_of_ble_eq_true rfl⟩) hw hA ⟨by decide, by decide⟩ (fun ws H locs hp_v_8 hw hF9 => ?_)
    obtain ⟨v_9, m_v_9, r_v_9⟩ := (hp_v_8.1)
    exact B17 v_9 ws _ _ ls (r_p1.to (by decide)) (r_v_9.to (by decide)) m_v_9 hw hl
abbrev wr_X10_writeWord__6 : List (Nat × Nat) := [(10, 38)]
abbrev wa_X10_writeWord__6 : List Nat := [51]
set_option maxHeartbeats 4000000 in
set_option maxRecDepth 100000 in
theorem c_X10_writeWord__6 (l : Launch) (D : va_G) (cy : Nat → ClassId) (z : Nat → Nat) (sz : Nat) (Ps : PSI) (w0 : va_W) (hT : HT cy GG Ps w0) (p0 : Nat) (p1 : Int64) (f0_38 : Int32) (h_p0 : (p0, 55) ∈ Ps) (r_p1 : RJ p1 1 23807135396) (r_f0_38 : RI f0_38 5 18) (m_f0_38 : FLD w0 p0 10 38 (.int f0_38)) : Met l yX10_writeWord (Cond.code yX10_writeWord cX10_writeWord 3 none :: gT) ({ frames := 9, cells := 0, slots := 0, locals := 1800 } : Room) (va_Pc [.ref p0, .long p1] (PRE D cy z w0 sz)) (va_Qv (fun (u : va_W) => ((∃ v9 : Int32, FLD u p0 10 38 (.int v9) ∧ RI v9 6 26) ∧ True) ∧ HT cy GG Ps u ∧ FR wr_X10_writeWord__6 wa_X10_writeWord__6 Ps w0 u) (BB D cy (va_A w0 sz) (fun (u : va_W) => u)) (va_A w0 sz)) 0 0 (va_A w0 sz) := by
  refine Met.ofW (cc := cX10_writeWord) (maxL := 3) (ret := none) (by decide) rfl ?_
  intro p e s m args below meth c s₁ B hml hv
  obtain ⟨rfl, hsz, hP, hK, hD0, hSD⟩ := hv
  have hx := B.exec
  have hb := B.bytes
  have hr := B.returns
  have hlocks := B.notSynchronized
  have hts : ∀ w ∈ gT, w.before _ s = true := fun w h => atoms_spec (ws := Cond.code yX10_writeWord cX10_writeWord 3 none :: gT) B.pre w (List.mem_cons_of_mem _ h)
  have hown : s.vm.findClass RX10 = some m.cls := findClass_of_methodNamed B.named
  subst hsz
  have hD := hD0.self (sz := s.heap.size)
  generalize hAe : va_A w0 s.heap.size = A at hD hSD ⊢
  have hA : ∀ q : Nat, s.heap.size ≤ q → A q := fun q h => by rw [← hAe]; exact Or.inr h
  have hl := lv_entry ([.ref p0, .long p1]) (n := 3) (Nat.le_of_ble_eq_true rfl)
  rw [lg_entry_eq]
  generalize (lg_sl ([.ref p0, .long p1]) ++ List.replicate (3 - (lg_sl ([.ref p0, .long p1])).length) Slot.unset).toArray = ls at hl ⊢
  have hl : lv_has ls 3 [(0, .ref p0), (1, .long p1)] := hl
  refine nameQ (fun Q hQ => ?_)
  have hw : WD D cy GG A s wr_X10_writeWord__6 wa_X10_writeWord__6 Ps w0 Ps w0 s.heap [] := ⟨hT, hP, hD, va_S.rf, FR.rf, hT.1, [], (List.append_nil _).symm⟩
  have B17 : ∀ (z0_38 : Int32) (ws : va_W) (H : Heap) (locs : List Loc) (ls : Array Slot), RJ p1 1 23807135396 → RI z0_38 5 25 → FLD ws p0 10 38 (.int z0_38) → WD D cy GG A s wr_X10_writeWord__6 wa_X10_writeWord__6 Ps w0 Ps ws H locs → lv_has ls 3 [(0, .ref p0), (1, .long p1)] → W p l e (headSpec (Cond.code yX10_writeWord cX10_writeWord 3 none :: gT) ({ frames := 9, cells := 0, slots := 0, locals := 1800 } : Room)).room s m ([.ref p0, .long p1] : List Value).toArray below meth c H locs 0 0 Q (F0 m 17 ls []) := by
    intro z0_38 ws H locs ls r_p1 r_z0_38 m_z0_38 hw hl
    refine lv_aload_n hx hb dX10_writeWord_17 rfl (lv_at hl 0 rfl) ?_
    refine lv_bipush (v := 96) hx hb dX10_writeWord_18 (by decide) ?_
    refine lv_lload_n hx hb dX10_writeWord_20 rfl (lv_at hl 1 rfl) ?_
    refine lv_ldc2 (v := 27) hx hb hown (hts _ tw_1312) dX10_writeWord_21 ?_
    refine lv_lrem hx hb dX10_writeWord_24 (by decide) (lv_topl (fun w_1 e_w_1 => ?_))
    have r_w_1 := rj_any w_1
    obtain ⟨v_2, e_v_2⟩ : ∃ q9 : Int32, (w_1 : Int64).toInt32 = q9 := ⟨_, rfl⟩
    refine lv_l2i (v := v_2) hx hb dX10_writeWord_25 e_v_2 ?_
    have r_v_2 := ri_any v_2
    refine lv_iadd hx hb dX10_writeWord_26 (lv_topi (fun v_3 e_v_3 => ?_))
    have r_v_3 := ri_any v_3
    refine tk_v (va_runV (As := [.int v_3]) (rest := []) ⟨hx, hb, hml, hown, hts⟩ (c_X10_write__7 l D cy z H.size Ps ws hw.1 p0 v_3 z0_38 h_p0 r_v_3 r_z0_38 m_z0_38) (cwV 1 hts (gV tw_1674 tw_1676 ts_98 tw_15 tw_1677) rfl rfl rfl (by decide +kernel) ⟨Nat.le_of_ble_eq_true rfl, Nat.le_of_ble_eq_true rfl⟩) (tg_preV hw hK hSD hA (ci := 10) (q := (RX10, TX10, 49)) rfl h_p0 rfl) rfl rfl hl.1 rfl (lv_room (Nat.le_of_ble_eq_true rfl)) dX10_writeWord_27 ⟨Nat.le_of_ble_eq_true rfl, Nat.le_of_ble_eq_true rfl⟩) hw hA ⟨by decide, by decide⟩ (fun ws H locs hp_v_4 hw hF9 => ?_)
    obtain ⟨v_5, m_v_5, r_v_5⟩ := (hp_v_4.1)
    subst hQ
    exact W.vret hx hb hr (fun t ht hW => ⟨⟨ws, rfl, ⟨⟨⟨_, m_v_5, r_v_5⟩, trivial⟩, hw.1, hw.2.2.2.2.1⟩, by rw [ht]; exact hw.2.1, va_K.moved hW.alike hK, hw.2.2.1⟩, hw.2.2.2.1.F ht⟩) hw.2.2.2.1.2.2 dX10_writeWord_30
  refine lv_lload_n hx hb dX10_writeWord_0 rfl (lv_at hl 1 rfl) ?_
  refine lv_ldc2 (v := 27) hx hb hown (hts _ tw_1312) dX10_writeWord_1 ?_
  refine W.lcmp hx hb dX10_writeWord_4 (lv_topi (fun v_6 e_v_6 => ?_))
  have r_v_6 := ri_any v_6
  refine lv_if_lt (tgt := 17) hx hb dX10_writeWord_5 (by decide) (fun c_5 => ?_) (fun c_5 => ?_)
  · have r_v_6 : RI v_6 (-2147483648) (-1) := rc_lt1 r_v_6 rl_0 (ti_lt c_5) (by decide)
    have r_p1 : RJ p1 1 26 := tq_lc_lt r_p1 rk_27 e_v_6 c_5 (by decide)
    exact B17 f0_38 w0 _ _ ls (r_p1.to (by decide)) (r_f0_38.to (by decide)) m_f0_38 hw hl
  · have r_v_6 : RI v_6 0 2147483647 := rc_le2 rl_0 r_v_6 (ti_nlt c_5) (by decide)
    have r_p1 : RJ p1 27 23807135396 := tq_lc_nlt r_p1 rk_27 e_v_6 c_5 (by decide)
    refine lv_aload_n hx hb dX10_writeWord_8 rfl (lv_at hl 0 rfl) ?_
    refine lv_lload_n hx hb dX10_writeWord_9 rfl (lv_at hl 1 rfl) ?_
    refine lv_ldc2 (v := 27) hx hb hown (hts _ tw_1312) dX10_writeWord_10 ?_
    refine lv_ldiv hx hb dX10_writeWord_13 (by decide) (lv_topl (fun w_7 e_w_7 => ?_))
    have r_w_7 := tq_ldiv (lo := 1) (hi := 881745755) r_p1 (by decide) e_w_7
    refine tk_v (va_runV (As := [.long w_7]) (rest := []) ⟨hx, hb, hml, hown, hts⟩ (c_X10_writeWord__7 l D cy z s.heap.size Ps w0 hw.1 p0 w_7 f0_38 h_p0 r_w_7 r_f0_38 m_f0_38) (cwV 1 hts (gV tw_1670 tw_1672 ts_97 tw_15 tw_1673) rfl rfl rfl (by decide +kernel) ⟨Nat.le_of_ble_eq_true rfl, Nat.le_of_ble_eq_true rfl⟩) (tg_preV hw hK hSD hA (ci := 10) (q := (RX10, TX10, 49)) rfl h_p0 rfl) rfl rfl hl.1 rfl (lv_room (Nat.le_of_ble_eq_true rfl)) dX10_writeWord_14 ⟨Nat.le_of_ble_eq_true rfl, Nat.le_of_ble_eq_true rfl⟩) hw hA ⟨by decide, by decide⟩ (fun ws H locs hp_v_8 hw hF9 => ?_)
    obtain ⟨v_9, m_v_9, r_v_9⟩ := (hp_v_8.1)
    exact B17 v_9 ws _ _ ls (r_p1.to (by decide)) (r_v_9.to (by decide)) m_v_9 hw hl
abbrev wr_X10_writeWord__5 : List (Nat × Nat) := [(10, 38)]
abbrev wa_X10_writeWord__5 : List Nat := [51]
set_option maxHeartbeats 4000000 in
set_option maxRecDepth 100000 in
theorem c_X10_writeWord__5 (l : Launch) (D : va_G) (cy : Nat → ClassId) (z : Nat → Nat) (sz : Nat) (Ps : PSI) (w0 : va_W) (hT : HT cy GG Ps w0) (p0 : Nat) (p1 : Int64) (f0_38 : Int32) (h_p0 : (p0, 55) ∈ Ps) (r_p1 : RJ p1 1 642792655695) (r_f0_38 : RI f0_38 5 18) (m_f0_38 : FLD w0 p0 10 38 (.int f0_38)) : Met l yX10_writeWord (Cond.code yX10_writeWord cX10_writeWord 3 none :: gT) ({ frames := 10, cells := 0, slots := 0, locals := 2000 } : Room) (va_Pc [.ref p0, .long p1] (PRE D cy z w0 sz)) (va_Qv (fun (u : va_W) => ((∃ v9 : Int32, FLD u p0 10 38 (.int v9) ∧ RI v9 6 27) ∧ True) ∧ HT cy GG Ps u ∧ FR wr_X10_writeWord__5 wa_X10_writeWord__5 Ps w0 u) (BB D cy (va_A w0 sz) (fun (u : va_W) => u)) (va_A w0 sz)) 0 0 (va_A w0 sz) := by
  refine Met.ofW (cc := cX10_writeWord) (maxL := 3) (ret := none) (by decide) rfl ?_
  intro p e s m args below meth c s₁ B hml hv
  obtain ⟨rfl, hsz, hP, hK, hD0, hSD⟩ := hv
  have hx := B.exec
  have hb := B.bytes
  have hr := B.returns
  have hlocks := B.notSynchronized
  have hts : ∀ w ∈ gT, w.before _ s = true := fun w h => atoms_spec (ws := Cond.code yX10_writeWord cX10_writeWord 3 none :: gT) B.pre w (List.mem_cons_of_mem _ h)
  have hown : s.vm.findClass RX10 = some m.cls := findClass_of_methodNamed B.named
  subst hsz
  have hD := hD0.self (sz := s.heap.size)
  generalize hAe : va_A w0 s.heap.size = A at hD hSD ⊢
  have hA : ∀ q : Nat, s.heap.size ≤ q → A q := fun q h => by rw [← hAe]; exact Or.inr h
  have hl := lv_entry ([.ref p0, .long p1]) (n := 3) (Nat.le_of_ble_eq_true rfl)
  rw [lg_entry_eq]
  generalize (lg_sl ([.ref p0, .long p1]) ++ List.replicate (3 - (lg_sl ([.ref p0, .long p1])).length) Slot.unset).toArray = ls at hl ⊢
  have hl : lv_has ls 3 [(0, .ref p0), (1, .long p1)] := hl
  refine nameQ (fun Q hQ => ?_)
  have hw : WD D cy GG A s wr_X10_writeWord__5 wa_X10_writeWord__5 Ps w0 Ps w0 s.heap [] := ⟨hT, hP, hD, va_S.rf, FR.rf, hT.1, [], (List.append_nil _).symm⟩
  have B17 : ∀ (z0_38 : Int32) (ws : va_W) (H : Heap) (locs : List Loc) (ls : Array Slot), RJ p1 1 642792655695 → RI z0_38 5 26 → FLD ws p0 10 38 (.int z0_38) → WD D cy GG A s wr_X10_writeWord__5 wa_X10_writeWord__5 Ps w0 Ps ws H locs → lv_has ls 3 [(0, .ref p0), (1, .long p1)] → W p l e (headSpec (Cond.code yX10_writeWord cX10_writeWord 3 none :: gT) ({ frames := 10, cells := 0, slots := 0, locals := 2000 } : Room)).room s m ([.ref p0, .long p1] : List Value).toArray below meth c H locs 0 0 Q (F0 m 17 ls []) := by
    intro z0_38 ws H locs ls r_p1 r_z0_38 m_z0_38 hw hl
    refine lv_aload_n hx hb dX10_writeWord_17 rfl (lv_at hl 0 rfl) ?_
    refine lv_bipush (v := 96) hx hb dX10_writeWord_18 (by decide) ?_
    refine lv_lload_n hx hb dX10_writeWord_20 rfl (lv_at hl 1 rfl) ?_
    refine lv_ldc2 (v := 27) hx hb hown (hts _ tw_1312) dX10_writeWord_21 ?_
    refine lv_lrem hx hb dX10_writeWord_24 (by decide) (lv_topl (fun w_1 e_w_1 => ?_))
    have r_w_1 := rj_any w_1
    obtain ⟨v_2, e_v_2⟩ : ∃ q9 : Int32, (w_1 : Int64).toInt32 = q9 := ⟨_, rfl⟩
    refine lv_l2i (v := v_2) hx hb dX10_writeWord_25 e_v_2 ?_
    have r_v_2 := ri_any v_2
    refine lv_iadd hx hb dX10_writeWord_26 (lv_topi (fun v_3 e_v_3 => ?_))
    have r_v_3 := ri_any v_3
    refine tk_v (va_runV (As := [.int v_3]) (rest := []) ⟨hx, hb, hml, hown, hts⟩ (c_X10_write__6 l D cy z H.size Ps ws hw.1 p0 v_3 z0_38 h_p0 r_v_3 r_z0_38 m_z0_38) (cwV 1 hts (gV tw_1674 tw_1676 ts_98 tw_15 tw_1677) rfl rfl rfl (by decide +kernel) ⟨Nat.le_of_ble_eq_true rfl, Nat.le_of_ble_eq_true rfl⟩) (tg_preV hw hK hSD hA (ci := 10) (q := (RX10, TX10, 49)) rfl h_p0 rfl) rfl rfl hl.1 rfl (lv_room (Nat.le_of_ble_eq_true rfl)) dX10_writeWord_27 ⟨Nat.le_of_ble_eq_true rfl, Nat.le_of_ble_eq_true rfl⟩) hw hA ⟨by decide, by decide⟩ (fun ws H locs hp_v_4 hw hF9 => ?_)
    obtain ⟨v_5, m_v_5, r_v_5⟩ := (hp_v_4.1)
    subst hQ
    exact W.vret hx hb hr (fun t ht hW => ⟨⟨ws, rfl, ⟨⟨⟨_, m_v_5, r_v_5⟩, trivial⟩, hw.1, hw.2.2.2.2.1⟩, by rw [ht]; exact hw.2.1, va_K.moved hW.alike hK, hw.2.2.1⟩, hw.2.2.2.1.F ht⟩) hw.2.2.2.1.2.2 dX10_writeWord_30
  refine lv_lload_n hx hb dX10_writeWord_0 rfl (lv_at hl 1 rfl) ?_
  refine lv_ldc2 (v := 27) hx hb hown (hts _ tw_1312) dX10_writeWord_1 ?_
  refine W.lcmp hx hb dX10_writeWord_4 (lv_topi (fun v_6 e_v_6 => ?_))
  have r_v_6 := ri_any v_6
  refine lv_if_lt (tgt := 17) hx hb dX10_writeWord_5 (by decide) (fun c_5 => ?_) (fun c_5 => ?_)
  · have r_v_6 : RI v_6 (-2147483648) (-1) := rc_lt1 r_v_6 rl_0 (ti_lt c_5) (by decide)
    have r_p1 : RJ p1 1 26 := tq_lc_lt r_p1 rk_27 e_v_6 c_5 (by decide)
    exact B17 f0_38 w0 _ _ ls (r_p1.to (by decide)) (r_f0_38.to (by decide)) m_f0_38 hw hl
  · have r_v_6 : RI v_6 0 2147483647 := rc_le2 rl_0 r_v_6 (ti_nlt c_5) (by decide)
    have r_p1 : RJ p1 27 642792655695 := tq_lc_nlt r_p1 rk_27 e_v_6 c_5 (by decide)
    refine lv_aload_n hx hb dX10_writeWord_8 rfl (lv_at hl 0 rfl) ?_
    refine lv_lload_n hx hb dX10_writeWord_9 rfl (lv_at hl 1 rfl) ?_
    refine lv_ldc2 (v := 27) hx hb hown (hts _ tw_1312) dX10_writeWord_10 ?_
    refine lv_ldiv hx hb dX10_writeWord_13 (by decide) (lv_topl (fun w_7 e_w_7 => ?_))
    have r_w_7 := tq_ldiv (lo := 1) (hi := 23807135396) r_p1 (by decide) e_w_7
    refine tk_v (va_runV (As := [.long w_7]) (rest := []) ⟨hx, hb, hml, hown, hts⟩ (c_X10_writeWord__6 l D cy z s.heap.size Ps w0 hw.1 p0 w_7 f0_38 h_p0 r_w_7 r_f0_38 m_f0_38) (cwV 1 hts (gV tw_1670 tw_1672 ts_97 tw_15 tw_1673) rfl rfl rfl (by decide +kernel) ⟨Nat.le_of_ble_eq_true rfl, Nat.le_of_ble_eq_true rfl⟩) (tg_preV hw hK hSD hA (ci := 10) (q := (RX10, TX10, 49)) rfl h_p0 rfl) rfl rfl hl.1 rfl (lv_room (Nat.le_of_ble_eq_true rfl)) dX10_writeWord_14 ⟨Nat.le_of_ble_eq_true rfl, Nat.le_of_ble_eq_true rfl⟩) hw hA ⟨by decide, by decide⟩ (fun ws H locs hp_v_8 hw hF9 => ?_)
    obtain ⟨v_9, m_v_9, r_v_9⟩ := (hp_v_8.1)
    exact B17 v_9 ws _ _ ls (r_p1.to (by decide)) (r_v_9.to (by decide)) m_v_9 hw hl
abbrev wr_X10_writeWord__4 : List (Nat × Nat) := [(10, 38)]
abbrev wa_X10_writeWord__4 : List Nat := [51]
set_option maxHeartbeats 4000000 in
set_option maxRecDepth 100000 in
theorem c_X10_writeWord__4 (l : Launch) (D : va_G) (cy : Nat → ClassId) (z : Nat → Nat) (sz : Nat) (Ps : PSI) (w0 : va_W) (hT : HT cy GG Ps w0) (p0 : Nat) (p1 : Int64) (f0_38 : Int32) (h_p0 : (p0, 55) ∈ Ps) (r_p1 : RJ p1 1 17355401703772) (r_f0_38 : RI f0_38 5 18) (m_f0_38 : FLD w0 p0 10 38 (.int f0_38)) : Met l yX10_writeWord (Cond.code yX10_writeWord cX10_writeWord 3 none :: gT) ({ frames := 11, cells := 0, slots := 0, locals := 2200 } : Room) (va_Pc [.ref p0, .long p1] (PRE D cy z w0 sz)) (va_Qv (fun (u : va_W) => ((∃ v9 : Int32, FLD u p0 10 38 (.int v9) ∧ RI v9 6 28) ∧ True) ∧ HT cy GG Ps u ∧ FR wr_X10_writeWord__4 wa_X10_writeWord__4 Ps w0 u) (BB D cy (va_A w0 sz) (fun (u : va_W) => u)) (va_A w0 sz)) 0 0 (va_A w0 sz) := by
  refine Met.ofW (cc := cX10_writeWord) (maxL := 3) (ret := none) (by decide) rfl ?_
  intro p e s m args below meth c s₁ B hml hv
  obtain ⟨rfl, hsz, hP, hK, hD0, hSD⟩ := hv
  have hx := B.exec
  have hb := B.bytes
  have hr := B.returns
  have hlocks := B.notSynchronized
  have hts : ∀ w ∈ gT, w.before _ s = true := fun w h => atoms_spec (ws := Cond.code yX10_writeWord cX10_writeWord 3 none :: gT) B.pre w (List.mem_cons_of_mem _ h)
  have hown : s.vm.findClass RX10 = some m.cls := findClass_of_methodNamed B.named
  subst hsz
  have hD := hD0.self (sz := s.heap.size)
  generalize hAe : va_A w0 s.heap.size = A at hD hSD ⊢
  have hA : ∀ q : Nat, s.heap.size ≤ q → A q := fun q h => by rw [← hAe]; exact Or.inr h
  have hl := lv_entry ([.ref p0, .long p1]) (n := 3) (Nat.le_of_ble_eq_true rfl)
  rw [lg_entry_eq]
  generalize (lg_sl ([.ref p0, .long p1]) ++ List.replicate (3 - (lg_sl ([.ref p0, .long p1])).length) Slot.unset).toArray = ls at hl ⊢
  have hl : lv_has ls 3 [(0, .ref p0), (1, .long p1)] := hl
  refine nameQ (fun Q hQ => ?_)
  have hw : WD D cy GG A s wr_X10_writeWord__4 wa_X10_writeWord__4 Ps w0 Ps w0 s.heap [] := ⟨hT, hP, hD, va_S.rf, FR.rf, hT.1, [], (List.append_nil _).symm⟩
  have B17 : ∀ (z0_38 : Int32) (ws : va_W) (H : Heap) (locs : List Loc) (ls : Array Slot), RJ p1 1 17355401703772 → RI z0_38 5 27 → FLD ws p0 10 38 (.int z0_38) → WD D cy GG A s wr_X10_writeWord__4 wa_X10_writeWord__4 Ps w0 Ps ws H locs → lv_has ls 3 [(0, .ref p0), (1, .long p1)] → W p l e (headSpec (Cond.code yX10_writeWord cX10_writeWord 3 none :: gT) ({ frames := 11, cells := 0, slots := 0, locals := 2200 } : Room)).room s m ([.ref p0, .long p1] : List Value).toArray below meth c H locs 0 0 Q (F0 m 17 ls []) := by
    intro z0_38 ws H locs ls r_p1 r_z0_38 m_z0_38 hw hl
    refine lv_aload_n hx hb dX10_writeWord_17 rfl (lv_at hl 0 rfl) ?_
    refine lv_bipush (v := 96) hx hb dX10_writeWord_18 (by decide) ?_
    refine lv_lload_n hx hb dX10_writeWord_20 rfl (lv_at hl 1 rfl) ?_
    refine lv_ldc2 (v := 27) hx hb hown (hts _ tw_1312) dX10_writeWord_21 ?_
    refine lv_lrem hx hb dX10_writeWord_24 (by decide) (lv_topl (fun w_1 e_w_1 => ?_))
    have r_w_1 := rj_any w_1
    obtain ⟨v_2, e_v_2⟩ : ∃ q9 : Int32, (w_1 : Int64).toInt32 = q9 := ⟨_, rfl⟩
    refine lv_l2i (v := v_2) hx hb dX10_writeWord_25 e_v_2 ?_
    have r_v_2 := ri_any v_2
    refine lv_iadd hx hb dX10_writeWord_26 (lv_topi (fun v_3 e_v_3 => ?_))
    have r_v_3 := ri_any v_3
    refine tk_v (va_runV (As := [.int v_3]) (rest := []) ⟨hx, hb, hml, hown, hts⟩ (c_X10_write__5 l D cy z H.size Ps ws hw.1 p0 v_3 z0_38 h_p0 r_v_3 r_z0_38 m_z0_38) (cwV 1 hts (gV tw_1674 tw_1676 ts_98 tw_15 tw_1677) rfl rfl rfl (by decide +kernel) ⟨Nat.le_of_ble_eq_true rfl, Nat.le_of_ble_eq_true rfl⟩) (tg_preV hw hK hSD hA (ci := 10) (q := (RX10, TX10, 49)) rfl h_p0 rfl) rfl rfl hl.1 rfl (lv_room (Nat.le_of_ble_eq_true rfl)) dX10_writeWord_27 ⟨Nat.le_of_ble_eq_true rfl, Nat.le_of_ble_eq_true rfl⟩) hw hA ⟨by decide, by decide⟩ (fun ws H locs hp_v_4 hw hF9 => ?_)
    obtain ⟨v_5, m_v_5, r_v_5⟩ := (hp_v_4.1)
    subst hQ
    exact W.vret hx hb hr (fun t ht hW => ⟨⟨ws, rfl, ⟨⟨⟨_, m_v_5, r_v_5⟩, trivial⟩, hw.1, hw.2.2.2.2.1⟩, by rw [ht]; exact hw.2.1, va_K.moved hW.alike hK, hw.2.2.1⟩, hw.2.2.2.1.F ht⟩) hw.2.2.2.1.2.2 dX10_writeWord_30
  refine lv_lload_n hx hb dX10_writeWord_0 rfl (lv_at hl 1 rfl) ?_
  refine lv_ldc2 (v := 27) hx hb hown (hts _ tw_1312) dX10_writeWord_1 ?_
  refine W.lcmp hx hb dX10_writeWord_4 (lv_topi (fun v_6 e_v_6 => ?_))
  have r_v_6 := ri_any v_6
  refine lv_if_lt (tgt := 17) hx hb dX10_writeWord_5 (by decide) (fun c_5 => ?_) (fun c_5 => ?_)
  · have r_v_6 : RI v_6 (-2147483648) (-1) := rc_lt1 r_v_6 rl_0 (ti_lt c_5) (by decide)
    have r_p1 : RJ p1 1 26 := tq_lc_lt r_p1 rk_27 e_v_6 c_5 (by decide)
    exact B17 f0_38 w0 _ _ ls (r_p1.to (by decide)) (r_f0_38.to (by decide)) m_f0_38 hw hl
  · have r_v_6 : RI v_6 0 2147483647 := rc_le2 rl_0 r_v_6 (ti_nlt c_5) (by decide)
    have r_p1 : RJ p1 27 17355401703772 := tq_lc_nlt r_p1 rk_27 e_v_6 c_5 (by decide)
    refine lv_aload_n hx hb dX10_writeWord_8 rfl (lv_at hl 0 rfl) ?_
    refine lv_lload_n hx hb dX10_writeWord_9 rfl (lv_at hl 1 rfl) ?_
    refine lv_ldc2 (v := 27) hx hb hown (hts _ tw_1312) dX10_writeWord_10 ?_
    refine lv_ldiv hx hb dX10_writeWord_13 (by decide) (lv_topl (fun w_7 e_w_7 => ?_))
    have r_w_7 := tq_ldiv (lo := 1) (hi := 642792655695) r_p1 (by decide) e_w_7
    refine tk_v (va_runV (As := [.long w_7]) (rest := []) ⟨hx, hb, hml, hown, hts⟩ (c_X10_writeWord__5 l D cy z s.heap.size Ps w0 hw.1 p0 w_7 f0_38 h_p0 r_w_7 r_f0_38 m_f0_38) (cwV 1 hts (gV tw_1670 tw_1672 ts_97 tw_15 tw_1673) rfl rfl rfl (by decide +kernel) ⟨Nat.le_of_ble_eq_true rfl, Nat.le_of_ble_eq_true rfl⟩) (tg_preV hw hK hSD hA (ci := 10) (q := (RX10, TX10, 49)) rfl h_p0 rfl) rfl rfl hl.1 rfl (lv_room (Nat.le_of_ble_eq_true rfl)) dX10_writeWord_14 ⟨Nat.le_of_ble_eq_true rfl, Nat.le_of_ble_eq_true rfl⟩) hw hA ⟨by decide, by decide⟩ (fun ws H locs hp_v_8 hw hF9 => ?_)
    obtain ⟨v_9, m_v_9, r_v_9⟩ := (hp_v_8.1)
    exact B17 v_9 ws _ _ ls (r_p1.to (by decide)) (r_v_9.to (by decide)) m_v_9 hw hl
abbrev wr_X10_writeWord__3 : List (Nat × Nat) := [(10, 38)]
abbrev wa_X10_writeWord__3 : List Nat := [51]
set_option maxHeartbeats 4000000 in
set_option maxRecDepth 100000 in
theorem c_X10_writeWord__3 (l : Launch) (D : va_G) (cy : Nat → ClassId) (z : Nat → Nat) (sz : Nat) (Ps : PSI) (w0 : va_W) (hT : HT cy GG Ps w0) (p0 : Nat) (p1 : Int64) (f0_38 : Int32) (h_p0 : (p0, 55) ∈ Ps) (r_p1 : RJ p1 1 468595846001868) (r_f0_38 : RI f0_38 5 18) (m_f0_38 : FLD w0 p0 10 38 (.int f0_38)) : Met l yX10_writeWord (Cond.code yX10_writeWord cX10_writeWord 3 none :: gT) ({ frames := 12, cells := 0, slots := 0, locals := 2400 } : Room) (va_Pc [.ref p0, .long p1] (PRE D cy z w0 sz)) (va_Qv (fun (u : va_W) => ((∃ v9 : Int32, FLD u p0 10 38 (.int v9) ∧ RI v9 6 29) ∧ True) ∧ HT cy GG Ps u ∧ FR wr_X10_writeWord__3 wa_X10_writeWord__3 Ps w0 u) (BB D cy (va_A w0 sz) (fun (u : va_W) => u)) (va_A w0 sz)) 0 0 (va_A w0 sz) := by
  refine Met.ofW (cc := cX10_writeWord) (maxL := 3) (ret := none) (by decide) rfl ?_
  intro p e s m args below meth c s₁ B hml hv
  obtain ⟨rfl, hsz, hP, hK, hD0, hSD⟩ := hv
  have hx := B.exec
  have hb := B.bytes
  have hr := B.returns
  have hlocks := B.notSynchronized
  have hts : ∀ w ∈ gT, w.before _ s = true := fun w h => atoms_spec (ws := Cond.code yX10_writeWord cX10_writeWord 3 none :: gT) B.pre w (List.mem_cons_of_mem _ h)
  have hown : s.vm.findClass RX10 = some m.cls := findClass_of_methodNamed B.named
  subst hsz
  have hD := hD0.self (sz := s.heap.size)
  generalize hAe : va_A w0 s.heap.size = A at hD hSD ⊢
  have hA : ∀ q : Nat, s.heap.size ≤ q → A q := fun q h => by rw [← hAe]; exact Or.inr h
  have hl := lv_entry ([.ref p0, .long p1]) (n := 3) (Nat.le_of_ble_eq_true rfl)
  rw [lg_entry_eq]
  generalize (lg_sl ([.ref p0, .long p1]) ++ List.replicate (3 - (lg_sl ([.ref p0, .long p1])).length) Slot.unset).toArray = ls at hl ⊢
  have hl : lv_has ls 3 [(0, .ref p0), (1, .long p1)] := hl
  refine nameQ (fun Q hQ => ?_)
  have hw : WD D cy GG A s wr_X10_writeWord__3 wa_X10_writeWord__3 Ps w0 Ps w0 s.heap [] := ⟨hT, hP, hD, va_S.rf, FR.rf, hT.1, [], (List.append_nil _).symm⟩
  have B17 : ∀ (z0_38 : Int32) (ws : va_W) (H : Heap) (locs : List Loc) (ls : Array Slot), RJ p1 1 468595846001868 → RI z0_38 5 28 → FLD ws p0 10 38 (.int z0_38) → WD D cy GG A s wr_X10_writeWord__3 wa_X10_writeWord__3 Ps w0 Ps ws H locs → lv_has ls 3 [(0, .ref p0), (1, .long p1)] → W p l e (headSpec (Cond.code yX10_writeWord cX10_writeWord 3 none :: gT) ({ frames := 12, cells := 0, slots := 0, locals := 2400 } : Room)).room s m ([.ref p0, .long p1] : List Value).toArray below meth c H locs 0 0 Q (F0 m 17 ls []) := by
    intro z0_38 ws H locs ls r_p1 r_z0_38 m_z0_38 hw hl
    refine lv_aload_n hx hb dX10_writeWord_17 rfl (lv_at hl 0 rfl) ?_
    refine lv_bipush (v := 96) hx hb dX10_writeWord_18 (by decide) ?_
    refine lv_lload_n hx hb dX10_writeWord_20 rfl (lv_at hl 1 rfl) ?_
    refine lv_ldc2 (v := 27) hx hb hown (hts _ tw_1312) dX10_writeWord_21 ?_
    refine lv_lrem hx hb dX10_writeWord_24 (by decide) (lv_topl (fun w_1 e_w_1 => ?_))
    have r_w_1 := rj_any w_1
    obtain ⟨v_2, e_v_2⟩ : ∃ q9 : Int32, (w_1 : Int64).toInt32 = q9 := ⟨_, rfl⟩
    refine lv_l2i (v := v_2) hx hb dX10_writeWord_25 e_v_2 ?_
    have r_v_2 := ri_any v_2
    refine lv_iadd hx hb dX10_writeWord_26 (lv_topi (fun v_3 e_v_3 => ?_))
    have r_v_3 := ri_any v_3
    refine tk_v (va_runV (As := [.int v_3]) (rest := []) ⟨hx, hb, hml, hown, hts⟩ (c_X10_write__4 l D cy z H.size Ps ws hw.1 p0 v_3 z0_38 h_p0 r_v_3 r_z0_38 m_z0_38) (cwV 1 hts (gV tw_1674 tw_1676 ts_98 tw_15 tw_1677) rfl rfl rfl (by decide +kernel) ⟨Nat.le_of_ble_eq_true rfl, Nat.le_of_ble_eq_true rfl⟩) (tg_preV hw hK hSD hA (ci := 10) (q := (RX10, TX10, 49)) rfl h_p0 rfl) rfl rfl hl.1 rfl (lv_room (Nat.le_of_ble_eq_true rfl)) dX10_writeWord_27 ⟨Nat.le_of_ble_eq_true rfl, Nat.le_of_ble_eq_true rfl⟩) hw hA ⟨by decide, by decide⟩ (fun ws H locs hp_v_4 hw hF9 => ?_)
    obtain ⟨v_5, m_v_5, r_v_5⟩ := (hp_v_4.1)
    subst hQ
    exact W.vret hx hb hr (fun t ht hW => ⟨⟨ws, rfl, ⟨⟨⟨_, m_v_5, r_v_5⟩, trivial⟩, hw.1, hw.2.2.2.2.1⟩, by rw [ht]; exact hw.2.1, va_K.moved hW.alike hK, hw.2.2.1⟩, hw.2.2.2.1.F ht⟩) hw.2.2.2.1.2.2 dX10_writeWord_30
  refine lv_lload_n hx hb dX10_writeWord_0 rfl (lv_at hl 1 rfl) ?_
  refine lv_ldc2 (v := 27) hx hb hown (hts _ tw_1312) dX10_writeWord_1 ?_
  refine W.lcmp hx hb dX10_writeWord_4 (lv_topi (fun v_6 e_v_6 => ?_))
  have r_v_6 := ri_any v_6
  refine lv_if_lt (tgt := 17) hx hb dX10_writeWord_5 (by decide) (fun c_5 => ?_) (fun c_5 => ?_)
  · have r_v_6 : RI v_6 (-2147483648) (-1) := rc_lt1 r_v_6 rl_0 (ti_lt c_5) (by decide)
    have r_p1 : RJ p1 1 26 := tq_lc_lt r_p1 rk_27 e_v_6 c_5 (by decide)
    exact B17 f0_38 w0 _ _ ls (r_p1.to (by decide)) (r_f0_38.to (by decide)) m_f0_38 hw hl
  · have r_v_6 : RI v_6 0 2147483647 := rc_le2 rl_0 r_v_6 (ti_nlt c_5) (by decide)
    have r_p1 : RJ p1 27 468595846001868 := tq_lc_nlt r_p1 rk_27 e_v_6 c_5 (by decide)
    refine lv_aload_n hx hb dX10_writeWord_8 rfl (lv_at hl 0 rfl) ?_
    refine lv_lload_n hx hb dX10_writeWord_9 rfl (lv_at hl 1 rfl) ?_
    refine lv_ldc2 (v := 27) hx hb hown (hts _ tw_1312) dX10_writeWord_10 ?_
    refine lv_ldiv hx hb dX10_writeWord_13 (by decide) (lv_topl (fun w_7 e_w_7 => ?_))
    have r_w_7 := tq_ldiv (lo := 1) (hi := 17355401703772) r_p1 (by decide) e_w_7
    refine tk_v (va_runV (As := [.long w_7]) (rest := []) ⟨hx, hb, hml, hown, hts⟩ (c_X10_writeWord__4 l D cy z s.heap.size Ps w0 hw.1 p0 w_7 f0_38 h_p0 r_w_7 r_f0_38 m_f0_38) (cwV 1 hts (gV tw_1670 tw_1672 ts_97 tw_15 tw_1673) rfl rfl rfl (by decide +kernel) ⟨Nat.le_of_ble_eq_true rfl, Nat.le_of_ble_eq_true rfl⟩) (tg_preV hw hK hSD hA (ci := 10) (q := (RX10, TX10, 49)) rfl h_p0 rfl) rfl rfl hl.1 rfl (lv_room (Nat.le_of_ble_eq_true rfl)) dX10_writeWord_14 ⟨Nat.le_of_ble_eq_true rfl, Nat.le_of_ble_eq_true rfl⟩) hw hA ⟨by decide, by decide⟩ (fun ws H locs hp_v_8 hw hF9 => ?_)
    obtain ⟨v_9, m_v_9, r_v_9⟩ := (hp_v_8.1)
    exact B17 v_9 ws _ _ ls (r_p1.to (by decide)) (r_v_9.to (by decide)) m_v_9 hw hl
abbrev wr_X10_writeWord__2 : List (Nat × Nat) := [(10, 38)]
abbrev wa_X10_writeWord__2 : List Nat := [51]
set_option maxHeartbeats 4000000 in
set_option maxRecDepth 100000 in
theorem c_X10_writeWord__2 (l : Launch) (D : va_G) (cy : Nat → ClassId) (z : Nat → Nat) (sz : Nat) (Ps : PSI) (w0 : va_W) (hT : HT cy GG Ps w0) (p0 : Nat) (p1 : Int64) (f0_38 : Int32) (h_p0 : (p0, 55) ∈ Ps) (r_p1 : RJ p1 1 12652087842050446) (r_f0_38 : RI f0_38 5 18) (m_f0_38 : FLD w0 p0 10 38 (.int f0_38)) : Met l yX10_writeWord (Cond.code yX10_writeWord cX10_writeWord 3 none :: gT) ({ frames := 13, cells := 0, slots := 0, locals := 2600 } : Room) (va_Pc [.ref p0, .long p1] (PRE D cy z w0 sz)) (va_Qv (fun (u : va_W) => ((∃ v9 : Int32, FLD u p0 10 38 (.int v9) ∧ RI v9 6 30) ∧ True) ∧ HT cy GG Ps u ∧ FR wr_X10_writeWord__2 wa_X10_writeWord__2 Ps w0 u) (BB D cy (va_A w0 sz) (fun (u : va_W) => u)) (va_A w0 sz)) 0 0 (va_A w0 sz) := by
  refine Met.ofW (cc := cX10_writeWord) (maxL := 3) (ret := none) (by decide) rfl ?_
  intro p e s m args below meth c s₁ B hml hv
  obtain ⟨rfl, hsz, hP, hK, hD0, hSD⟩ := hv
  have hx := B.exec
  have hb := B.bytes
  have hr := B.returns
  have hlocks := B.notSynchronized
  have hts : ∀ w ∈ gT, w.before _ s = true := fun w h => atoms_spec (ws := Cond.code yX10_writeWord cX10_writeWord 3 none :: gT) B.pre w (List.mem_cons_of_mem _ h)
  have hown : s.vm.findClass RX10 = some m.cls := findClass_of_methodNamed B.named
  subst hsz
  have hD := hD0.self (sz := s.heap.size)
  generalize hAe : va_A w0 s.heap.size = A at hD hSD ⊢
  have hA : ∀ q : Nat, s.heap.size ≤ q → A q := fun q h => by rw [← hAe]; exact Or.inr h
  have hl := lv_entry ([.ref p0, .long p1]) (n := 3) (Nat.le_of_ble_eq_true rfl)
  rw [lg_entry_eq]
  generalize (lg_sl ([.ref p0, .long p1]) ++ List.replicate (3 - (lg_sl ([.ref p0, .long p1])).length) Slot.unset).toArray = ls at hl ⊢
  have hl : lv_has ls 3 [(0, .ref p0), (1, .long p1)] := hl
  refine nameQ (fun Q hQ => ?_)
  have hw : WD D cy GG A s wr_X10_writeWord__2 wa_X10_writeWord__2 Ps w0 Ps w0 s.heap [] := ⟨hT, hP, hD, va_S.rf, FR.rf, hT.1, [], (List.append_nil _).symm⟩
  have B17 : ∀ (z0_38 : Int32) (ws : va_W) (H : Heap) (locs : List Loc) (ls : Array Slot), RJ p1 1 12652087842050446 → RI z0_38 5 29 → FLD ws p0 10 38 (.int z0_38) → WD D cy GG A s wr_X10_writeWord__2 wa_X10_writeWord__2 Ps w0 Ps ws H locs → lv_has ls 3 [(0, .ref p0), (1, .long p1)] → W p l e (headSpec (Cond.code yX10_writeWord cX10_writeWord 3 none :: gT) ({ frames := 13, cells := 0, slots := 0, locals := 2600 } : Room)).room s m ([.ref p0, .long p1] : List Value).toArray below meth c H locs 0 0 Q (F0 m 17 ls []) := by
    intro z0_38 ws H locs ls r_p1 r_z0_38 m_z0_38 hw hl
    refine lv_aload_n hx hb dX10_writeWord_17 rfl (lv_at hl 0 rfl) ?_
    refine lv_bipush (v := 96) hx hb dX10_writeWord_18 (by decide) ?_
    refine lv_lload_n hx hb dX10_writeWord_20 rfl (lv_at hl 1 rfl) ?_
    refine lv_ldc2 (v := 27) hx hb hown (hts _ tw_1312) dX10_writeWord_21 ?_
    refine lv_lrem hx hb dX10_writeWord_24 (by decide) (lv_topl (fun w_1 e_w_1 => ?_))
    have r_w_1 := rj_any w_1
    obtain ⟨v_2, e_v_2⟩ : ∃ q9 : Int32, (w_1 : Int64).toInt32 = q9 := ⟨_, rfl⟩
    refine lv_l2i (v := v_2) hx hb dX10_writeWord_25 e_v_2 ?_
    have r_v_2 := ri_any v_2
    refine lv_iadd hx hb dX10_writeWord_26 (lv_topi (fun v_3 e_v_3 => ?_))
    have r_v_3 := ri_any v_3
    refine tk_v (va_runV (As := [.int v_3]) (rest := []) ⟨hx, hb, hml, hown, hts⟩ (c_X10_write__3 l D cy z H.size Ps ws hw.1 p0 v_3 z0_38 h_p0 r_v_3 r_z0_38 m_z0_38) (cwV 1 hts (gV tw_1674 tw_1676 ts_98 tw_15 tw_1677) rfl rfl rfl (by decide +kernel) ⟨Nat.le_of_ble_eq_true rfl, Nat.le_of_ble_eq_true rfl⟩) (tg_preV hw hK hSD hA (ci := 10) (q := (RX10, TX10, 49)) rfl h_p0 rfl) rfl rfl hl.1 rfl (lv_room (Nat.le_of_ble_eq_true rfl)) dX10_writeWord_27 ⟨Nat.le_of_ble_eq_true rfl, Nat.le_of_ble_eq_true rfl⟩) hw hA ⟨by decide, by decide⟩ (fun ws H locs hp_v_4 hw hF9 => ?_)
    obtain ⟨v_5, m_v_5, r_v_5⟩ := (hp_v_4.1)
    subst hQ
    exact W.vret hx hb hr (fun t ht hW => ⟨⟨ws, rfl, ⟨⟨⟨_, m_v_5, r_v_5⟩, trivial⟩, hw.1, hw.2.2.2.2.1⟩, by rw [ht]; exact hw.2.1, va_K.moved hW.alike hK, hw.2.2.1⟩, hw.2.2.2.1.F ht⟩) hw.2.2.2.1.2.2 dX10_writeWord_30
  refine lv_lload_n hx hb dX10_writeWord_0 rfl (lv_at hl 1 rfl) ?_
  refine lv_ldc2 (v := 27) hx hb hown (hts _ tw_1312) dX10_writeWord_1 ?_
  refine W.lcmp hx hb dX10_writeWord_4 (lv_topi (fun v_6 e_v_6 => ?_))
  have r_v_6 := ri_any v_6
  refine lv_if_lt (tgt := 17) hx hb dX10_writeWord_5 (by decide) (fun c_5 => ?_) (fun c_5 => ?_)
  · have r_v_6 : RI v_6 (-2147483648) (-1) := rc_lt1 r_v_6 rl_0 (ti_lt c_5) (by decide)
    have r_p1 : RJ p1 1 26 := tq_lc_lt r_p1 rk_27 e_v_6 c_5 (by decide)
    exact B17 f0_38 w0 _ _ ls (r_p1.to (by decide)) (r_f0_38.to (by decide)) m_f0_38 hw hl
  · have r_v_6 : RI v_6 0 2147483647 := rc_le2 rl_0 r_v_6 (ti_nlt c_5) (by decide)
    have r_p1 : RJ p1 27 12652087842050446 := tq_lc_nlt r_p1 rk_27 e_v_6 c_5 (by decide)
    refine lv_aload_n hx hb dX10_writeWord_8 rfl (lv_at hl 0 rfl) ?_
    refine lv_lload_n hx hb dX10_writeWord_9 rfl (lv_at hl 1 rfl) ?_
    refine lv_ldc2 (v := 27) hx hb hown (hts _ tw_1312) dX10_writeWord_10 ?_
    refine lv_ldiv hx hb dX10_writeWord_13 (by decide) (lv_topl (fun w_7 e_w_7 => ?_))
    have r_w_7 := tq_ldiv (lo := 1) (hi := 468595846001868) r_p1 (by decide) e_w_7
    refine tk_v (va_runV (As := [.long w_7]) (rest := []) ⟨hx, hb, hml, hown, hts⟩ (c_X10_writeWord__3 l D cy z s.heap.size Ps w0 hw.1 p0 w_7 f0_38 h_p0 r_w_7 r_f0_38 m_f0_38) (cwV 1 hts (gV tw_1670 tw_1672 ts_97 tw_15 tw_1673) rfl rfl rfl (by decide +kernel) ⟨Nat.le_of_ble_eq_true rfl, Nat.le_of_ble_eq_true rfl⟩) (tg_preV hw hK hSD hA (ci := 10) (q := (RX10, TX10, 49)) rfl h_p0 rfl) rfl rfl hl.1 rfl (lv_room (Nat.le_of_ble_eq_true rfl)) dX10_writeWord_14 ⟨Nat.le_of_ble_eq_true rfl, Nat.le_of_ble_eq_true rfl⟩) hw hA ⟨by decide, by decide⟩ (fun ws H locs hp_v_8 hw hF9 => ?_)
    obtain ⟨v_9, m_v_9, r_v_9⟩ := (hp_v_8.1)
    exact B17 v_9 ws _ _ ls (r_p1.to (by decide)) (r_v_9.to (by decide)) m_v_9 hw hl
abbrev wr_X10_writeWord__1 : List (Nat × Nat) := [(10, 38)]
abbrev wa_X10_writeWord__1 : List Nat := [51]
set_option maxHeartbeats 4000000 in
set_option maxRecDepth 100000 in
theorem c_X10_writeWord__1 (l : Launch) (D : va_G) (cy : Nat → ClassId) (z : Nat → Nat) (sz : Nat) (Ps : PSI) (w0 : va_W) (hT : HT cy GG Ps w0) (p0 : Nat) (p1 : Int64) (f0_38 : Int32) (h_p0 : (p0, 55) ∈ Ps) (r_p1 : RJ p1 1 341606371735362066) (r_f0_38 : RI f0_38 5 18) (m_f0_38 : FLD w0 p0 10 38 (.int f0_38)) : Met l yX10_writeWord (Cond.code yX10_writeWord cX10_writeWord 3 none :: gT) ({ frames := 14, cells := 0, slots := 0, locals := 2800 } : Room) (va_Pc [.ref p0, .long p1] (PRE D cy z w0 sz)) (va_Qv (fun (u : va_W) => ((∃ v9 : Int32, FLD u p0 10 38 (.int v9) ∧ RI v9 6 31) ∧ True) ∧ HT cy GG Ps u ∧ FR wr_X10_writeWord__1 wa_X10_writeWord__1 Ps w0 u) (BB D cy (va_A w0 sz) (fun (u : va_W) => u)) (va_A w0 sz)) 0 0 (va_A w0 sz) := by
  refine Met.ofW (cc := cX10_writeWord) (maxL := 3) (ret := none) (by decide) rfl ?_
  intro p e s m args below meth c s₁ B hml hv
  obtain ⟨rfl, hsz, hP, hK, hD0, hSD⟩ := hv
  have hx := B.exec
  have hb := B.bytes
  have hr := B.returns
  have hlocks := B.notSynchronized
  have hts : ∀ w ∈ gT, w.before _ s = true := fun w h => atoms_spec (ws := Cond.code yX10_writeWord cX10_writeWord 3 none :: gT) B.pre w (List.mem_cons_of_mem _ h)
  have hown : s.vm.findClass RX10 = some m.cls := findClass_of_methodNamed B.named
  subst hsz
  have hD := hD0.self (sz := s.heap.size)
  generalize hAe : va_A w0 s.heap.size = A at hD hSD ⊢
  have hA : ∀ q : Nat, s.heap.size ≤ q → A q := fun q h => by rw [← hAe]; exact Or.inr h
  have hl := lv_entry ([.ref p0, .long p1]) (n := 3) (Nat.le_of_ble_eq_true rfl)
  rw [lg_entry_eq]
  generalize (lg_sl ([.ref p0, .long p1]) ++ List.replicate (3 - (lg_sl ([.ref p0, .long p1])).length) Slot.unset).toArray = ls at hl ⊢
  have hl : lv_has ls 3 [(0, .ref p0), (1, .long p1)] := hl
  refine nameQ (fun Q hQ => ?_)
  have hw : WD D cy GG A s wr_X10_writeWord__1 wa_X10_writeWord__1 Ps w0 Ps w0 s.heap [] := ⟨hT, hP, hD, va_S.rf, FR.rf, hT.1, [], (List.append_nil _).symm⟩
  have B17 : ∀ (z0_38 : Int32) (ws : va_W) (H : Heap) (locs : List Loc) (ls : Array Slot), RJ p1 1 341606371735362066 → RI z0_38 5 30 → FLD ws p0 10 38 (.int z0_38) → WD D cy GG A s wr_X10_writeWord__1 wa_X10_writeWord__1 Ps w0 Ps ws H locs → lv_has ls 3 [(0, .ref p0), (1, .long p1)] → W p l e (headSpec (Cond.code yX10_writeWord cX10_writeWord 3 none :: gT) ({ frames := 14, cells := 0, slots := 0, locals := 2800 } : Room)).room s m ([.ref p0, .long p1] : List Value).toArray below meth c H locs 0 0 Q (F0 m 17 ls []) := by
    intro z0_38 ws H locs ls r_p1 r_z0_38 m_z0_38 hw hl
    refine lv_aload_n hx hb dX10_writeWord_17 rfl (lv_at hl 0 rfl) ?_
    refine lv_bipush (v := 96) hx hb dX10_writeWord_18 (by decide) ?_
    refine lv_lload_n hx hb dX10_writeWord_20 rfl (lv_at hl 1 rfl) ?_
    refine lv_ldc2 (v := 27) hx hb hown (hts _ tw_1312) dX10_writeWord_21 ?_
    refine lv_lrem hx hb dX10_writeWord_24 (by decide) (lv_topl (fun w_1 e_w_1 => ?_))
    have r_w_1 := rj_any w_1
    obtain ⟨v_2, e_v_2⟩ : ∃ q9 : Int32, (w_1 : Int64).toInt32 = q9 := ⟨_, rfl⟩
    refine lv_l2i (v := v_2) hx hb dX10_writeWord_25 e_v_2 ?_
    have r_v_2 := ri_any v_2
    refine lv_iadd hx hb dX10_writeWord_26 (lv_topi (fun v_3 e_v_3 => ?_))
    have r_v_3 := ri_any v_3
    refine tk_v (va_runV (As := [.int v_3]) (rest := []) ⟨hx, hb, hml, hown, hts⟩ (c_X10_write__2 l D cy z H.size Ps ws hw.1 p0 v_3 z0_38 h_p0 r_v_3 r_z0_38 m_z0_38) (cwV 1 hts (gV tw_1674 tw_1676 ts_98 tw_15 tw_1677) rfl rfl rfl (by decide +kernel) ⟨Nat.le_of_ble_eq_true rfl, Nat.le_of_ble_eq_true rfl⟩) (tg_preV hw hK hSD hA (ci := 10) (q := (RX10, TX10, 49)) rfl h_p0 rfl) rfl rfl hl.1 rfl (lv_room (Nat.le_of_ble_eq_true rfl)) dX10_writeWord_27 ⟨Nat.le_of_ble_eq_true rfl, Nat.le_of_ble_eq_true rfl⟩) hw hA ⟨by decide, by decide⟩ (fun ws H locs hp_v_4 hw hF9 => ?_)
    obtain ⟨v_5, m_v_5, r_v_5⟩ := (hp_v_4.1)
    subst hQ
    exact W.vret hx hb hr (fun t ht hW => ⟨⟨ws, rfl, ⟨⟨⟨_, m_v_5, r_v_5⟩, trivial⟩, hw.1, hw.2.2.2.2.1⟩, by rw [ht]; exact hw.2.1, va_K.moved hW.alike hK, hw.2.2.1⟩, hw.2.2.2.1.F ht⟩) hw.2.2.2.1.2.2 dX10_writeWord_30
  refine lv_lload_n hx hb dX10_writeWord_0 rfl (lv_at hl 1 rfl) ?_
  refine lv_ldc2 (v := 27) hx hb hown (hts _ tw_1312) dX10_writeWord_1 ?_
  refine W.lcmp hx hb dX10_writeWord_4 (lv_topi (fun v_6 e_v_6 => ?_))
  have r_v_6 := ri_any v_6
  refine lv_if_lt (tgt := 17) hx hb dX10_writeWord_5 (by decide) (fun c_5 => ?_) (fun c_5 => ?_)
  · have r_v_6 : RI v_6 (-2147483648) (-1) := rc_lt1 r_v_6 rl_0 (ti_lt c_5) (by decide)
    have r_p1 : RJ p1 1 26 := tq_lc_lt r_p1 rk_27 e_v_6 c_5 (by decide)
    exact B17 f0_38 w0 _ _ ls (r_p1.to (by decide)) (r_f0_38.to (by decide)) m_f0_38 hw hl
  · have r_v_6 : RI v_6 0 2147483647 := rc_le2 rl_0 r_v_6 (ti_nlt c_5) (by decide)
    have r_p1 : RJ p1 27 341606371735362066 := tq_lc_nlt r_p1 rk_27 e_v_6 c_5 (by decide)
    refine lv_aload_n hx hb dX10_writeWord_8 rfl (lv_at hl 0 rfl) ?_
    refine lv_lload_n hx hb dX10_writeWord_9 rfl (lv_at hl 1 rfl) ?_
    refine lv_ldc2 (v := 27) hx hb hown (hts _ tw_1312) dX10_writeWord_10 ?_
    refine lv_ldiv hx hb dX10_writeWord_13 (by decide) (lv_topl (fun w_7 e_w_7 => ?_))
    have r_w_7 := tq_ldiv (lo := 1) (hi := 12652087842050446) r_p1 (by decide) e_w_7
    refine tk_v (va_runV (As := [.long w_7]) (rest := []) ⟨hx, hb, hml, hown, hts⟩ (c_X10_writeWord__2 l D cy z s.heap.size Ps w0 hw.1 p0 w_7 f0_38 h_p0 r_w_7 r_f0_38 m_f0_38) (cwV 1 hts (gV tw_1670 tw_1672 ts_97 tw_15 tw_1673) rfl rfl rfl (by decide +kernel) ⟨Nat.le_of_ble_eq_true rfl, Nat.le_of_ble_eq_true rfl⟩) (tg_preV hw hK hSD hA (ci := 10) (q := (RX10, TX10, 49)) rfl h_p0 rfl) rfl rfl hl.1 rfl (lv_room (Nat.le_of_ble_eq_true rfl)) dX10_writeWord_14 ⟨Nat.le_of_ble_eq_true rfl, Nat.le_of_ble_eq_true rfl⟩) hw hA ⟨by decide, by decide⟩ (fun ws H locs hp_v_8 hw hF9 => ?_)
    obtain ⟨v_9, m_v_9, r_v_9⟩ := (hp_v_8.1)
    exact B17 v_9 ws _ _ ls (r_p1.to (by decide)) (r_v_9.to (by decide)) m_v_9 hw hl
abbrev wr_X10_writeWord : List (Nat × Nat) := [(10, 38)]
abbrev wa_X10_writeWord : List Nat := [51]
set_option maxHeartbeats 4000000 in
set_option maxRecDepth 100000 in
theorem c_X10_writeWord (l : Launch) (D : va_G) (cy : Nat → ClassId) (z : Nat → Nat) (sz : Nat) (Ps : PSI) (w0 : va_W) (hT : HT cy GG Ps w0) (p0 : Nat) (p1 : Int64) (f0_38 : Int32) (h_p0 : (p0, 55) ∈ Ps) (r_p1 : RJ p1 (-9223372036854775808) 9223372036854775807) (r_f0_38 : RI f0_38 5 18) (m_f0_38 : FLD w0 p0 10 38 (.int f0_38)) : Met l yX10_writeWord (Cond.code yX10_writeWord cX10_writeWord 3 none :: gT) ({ frames := 15, cells := 0, slots := 0, locals := 3000 } : Room) (va_Pc [.ref p0, .long p1] (PRE D cy z w0 sz)) (va_Qv (fun (u : va_W) => ((∃ v9 : Int32, FLD u p0 10 38 (.int v9) ∧ RI v9 6 32) ∧ True) ∧ HT cy GG Ps u ∧ FR wr_X10_writeWord wa_X10_writeWord Ps w0 u) (BB D cy (va_A w0 sz) (fun (u : va_W) => u)) (va_A w0 sz)) 0 0 (va_A w0 sz) := by
  refine Met.ofW (cc := cX10_writeWord) (maxL := 3) (ret := none) (by decide) rfl ?_
  intro p e s m args below meth c s₁ B hml hv
  obtain ⟨rfl, hsz, hP, hK, hD0, hSD⟩ := hv
  have hx := B.exec
  have hb := B.bytes
  have hr := B.returns
  have hlocks := B.notSynchronized
  have hts : ∀ w ∈ gT, w.before _ s = true := fun w h => atoms_spec (ws := Cond.code yX10_writeWord cX10_writeWord 3 none :: gT) B.pre w (List.mem_cons_of_mem _ h)
  have hown : s.vm.findClass RX10 = some m.cls := findClass_of_methodNamed B.named
  subst hsz
  have hD := hD0.self (sz := s.heap.size)
  generalize hAe : va_A w0 s.heap.size = A at hD hSD ⊢
  have hA : ∀ q : Nat, s.heap.size ≤ q → A q := fun q h => by rw [← hAe]; exact Or.inr h
  have hl := lv_entry ([.ref p0, .long p1]) (n := 3) (Nat.le_of_ble_eq_true rfl)
  rw [lg_entry_eq]
  generalize (lg_sl ([.ref p0, .long p1]) ++ List.replicate (3 - (lg_sl ([.ref p0, .long p1])).length) Slot.unset).toArray = ls at hl ⊢
  have hl : lv_has ls 3 [(0, .ref p0), (1, .long p1)] := hl
  refine nameQ (fun Q hQ => ?_)
  have hw : WD D cy GG A s wr_X10_writeWord wa_X10_writeWord Ps w0 Ps w0 s.heap [] := ⟨hT, hP, hD, va_S.rf, FR.rf, hT.1, [], (List.append_nil _).symm⟩
  have B17 : ∀ (z0_38 : Int32) (ws : va_W) (H : Heap) (locs : List Loc) (ls : Array Slot), RJ p1 (-9223372036854775808) 9223372036854775807 → RI z0_38 5 31 → FLD ws p0 10 38 (.int z0_38) → WD D cy GG A s wr_X10_writeWord wa_X10_writeWord Ps w0 Ps ws H locs → lv_has ls 3 [(0, .ref p0), (1, .long p1)] → W p l e (headSpec (Cond.code yX10_writeWord cX10_writeWord 3 none :: gT) ({ frames := 15, cells := 0, slots := 0, locals := 3000 } : Room)).room s m ([.ref p0, .long p1] : List Value).toArray below meth c H locs 0 0 Q (F0 m 17 ls []) := by
    intro z0_38 ws H locs ls r_p1 r_z0_38 m_z0_38 hw hl
    refine lv_aload_n hx hb dX10_writeWord_17 rfl (lv_at hl 0 rfl) ?_
    refine lv_bipush (v := 96) hx hb dX10_writeWord_18 (by decide) ?_
    refine lv_lload_n hx hb dX10_writeWord_20 rfl (lv_at hl 1 rfl) ?_
    refine lv_ldc2 (v := 27) hx hb hown (hts _ tw_1312) dX10_writeWord_21 ?_
    refine lv_lrem hx hb dX10_writeWord_24 (by decide) (lv_topl (fun w_1 e_w_1 => ?_))
    have r_w_1 := rj_any w_1
    obtain ⟨v_2, e_v_2⟩ : ∃ q9 : Int32, (w_1 : Int64).toInt32 = q9 := ⟨_, rfl⟩
    refine lv_l2i (v := v_2) hx hb dX10_writeWord_25 e_v_2 ?_
    have r_v_2 := ri_any v_2
    refine lv_iadd hx hb dX10_writeWord_26 (lv_topi (fun v_3 e_v_3 => ?_))
    have r_v_3 := ri_any v_3
    refine tk_v (va_runV (As := [.int v_3]) (rest := []) ⟨hx, hb, hml, hown, hts⟩ (c_X10_write__1 l D cy z H.size Ps ws hw.1 p0 v_3 z0_38 h_p0 r_v_3 r_z0_38 m_z0_38) (cwV 1 hts (gV tw_1674 tw_1676 ts_98 tw_15 tw_1677) rfl rfl rfl (by decide +kernel) ⟨Nat.le_of_ble_eq_true rfl, Nat.le_of_ble_eq_true rfl⟩) (tg_preV hw hK hSD hA (ci := 10) (q := (RX10, TX10, 49)) rfl h_p0 rfl) rfl rfl hl.1 rfl (lv_room (Nat.le_of_ble_eq_true rfl)) dX10_writeWord_27 ⟨Nat.le_of_ble_eq_true rfl, Nat.le_of_ble_eq_true rfl⟩) hw hA ⟨by decide, by decide⟩ (fun ws H locs hp_v_4 hw hF9 => ?_)
    obtain ⟨v_5, m_v_5, r_v_5⟩ := (hp_v_4.1)
    subst hQ
    exact W.vret hx hb hr (fun t ht hW => ⟨⟨ws, rfl, ⟨⟨⟨_, m_v_5, r_v_5⟩, trivial⟩, hw.1, hw.2.2.2.2.1⟩, by rw [ht]; exact hw.2.1, va_K.moved hW.alike hK, hw.2.2.1⟩, hw.2.2.2.1.F ht⟩) hw.2.2.2.1.2.2 dX10_writeWord_30
  refine lv_lload_n hx hb dX10_writeWord_0 rfl (lv_at hl 1 rfl) ?_
  refine lv_ldc2 (v := 27) hx hb hown (hts _ tw_1312) dX10_writeWord_1 ?_
  refine W.lcmp hx hb dX10_writeWord_4 (lv_topi (fun v_6 e_v_6 => ?_))
  have r_v_6 := ri_any v_6
  refine lv_if_lt (tgt := 17) hx hb dX10_writeWord_5 (by decide) (fun c_5 => ?_) (fun c_5 => ?_)
  · have r_v_6 : RI v_6 (-2147483648) (-1) := rc_lt1 r_v_6 rl_0 (ti_lt c_5) (by decide)
    have r_p1 : RJ p1 (-9223372036854775808) 26 := tq_lc_lt r_p1 rk_27 e_v_6 c_5 (by decide)
    exact B17 f0_38 w0 _ _ ls (r_p1.to (by decide)) (r_f0_38.to (by decide)) m_f0_38 hw hl
  · have r_v_6 : RI v_6 0 2147483647 := rc_le2 rl_0 r_v_6 (ti_nlt c_5) (by decide)
    have r_p1 : RJ p1 27 9223372036854775807 := tq_lc_nlt r_p1 rk_27 e_v_6 c_5 (by decide)
    refine lv_aload_n hx hb dX10_writeWord_8 rfl (lv_at hl 0 rfl) ?_
    refine lv_lload_n hx hb dX10_writeWord_9 rfl (lv_at hl 1 rfl) ?_
    refine lv_ldc2 (v := 27) hx hb hown (hts _ tw_1312) dX10_writeWord_10 ?_
    refine lv_ldiv hx hb dX10_writeWord_13 (by decide) (lv_topl (fun w_7 e_w_7 => ?_))
    have r_w_7 := tq_ldiv (lo := 1) (hi := 341606371735362066) r_p1 (by decide) e_w_7
    refine tk_v (va_runV (As := [.long w_7]) (rest := []) ⟨hx, hb, hml, hown, hts⟩ (c_X10_writeWord__1 l D cy z s.heap.size Ps w0 hw.1 p0 w_7 f0_38 h_p0 r_w_7 r_f0_38 m_f0_38) (cwV 1 hts (gV tw_1670 tw_1672 ts_97 tw_15 tw_1673) rfl rfl rfl (by decide +kernel) ⟨Nat.le_of_ble_eq_true rfl, Nat.le_of_ble_eq_true rfl⟩) (tg_preV hw hK hSD hA (ci := 10) (q := (RX10, TX10, 49)) rfl h_p0 rfl) rfl rfl hl.1 rfl (lv_room (Nat.le_of_ble_eq_true rfl)) dX10_writeWord_14 ⟨Nat.le_of_ble_eq_true rfl, Nat.le_of_ble_eq_true rfl⟩) hw hA ⟨by decide, by decide⟩ (fun ws H locs hp_v_8 hw hF9 => ?_)
    obtain ⟨v_9, m_v_9, r_v_9⟩ := (hp_v_8.1)
    exact B17 v_9 ws _ _ ls (r_p1.to (by decide)) (r_v_9.to (by decide)) m_v_9 hw hl
abbrev wr_X10_writeNext : List (Nat × Nat) := [(10, 38)]
abbrev wa_X10_writeNext : List Nat := [51]
set_option maxHeartbeats 4000000 in
set_option maxRecDepth 100000 in
theorem c_X10_writeNext (l : Launch) (D : va_G) (cy : Nat → ClassId) (z : Nat → Nat) (sz : Nat) (Ps : PSI) (w0 : va_W) (hT : HT cy GG Ps w0) (p0 : Nat) (p1 : Int64) (f0_38 : Int32) (h_p0 : (p0, 55) ∈ Ps) (r_p1 : RJ p1 (-9223372036854775808) 9223372036854775807) (r_f0_38 : RI f0_38 4 17) (m_f0_38 : FLD w0 p0 10 38 (.int f0_38)) : Met l yX10_writeNext (Cond.code yX10_writeNext cX10_writeNext 3 none :: gT) ({ frames := 16, cells := 0, slots := 0, locals := 3200 } : Room) (va_Pc [.ref p0, .long p1] (PRE D cy z w0 sz)) (va_Qv (fun (u : va_W) => ((∃ v9 : Int32, FLD u p0 10 38 (.int v9) ∧ RI v9 6 32) ∧ True) ∧ HT cy GG Ps u ∧ FR wr_X10_writeNext wa_X10_writeNext Ps w0 u) (BB D cy (va_A w0 sz) (fun (u : va_W) => u)) (va_A w0 sz)) 0 0 (va_A w0 sz) := by
  refine Met.ofW (cc := cX10_writeNext) (maxL := 3) (ret := none) (by decide) rfl ?_
  intro p e s m args below meth c s₁ B hml hv
  obtain ⟨rfl, hsz, hP, hK, hD0, hSD⟩ := hv
  have hx := B.exec
  have hb := B.bytes
  have hr := B.returns
  have hlocks := B.notSynchronized
  have hts : ∀ w ∈ gT, w.before _ s = true := fun w h => atoms_spec (ws := Cond.code yX10_writeNext cX10_writeNext 3 none :: gT) B.pre w (List.mem_cons_of_mem _ h)
  have hown : s.vm.findClass RX10 = some m.cls := findClass_of_methodNamed B.named
  subst hsz
  have hD := hD0.self (sz := s.heap.size)
  generalize hAe : va_A w0 s.heap.size = A at hD hSD ⊢
  have hA : ∀ q : Nat, s.heap.size ≤ q → A q := fun q h => by rw [← hAe]; exact Or.inr h
  have hl := lv_entry ([.ref p0, .long p1]) (n := 3) (Nat.le_of_ble_eq_true rfl)
  rw [lg_entry_eq]
  generalize (lg_sl ([.ref p0, .long p1]) ++ List.replicate (3 - (lg_sl ([.ref p0, .long p1])).length) Slot.unset).toArray = ls at hl ⊢
  have hl : lv_has ls 3 [(0, .ref p0), (1, .long p1)] := hl
  refine nameQ (fun Q hQ => ?_)
  have hw : WD D cy GG A s wr_X10_writeNext wa_X10_writeNext Ps w0 Ps w0 s.heap [] := ⟨hT, hP, hD, va_S.rf, FR.rf, hT.1, [], (List.append_nil _).symm⟩
  refine lv_aload_n hx hb dX10_writeNext_0 rfl (lv_at hl 0 rfl) ?_
  refine lv_bipush (v := 32) hx hb dX10_writeNext_1 (by decide) ?_
  refine tk_v (va_runV (As := [.int 32]) (rest := []) ⟨hx, hb, hml, hown, hts⟩ (c_X10_write l D cy z s.heap.size Ps w0 hw.1 p0 32 f0_38 h_p0 (rl_32.to (by decide)) r_f0_38 m_f0_38) (cwV 1 hts (gV tw_1674 tw_1676 ts_98 tw_15 tw_1677) rfl rfl rfl (by decide +kernel) ⟨Nat.le_of_ble_eq_true rfl, Nat.le_of_ble_eq_true rfl⟩) (tg_preV hw hK hSD hA (ci := 10) (q := (RX10, TX10, 49)) rfl h_p0 rfl) rfl rfl hl.1 rfl (lv_room (Nat.le_of_ble_eq_true rfl)) dX10_writeNext_3 ⟨Nat.le_of_ble_eq_true rfl, Nat.le_of_ble_eq_true rfl⟩) hw hA ⟨by decide, by decide⟩ (fun ws H locs hp_v_1 hw hF9 => ?_)
  obtain ⟨v_2, m_v_2, r_v_2⟩ := (hp_v_1.1)
  refine lv_aload_n hx hb dX10_writeNext_6 rfl (lv_at hl 0 rfl) ?_
  refine lv_lload_n hx hb dX10_writeNext_7 rfl (lv_at hl 1 rfl) ?_
  refine tk_v (va_runV (As := [.long p1]) (rest := []) ⟨hx, hb, hml, hown, hts⟩ (c_X10_writeWord l D cy z H.size Ps ws hw.1 p0 p1 v_2 h_p0 r_p1 r_v_2 m_v_2) (cwV 1 hts (gV tw_1670 tw_1672 ts_97 tw_15 tw_1673) rfl rfl rfl (by decide +kernel) ⟨Nat.le_of_ble_eq_true rfl, Nat.le_of_ble_eq_true rfl⟩) (tg_preV hw hK hSD hA (ci := 10) (q := (RX10, TX10, 49)) rfl h_p0 rfl) rfl rfl hl.1 rfl (lv_room (Nat.le_of_ble_eq_true rfl)) dX10_writeNext_8 ⟨Nat.le_of_ble_eq_true rfl, Nat.le_of_ble_eq_true rfl⟩) hw hA ⟨by decide, by decide⟩ (fun ws H locs hp_v_3 hw hF9 => ?_)
  obtain ⟨v_4, m_v_4, r_v_4⟩ := (hp_v_3.1)
  subst hQ
  exact W.vret hx hb hr (fun t ht hW => ⟨⟨ws, rfl, ⟨⟨⟨_, m_v_4, r_v_4⟩, trivial⟩, hw.1, hw.2.2.2.2.1⟩, by rw [ht]; exact hw.2.1, va_K.moved hW.alike hK, hw.2.2.1⟩, hw.2.2.2.1.F ht⟩) hw.2.2.2.1.2.2 dX10_writeNext_11
abbrev wr_X10_spelt__28 : List (Nat × Nat) := []
abbrev wa_X10_spelt__28 : List Nat := []
set_option maxHeartbeats 4000000 in
set_option maxRecDepth 100000 in
theorem c_X10_spelt__28 (l : Launch) (D : va_G) (cy : Nat → ClassId) (z : Nat → Nat) (sz : Nat) (Ps : PSI) (w0 : va_W) (hT : HT cy GG Ps w0) (p0 : Int32) (p1 : Int32) (p2 : Int32) (p3 : Int32) (p4 : Int32) (p5 : Int32) (p6 : Int32) (r_p0 : RI p0 97 97) (r_p1 : RI p1 116 116) (r_p2 : RI p2 0 0) (r_p3 : RI p3 0 0) (r_p4 : RI p4 0 0) (r_p5 : RI p5 0 0) (r_p6 : RI p6 0 0) : Met l yX10_spelt (Cond.code yX10_spelt cX10_spelt 9 (some .long) :: gT) ({ frames := 0, cells := 0, slots := 0, locals := 200 } : Room) (va_Pc [.int p0, .int p1, .int p2, .int p3, .int p4, .int p5, .int p6] (PRE D cy z w0 sz)) (va_Ql (fun (r : Int64) (u : Unit) => RJ r 47 47) (BB D cy (va_A w0 sz) (fun (u : Unit) => w0)) (va_A w0 sz)) 0 0 (va_A w0 sz) := by
  refine Met.ofW (cc := cX10_spelt) (maxL := 9) (ret := (some .long)) (by decide) rfl ?_
  intro p e s m args below meth c s₁ B hml hv
  obtain ⟨rfl, hsz, hP, hK, hD0, hSD⟩ := hv
  have hx := B.exec
  have hb := B.bytes
  have hr := B.returns
  have hlocks := B.notSynchronized
  have hts : ∀ w ∈ gT, w.before _ s = true := fun w h => atoms_spec (ws := Cond.code yX10_spelt cX10_spelt 9 (some .long) :: gT) B.pre w (List.mem_cons_of_mem _ h)
  have hown : s.vm.findClass RX10 = some m.cls := findClass_of_methodNamed B.named
  subst hsz
  have hD := hD0.self (sz := s.heap.size)
  generalize hAe : va_A w0 s.heap.size = A at hD hSD ⊢
  have hA : ∀ q : Nat, s.heap.size ≤ q → A q := fun q h => by rw [← hAe]; exact Or.inr h
  have hl := lv_entry ([.int p0, .int p1, .int p2, .int p3, .int p4, .int p5, .int p6]) (n := 9) (Nat.le_of_ble_eq_true rfl)
  rw [lg_entry_eq]
  generalize (lg_sl ([.int p0, .int p1, .int p2, .int p3, .int p4, .int p5, .int p6]) ++ List.replicate (9 - (lg_sl ([.int p0, .int p1, .int p2, .int p3, .int p4, .int p5, .int p6])).length) Slot.unset).toArray = ls at hl ⊢
  have hl : lv_has ls 9 [(0, .int p0), (1, .int p1), (2, .int p2), (3, .int p3), (4, .int p4), (5, .int p5), (6, .int p6)] := hl
  refine nameQ (fun Q hQ => ?_)
  have hw : WD D cy GG A s wr_X10_spelt__28 wa_X10_spelt__28 Ps w0 Ps w0 s.heap [] := ⟨hT, hP, hD, va_S.rf, FR.rf, hT.1, [], (List.append_nil _).symm⟩
  have B99 : ∀ (x7 : Int64) (H : Heap) (locs : List Loc) (ls : Array Slot), RI p0 97 97 → RI p1 116 116 → RI p2 0 0 → RI p3 0 0 → RI p4 0 0 → RI p5 0 0 → RI p6 0 0 → RJ x7 47 47 → WD D cy GG A s wr_X10_spelt__28 wa_X10_spelt__28 Ps w0 Ps w0 H locs → lv_has ls 9 [(0, .int p0), (1, .int p1), (2, .int p2), (3, .int p3), (4, .int p4), (5, .int p5), (6, .int p6), (7, .long x7)] → W p l e (headSpec (Cond.code yX10_spelt cX10_spelt 9 (some .long) :: gT) ({ frames := 0, cells := 0, slots := 0, locals := 200 } : Room)).room s m ([.int p0, .int p1, .int p2, .int p3, .int p4, .int p5, .int p6] : List Value).toArray below meth c H locs 0 0 Q (F0 m 99 ls []) := by
    intro x7 H locs ls r_p0 r_p1 r_p2 r_p3 r_p4 r_p5 r_p6 r_x7 hw hl
    refine lv_iload hx hb dX10_spelt_99 (lv_at hl 6 rfl) ?_
    refine lv_if_le (tgt := 120) hx hb dX10_spelt_101 (by decide) (fun c_101 => ?_) (fun c_101 => ?_)
    · refine lv_lload hx hb dX10_spelt_120 (lv_at hl 7 rfl) ?_
      subst hQ
      exact W.lret (v := x7) hx hb hr (fun t ht hW => ⟨⟨x7, (), rfl, r_x7.to (by decide), by rw [ht]; exact hw.2.1, va_K.moved hW.alike hK, hw.2.2.1⟩, hw.2.2.2.1.F ht⟩) hw.2.2.2.1.2.2 dX10_spelt_122
    · have r_p6 : RI p6 1 0 := rc_lt2 rl_0 r_p6 (ti_nle c_101) (by decide)
      exact (r_p6.no (by decide)).elim
  have B78 : ∀ (x7 : Int64) (H : Heap) (locs : List Loc) (ls : Array Slot), RI p0 97 97 → RI p1 116 116 → RI p2 0 0 → RI p3 0 0 → RI p4 0 0 → RI p5 0 0 → RI p6 0 0 → RJ x7 47 47 → WD D cy GG A s wr_X10_spelt__28 wa_X10_spelt__28 Ps w0 Ps w0 H locs → lv_has ls 9 [(0, .int p0), (1, .int p1), (2, .int p2), (3, .int p3), (4, .int p4), (5, .int p5), (6, .int p6), (7, .long x7)] → W p l e (headSpec (Cond.code yX10_spelt cX10_spelt 9 (some .long) :: gT) ({ frames := 0, cells := 0, slots := 0, locals := 200 } : Room)).room s m ([.int p0, .int p1, .int p2, .int p3, .int p4, .int p5, .int p6] : List Value).toArray below meth c H locs 0 0 Q (F0 m 78 ls []) := by
    intro x7 H locs ls r_p0 r_p1 r_p2 r_p3 r_p4 r_p5 r_p6 r_x7 hw hl
    refine lv_iload hx hb dX10_spelt_78 (lv_at hl 5 rfl) ?_
    refine lv_if_le (tgt := 99) hx hb dX10_spelt_80 (by decide) (fun c_80 => ?_) (fun c_80 => ?_)
    · exact B99 x7 _ _ ls r_p0 r_p1 r_p2 r_p3 r_p4 r_p5 r_p6 r_x7 hw hl
    · have r_p5 : RI p5 1 0 := rc_lt2 rl_0 r_p5 (ti_nle c_80) (by decide)
      exact (r_p5.no (by decide)).elim
  have B57 : ∀ (x7 : Int64) (H : Heap) (locs : List Loc) (ls : Array Slot), RI p0 97 97 → RI p1 116 116 → RI p2 0 0 → RI p3 0 0 → RI p4 0 0 → RI p5 0 0 → RI p6 0 0 → RJ x7 47 47 → WD D cy GG A s wr_X10_spelt__28 wa_X10_spelt__28 Ps w0 Ps w0 H locs → lv_has ls 9 [(0, .int p0), (1, .int p1), (2, .int p2), (3, .int p3), (4, .int p4), (5, .int p5), (6, .int p6), (7, .long x7)] → W p l e (headSpec (Cond.code yX10_spelt cX10_spelt 9 (some .long) :: gT) ({ frames := 0, cells := 0, slots := 0, locals := 200 } : Room)).room s m ([.int p0, .int p1, .int p2, .int p3, .int p4, .int p5, .int p6] : List Value).toArray below meth c H locs 0 0 Q (F0 m 57 ls []) := by
    intro x7 H locs ls r_p0 r_p1 r_p2 r_p3 r_p4 r_p5 r_p6 r_x7 hw hl
    refine lv_iload hx hb dX10_spelt_57 (lv_at hl 4 rfl) ?_
    refine lv_if_le (tgt := 78) hx hb dX10_spelt_59 (by decide) (fun c_59 => ?_) (fun c_59 => ?_)
    · exact B78 x7 _ _ ls r_p0 r_p1 r_p2 r_p3 r_p4 r_p5 r_p6 r_x7 hw hl
    · have r_p4 : RI p4 1 0 := rc_lt2 rl_0 r_p4 (ti_nle c_59) (by decide)
      exact (r_p4.no (by decide)).elim
  have B38 : ∀ (x7 : Int64) (H : Heap) (locs : List Loc) (ls : Array Slot), RI p0 97 97 → RI p1 116 116 → RI p2 0 0 → RI p3 0 0 → RI p4 0 0 → RI p5 0 0 → RI p6 0 0 → RJ x7 47 47 → WD D cy GG A s wr_X10_spelt__28 wa_X10_spelt__28 Ps w0 Ps w0 H locs → lv_has ls 9 [(0, .int p0), (1, .int p1), (2, .int p2), (3, .int p3), (4, .int p4), (5, .int p5), (6, .int p6), (7, .long x7)] → W p l e (headSpec (Cond.code yX10_spelt cX10_spelt 9 (some .long) :: gT) ({ frames := 0, cells := 0, slots := 0, locals := 200 } : Room)).room s m ([.int p0, .int p1, .int p2, .int p3, .int p4, .int p5, .int p6] : List Value).toArray below meth c H locs 0 0 Q (F0 m 38 ls []) := by
    intro x7 H locs ls r_p0 r_p1 r_p2 r_p3 r_p4 r_p5 r_p6 r_x7 hw hl
    refine lv_iload_n hx hb dX10_spelt_38 rfl (lv_at hl 3 rfl) ?_
    refine lv_if_le (tgt := 57) hx hb dX10_spelt_39 (by decide) (fun c_39 => ?_) (fun c_39 => ?_)
    · exact B57 x7 _ _ ls r_p0 r_p1 r_p2 r_p3 r_p4 r_p5 r_p6 r_x7 hw hl
    · have r_p3 : RI p3 1 0 := rc_lt2 rl_0 r_p3 (ti_nle c_39) (by decide)
      exact (r_p3.no (by decide)).elim
  refine lv_ldc2 (v := 27) hx hb hown (hts _ tw_1312) dX10_spelt_0 ?_
  refine lv_iload_n hx hb dX10_spelt_3 rfl (lv_at hl 0 rfl) ?_
  obtain ⟨w_1, e_w_1⟩ : ∃ q9 : Int64, (p0 : Int32).toInt64 = q9 := ⟨_, rfl⟩
  refine lv_i2l (v := w_1) hx hb dX10_spelt_4 e_w_1 ?_
  have r_w_1 := tq_i2l r_p0 e_w_1
  refine lv_ldc2 (v := 96) hx hb hown (hts _ tw_1313) dX10_spelt_5 ?_
  refine lv_lsub hx hb dX10_spelt_8 (lv_topl (fun w_2 e_w_2 => ?_))
  have r_w_2 := tq_lsub (lo := 1) (hi := 1) r_w_1 rk_96 (by decide +kernel) e_w_2
  refine lv_lmul hx hb dX10_spelt_9 (lv_topl (fun w_3 e_w_3 => ?_))
  have r_w_3 := tq_lmul (lo := 27) (hi := 27) rk_27 r_w_2 (by decide +kernel) e_w_3
  refine lv_iload_n hx hb dX10_spelt_10 rfl (lv_at hl 1 rfl) ?_
  obtain ⟨w_4, e_w_4⟩ : ∃ q9 : Int64, (p1 : Int32).toInt64 = q9 := ⟨_, rfl⟩
  refine lv_i2l (v := w_4) hx hb dX10_spelt_11 e_w_4 ?_
  have r_w_4 := tq_i2l r_p1 e_w_4
  refine lv_ladd hx hb dX10_spelt_12 (lv_topl (fun w_5 e_w_5 => ?_))
  have r_w_5 := tq_ladd (lo := 143) (hi := 143) r_w_3 r_w_4 (by decide +kernel) e_w_5
  refine lv_ldc2 (v := 96) hx hb hown (hts _ tw_1313) dX10_spelt_13 ?_
  refine lv_lsub hx hb dX10_spelt_16 (lv_topl (fun w_6 e_w_6 => ?_))
  have r_w_6 := tq_lsub (lo := 47) (hi := 47) r_w_5 rk_96 (by decide +kernel) e_w_6
  refine lv_lstore (lv' := [(7, .long w_6), (0, .int p0), (1, .int p1), (2, .int p2), (3, .int p3), (4, .int p4), (5, .int p5), (6, .int p6)]) hx hb dX10_spelt_17 hl (by decide) rfl (fun ls hl => ?_)
  refine lv_iload_n hx hb dX10_spelt_19 rfl (lv_at hl 3 rfl) ?_
  refine lv_if_le (tgt := 38) hx hb dX10_spelt_20 (by decide) (fun c_20 => ?_) (fun c_20 => ?_)
  · exact B38 w_6 _ _ ls r_p0 r_p1 r_p2 r_p3 r_p4 r_p5 r_p6 r_w_6 hw (lv_sub hl [1, 2, 3, 4, 5, 6, 7, 0] rfl)
  · have r_p2 : RI p2 1 0 := rc_lt2 rl_0 r_p2 (ti_nle c_20) (by decide)
    exact (r_p2.no (by decide)).elim
abbrev wr_X10_write__15 : List (Nat × Nat) := [(10, 38)]
abbrev wa_X10_write__15 : List Nat := [51]
set_option maxHeartbeats 4000000 in
set_option maxRecDepth 100000 in
theorem c_X10_write__15 (l : Launch) (D : va_G) (cy : Nat → ClassId) (z : Nat → Nat) (sz : Nat) (Ps : PSI) (w0 : va_W) (hT : HT cy GG Ps w0) (p0 : Nat) (p1 : Int32) (f0_38 : Int32) (h_p0 : (p0, 55) ∈ Ps) (r_p1 : RI p1 (-2147483648) 2147483647) (r_f0_38 : RI f0_38 6 32) (m_f0_38 : FLD w0 p0 10 38 (.int f0_38)) : Met l yX10_write (Cond.code yX10_write cX10_write 2 none :: gT) ({ frames := 0, cells := 0, slots := 0, locals := 200 } : Room) (va_Pc [.ref p0, .int p1] (PRE D cy z w0 sz)) (va_Qv (fun (u : va_W) => ((∃ v9 : Int32, FLD u p0 10 38 (.int v9) ∧ RI v9 7 33) ∧ True) ∧ HT cy GG Ps u ∧ FR wr_X10_write__15 wa_X10_write__15 Ps w0 u) (BB D cy (va_A w0 sz) (fun (u : va_W) => u)) (va_A w0 sz)) 0 0 (va_A w0 sz) := by
  refine Met.ofW (cc := cX10_write) (maxL := 2) (ret := none) (by decide) rfl ?_
  intro p e s m args below meth c s₁ B hml hv
  obtain ⟨rfl, hsz, hP, hK, hD0, hSD⟩ := hv
  have hx := B.exec
  have hb := B.bytes
  have hr := B.returns
  have hlocks := B.notSynchronized
  have hts : ∀ w ∈ gT, w.before _ s = true := fun w h => atoms_spec (ws := Cond.code yX10_write cX10_write 2 none :: gT) B.pre w (List.mem_cons_of_mem _ h)
  have hown : s.vm.findClass RX10 = some m.cls := findClass_of_methodNamed B.named
  subst hsz
  have hD := hD0.self (sz := s.heap.size)
  generalize hAe : va_A w0 s.heap.size = A at hD hSD ⊢
  have hA : ∀ q : Nat, s.heap.size ≤ q → A q := fun q h => by rw [← hAe]; exact Or.inr h
  have hl := lv_entry ([.ref p0, .int p1]) (n := 2) (Nat.le_of_ble_eq_true rfl)
  rw [lg_entry_eq]
  generalize (lg_sl ([.ref p0, .int p1]) ++ List.replicate (2 - (lg_sl ([.ref p0, .int p1])).length) Slot.unset).toArray = ls at hl ⊢
  have hl : lv_has ls 2 [(0, .ref p0), (1, .int p1)] := hl
  refine nameQ (fun Q hQ => ?_)
  have hw : WD D cy GG A s wr_X10_write__15 wa_X10_write__15 Ps w0 Ps w0 s.heap [] := ⟨hT, hP, hD, va_S.rf, FR.rf, hT.1, [], (List.append_nil _).symm⟩
  refine lv_aload_n hx hb dX10_write_0 rfl (lv_at hl 0 rfl) ?_
  refine tg_get (ci := 10) (ts := ty_MODEL) (C := RX10) (T := TX10) (N := 49) hx hb hts inX10 hown hK hw h_p0 rfl rfl 37 (by decide) (hts _ tw_1174) (fun _ h9 => h9) (ft := vR 51) rfl dX10_write_1 (fun u_1 hv_u_1 m_u_1 => ?_)
  obtain ⟨vu_1, rfl, h_vu_1⟩ := hv_u_1
  refine lv_aload_n hx hb dX10_write_4 rfl (lv_at hl 0 rfl) ?_
  refine tg_mem (ci := 10) (C := RX10) (T := TX10) (N := 49) hx hb hts inX10 hown hK hw 38 m_f0_38 rfl (by decide) (hts _ tw_1175) (fun _ h9 => h9) dX10_write_5 ?_
  refine lv_iload_n hx hb dX10_write_8 rfl (lv_at hl 1 rfl) ?_
  refine tg_iast hx hb hK hw h_vu_1 rfl 6 32 r_f0_38 (by decide) r_p1 (by exact fun _ _ _ => by decide) (fun _ _ _ _ _ => trivial) (by decide) dX10_write_9 (fun ws H locs hw hF9 hU9 => ?_)
  have m_f0_38 := FLD.over hF9 m_f0_38 (by decide)
  refine lv_aload_n hx hb dX10_write_10 rfl (lv_at hl 0 rfl) ?_
  refine lv_dup hx hb dX10_write_11 rfl ?_
  refine tg_mem (ci := 10) (C := RX10) (T := TX10) (N := 49) hx hb hts inX10 hown hK hw 38 m_f0_38 rfl (by decide) (hts _ tw_1175) (fun _ h9 => h9) dX10_write_12 ?_
  refine lv_iconst (v := 1) hx hb dX10_write_15 (by decide) ?_
  refine lv_iadd hx hb dX10_write_16 (lv_topi (fun v_2 e_v_2 => ?_))
  obtain ⟨t_v_2, r_v_2⟩ := tq_add (lo := 7) (hi := 33) r_f0_38 rl_1 (by decide +kernel) e_v_2
  have t_v_2 : v_2.toInt = f0_38.toInt + 1 := t_v_2
  refine tg_put (ci := 10) (ts := ty_MODEL) (v := .int v_2) (ty := .int) (C := RX10) (T := TX10) (N := 49) hx hb hts inX10 tyX10 tyX10_ok nmX10 hown hK hw h_p0 rfl rfl 38 (by decide) (hts _ tw_1175) (fun _ h9 => h9) rfl (by decide +kernel) rfl rfl (ft := vI 0 64) rfl ⟨_, rfl, (r_v_2.to (by decide))⟩ (by decide) dX10_write_17 (fun ws H locs hw n_k_3 hF9 => ?_)
  subst hQ
  exact W.vret hx hb hr (fun t ht hW => ⟨⟨ws, rfl, ⟨⟨⟨_, n_k_3, r_v_2⟩, trivial⟩, hw.1, hw.2.2.2.2.1⟩, by rw [ht]; exact hw.2.1, va_K.moved hW.alike hK, hw.2.2.1⟩, hw.2.2.2.1.F ht⟩) hw.2.2.2.1.2.2 dX10_write_20
abbrev wr_X10_write__16 : List (Nat × Nat) := [(10, 38)]
abbrev wa_X10_write__16 : List Nat := [51]
set_option maxHeartbeats 4000000 in
set_option maxRecDepth 100000 in
theorem c_X10_write__16 (l : Launch) (D : va_G) (cy : Nat → ClassId) (z : Nat → Nat) (sz : Nat) (Ps : PSI) (w0 : va_W) (hT : HT cy GG Ps w0) (p0 : Nat) (p1 : Int32) (f0_38 : Int32) (h_p0 : (p0, 55) ∈ Ps) (r_p1 : RI p1 (-2147483648) 2147483647) (r_f0_38 : RI f0_38 8 34) (m_f0_38 : FLD w0 p0 10 38 (.int f0_38)) : Met l yX10_write (Cond.code yX10_write cX10_write 2 none :: gT) ({ frames := 0, cells := 0, slots := 0, locals := 200 } : Room) (va_Pc [.ref p0, .int p1] (PRE D cy z w0 sz)) (va_Qv (fun (u : va_W) => ((∃ v9 : Int32, FLD u p0 10 38 (.int v9) ∧ RI v9 9 35) ∧ True) ∧ HT cy GG Ps u ∧ FR wr_X10_write__16 wa_X10_write__16 Ps w0 u) (BB D cy (va_A w0 sz) (fun (u : va_W) => u)) (va_A w0 sz)) 0 0 (va_A w0 sz) := by
  refine Met.ofW (cc := cX10_write) (maxL := 2) (ret := none) (by decide) rfl ?_
  intro p e s m args below meth c s₁ B hml hv
  obtain ⟨rfl, hsz, hP, hK, hD0, hSD⟩ := hv
  have hx := B.exec
  have hb := B.bytes
  have hr := B.returns
  have hlocks := B.notSynchronized
  have hts : ∀ w ∈ gT, w.before _ s = true := fun w h => atoms_spec (ws := Cond.code yX10_write cX10_write 2 none :: gT) B.pre w (List.mem_cons_of_mem _ h)
  have hown : s.vm.findClass RX10 = some m.cls := findClass_of_methodNamed B.named
  subst hsz
  have hD := hD0.self (sz := s.heap.size)
  generalize hAe : va_A w0 s.heap.size = A at hD hSD ⊢
  have hA : ∀ q : Nat, s.heap.size ≤ q → A q := fun q h => by rw [← hAe]; exact Or.inr h
  have hl := lv_entry ([.ref p0, .int p1]) (n := 2) (Nat.le_of_ble_eq_true rfl)
  rw [lg_entry_eq]
  generalize (lg_sl ([.ref p0, .int p1]) ++ List.replicate (2 - (lg_sl ([.ref p0, .int p1])).length) Slot.unset).toArray = ls at hl ⊢
  have hl : lv_has ls 2 [(0, .ref p0), (1, .int p1)] := hl
  refine nameQ (fun Q hQ => ?_)
  have hw : WD D cy GG A s wr_X10_write__16 wa_X10_write__16 Ps w0 Ps w0 s.heap [] := ⟨hT, hP, hD, va_S.rf, FR.rf, hT.1, [], (List.append_nil _).symm⟩
  refine lv_aload_n hx hb dX10_write_0 rfl (lv_at hl 0 rfl) ?_
  refine tg_get (ci := 10) (ts := ty_MODEL) (C := RX10) (T := TX10) (N := 49) hx hb hts inX10 hown hK hw h_p0 rfl rfl 37 (by decide) (hts _ tw_1174) (fun _ h9 => h9) (ft := vR 51) rfl dX10_write_1 (fun u_1 hv_u_1 m_u_1 => ?_)
  obtain ⟨vu_1, rfl, h_vu_1⟩ := hv_u_1
  refine lv_aload_n hx hb dX10_write_4 rfl (lv_at hl 0 rfl) ?_
  refine tg_mem (ci := 10) (C := RX10) (T := TX10) (N := 49) hx hb hts inX10 hown hK hw 38 m_f0_38 rfl (by decide) (hts _ tw_1175) (fun _ h9 => h9) dX10_write_5 ?_
  refine lv_iload_n hx hb dX10_write_8 rfl (lv_at hl 1 rfl) ?_
  refine tg_iast hx hb hK hw h_vu_1 rfl 8 34 r_f0_38 (by decide) r_p1 (by exact fun _ _ _ => by decide) (fun _ _ _ _ _ => trivial) (by decide) dX10_write_9 (fun ws H locs hw hF9 hU9 => ?_)
  have m_f0_38 := FLD.over hF9 m_f0_38 (by decide)
  refine lv_aload_n hx hb dX10_write_10 rfl (lv_at hl 0 rfl) ?_
  refine lv_dup hx hb dX10_write_11 rfl ?_
  refine tg_mem (ci := 10) (C := RX10) (T := TX10) (N := 49) hx hb hts inX10 hown hK hw 38 m_f0_38 rfl (by decide) (hts _ tw_1175) (fun _ h9 => h9) dX10_write_12 ?_
  refine lv_iconst (v := 1) hx hb dX10_write_15 (by decide) ?_
  refine lv_iadd hx hb dX10_write_16 (lv_topi (fun v_2 e_v_2 => ?_))
  obtain ⟨t_v_2, r_v_2⟩ := tq_add (lo := 9) (hi := 35) r_f0_38 rl_1 (by decide +kernel) e_v_2
  have t_v_2 : v_2.toInt = f0_38.toInt + 1 := t_v_2
  refine tg_put (ci := 10) (ts := ty_MODEL) (v := .int v_2) (ty := .int) (C := RX10) (T := TX10) (N := 49) hx hb hts inX10 tyX10 tyX10_ok nmX10 hown hK hw h_p0 rfl rfl 38 (by decide) (hts _ tw_1175) (fun _ h9 => h9) rfl (by decide +kernel) rfl rfl (ft := vI 0 64) rfl ⟨_, rfl, (r_v_2.to (by decide))⟩ (by decide) dX10_write_17 (fun ws H locs hw n_k_3 hF9 => ?_)
  subst hQ
  exact W.vret hx hb hr (fun t ht hW => ⟨⟨ws, rfl, ⟨⟨⟨_, n_k_3, r_v_2⟩, trivial⟩, hw.1, hw.2.2.2.2.1⟩, by rw [ht]; exact hw.2.1, va_K.moved hW.alike hK, hw.2.2.1⟩, hw.2.2.2.1.F ht⟩) hw.2.2.2.1.2.2 dX10_write_20
abbrev wr_X10_write__17 : List (Nat × Nat) := [(10, 38)]
abbrev wa_X10_write__17 : List Nat := [51]
set_option maxHeartbeats 4000000 in
set_option maxRecDepth 100000 in
theorem c_X10_write__17 (l : Launch) (D : va_G) (cy : Nat → ClassId) (z : Nat → Nat) (sz : Nat) (Ps : PSI) (w0 : va_W) (hT : HT cy GG Ps w0) (p0 : Nat) (p1 : Int32) (f0_38 : Int32) (h_p0 : (p0, 55) ∈ Ps) (r_p1 : RI p1 (-2147483648) 2147483647) (r_f0_38 : RI f0_38 7 33) (m_f0_38 : FLD w0 p0 10 38 (.int f0_38)) : Met l yX10_write (Cond.code yX10_write cX10_write 2 none :: gT) ({ frames := 0, cells := 0, slots := 0, locals := 200 } : Room) (va_Pc [.ref p0, .int p1] (PRE D cy z w0 sz)) (va_Qv (fun (u : va_W) => ((∃ v9 : Int32, FLD u p0 10 38 (.int v9) ∧ RI v9 8 34) ∧ True) ∧ HT cy GG Ps u ∧ FR wr_X10_write__17 wa_X10_write__17 Ps w0 u) (BB D cy (va_A w0 sz) (fun (u : va_W) => u)) (va_A w0 sz)) 0 0 (va_A w0 sz) := by
  refine Met.ofW (cc := cX10_write) (maxL := 2) (ret := none) (by decide) rfl ?_
  intro p e s m args below meth c s₁ B hml hv
  obtain ⟨rfl, hsz, hP, hK, hD0, hSD⟩ := hv
  have hx := B.exec
  have hb := B.bytes
  have hr := B.returns
  have hlocks := B.notSynchronized
  have hts : ∀ w ∈ gT, w.before _ s = true := fun w h => atoms_spec (ws := Cond.code yX10_write cX10_write 2 none :: gT) B.pre w (List.mem_cons_of_mem _ h)
  have hown : s.vm.findClass RX10 = some m.cls := findClass_of_methodNamed B.named
  subst hsz
  have hD := hD0.self (sz := s.heap.size)
  generalize hAe : va_A w0 s.heap.size = A at hD hSD ⊢
  have hA : ∀ q : Nat, s.heap.size ≤ q → A q := fun q h => by rw [← hAe]; exact Or.inr h
  have hl := lv_entry ([.ref p0, .int p1]) (n := 2) (Nat.le_of_ble_eq_true rfl)
  rw [lg_entry_eq]
  generalize (lg_sl ([.ref p0, .int p1]) ++ List.replicate (2 - (lg_sl ([.ref p0, .int p1])).length) Slot.unset).toArray = ls at hl ⊢
  have hl : lv_has ls 2 [(0, .ref p0), (1, .int p1)] := hl
  refine nameQ (fun Q hQ => ?_)
  have hw : WD D cy GG A s wr_X10_write__17 wa_X10_write__17 Ps w0 Ps w0 s.heap [] := ⟨hT, hP, hD, va_S.rf, FR.rf, hT.1, [], (List.append_nil _).symm⟩
  refine lv_aload_n hx hb dX10_write_0 rfl (lv_at hl 0 rfl) ?_
  refine tg_get (ci := 10) (ts := ty_MODEL) (C := RX10) (T := TX10) (N := 49) hx hb hts inX10 hown hK hw h_p0 rfl rfl 37 (by decide) (hts _ tw_1174) (fun _ h9 => h9) (ft := vR 51) rfl dX10_write_1 (fun u_1 hv_u_1 m_u_1 => ?_)
  obtain ⟨vu_1, rfl, h_vu_1⟩ := hv_u_1
  refine lv_aload_n hx hb dX10_write_4 rfl (lv_at hl 0 rfl) ?_
  refine tg_mem (ci := 10) (C := RX10) (T := TX10) (N := 49) hx hb hts inX10 hown hK hw 38 m_f0_38 rfl (by decide) (hts _ tw_1175) (fun _ h9 => h9) dX10_write_5 ?_
  refine lv_iload_n hx hb dX10_write_8 rfl (lv_at hl 1 rfl) ?_
  refine tg_iast hx hb hK hw h_vu_1 rfl 7 33 r_f0_38 (by decide) r_p1 (by exact fun _ _ _ => by decide) (fun _ _ _ _ _ => trivial) (by decide) dX10_write_9 (fun ws H locs hw hF9 hU9 => ?_)
  have m_f0_38 := FLD.over hF9 m_f0_38 (by decide)
  refine lv_aload_n hx hb dX10_write_10 rfl (lv_at hl 0 rfl) ?_
  refine lv_dup hx hb dX10_write_11 rfl ?_
  refine tg_mem (ci := 10) (C := RX10) (T := TX10) (N := 49) hx hb hts inX10 hown hK hw 38 m_f0_38 rfl (by decide) (hts _ tw_1175) (fun _ h9 => h9) dX10_write_12 ?_
  refine lv_iconst (v := 1) hx hb dX10_write_15 (by decide) ?_
  refine lv_iadd hx hb dX10_write_16 (lv_topi (fun v_2 e_v_2 => ?_))
  obtain ⟨t_v_2, r_v_2⟩ := tq_add (lo := 8) (hi := 34) r_f0_38 rl_1 (by decide +kernel) e_v_2
  have t_v_2 : v_2.toInt = f0_38.toInt + 1 := t_v_2
  refine tg_put (ci := 10) (ts := ty_MODEL) (v := .int v_2) (ty := .int) (C := RX10) (T := TX10) (N := 49) hx hb hts inX10 tyX10 tyX10_ok nmX10 hown hK hw h_p0 rfl rfl 38 (by decide) (hts _ tw_1175) (fun _ h9 => h9) rfl (by decide +kernel) rfl rfl (ft := vI 0 64) rfl ⟨_, rfl, (r_v_2.to (by decide))⟩ (by decide) dX10_write_17 (fun ws H locs hw n_k_3 hF9 => ?_)
  subst hQ
  exact W.vret hx hb hr (fun t ht hW => ⟨⟨ws, rfl, ⟨⟨⟨_, n_k_3, r_v_2⟩, trivial⟩, hw.1, hw.2.2.2.2.1⟩, by rw [ht]; exact hw.2.1, va_K.moved hW.alike hK, hw.2.2.1⟩, hw.2.2.2.1.F ht⟩) hw.2.2.2.1.2.2 dX10_write_20
abbrev wr_X10_writeWord__15 : List (Nat × Nat) := [(10, 38)]
abbrev wa_X10_writeWord__15 : List Nat := [51]
set_option maxHeartbeats 4000000 in
set_option maxRecDepth 100000 in
theorem c_X10_writeWord__15 (l : Launch) (D : va_G) (cy : Nat → ClassId) (z : Nat → Nat) (sz : Nat) (Ps : PSI) (w0 : va_W) (hT : HT cy GG Ps w0) (p0 : Nat) (p1 : Int64) (f0_38 : Int32) (h_p0 : (p0, 55) ∈ Ps) (r_p1 : RJ p1 1 1) (r_f0_38 : RI f0_38 7 33) (m_f0_38 : FLD w0 p0 10 38 (.int f0_38)) : Met l yX10_writeWord (Cond.code yX10_writeWord cX10_writeWord 3 none :: gT) ({ frames := 2, cells := 0, slots := 0, locals := 400 } : Room) (va_Pc [.ref p0, .long p1] (PRE D cy z w0 sz)) (va_Qv (fun (u : va_W) => ((∃ v9 : Int32, FLD u p0 10 38 (.int v9) ∧ RI v9 8 34) ∧ True) ∧ HT cy GG Ps u ∧ FR wr_X10_writeWord__15 wa_X10_writeWord__15 Ps w0 u) (BB D cy (va_A w0 sz) (fun (u : va_W) => u)) (va_A w0 sz)) 0 0 (va_A w0 sz) := by
  refine Met.ofW (cc := cX10_writeWord) (maxL := 3) (ret := none) (by decide) rfl ?_
  intro p e s m args below meth c s₁ B hml hv
  obtain ⟨rfl, hsz, hP, hK, hD0, hSD⟩ := hv
  have hx := B.exec
  have hb := B.bytes
  have hr := B.returns
  have hlocks := B.notSynchronized
  have hts : ∀ w ∈ gT, w.before _ s = true := fun w h => atoms_spec (ws := Cond.code yX10_writeWord cX10_writeWord 3 none :: gT) B.pre w (List.mem_cons_of_mem _ h)
  have hown : s.vm.findClass RX10 = some m.cls := findClass_of_methodNamed B.named
  subst hsz
  have hD := hD0.self (sz := s.heap.size)
  generalize hAe : va_A w0 s.heap.size = A at hD hSD ⊢
  have hA : ∀ q : Nat, s.heap.size ≤ q → A q := fun q h => by rw [← hAe]; exact Or.inr h
  have hl := lv_entry ([.ref p0, .long p1]) (n := 3) (Nat.le_of_ble_eq_true rfl)
  rw [lg_entry_eq]
  generalize (lg_sl ([.ref p0, .long p1]) ++ List.replicate (3 - (lg_sl ([.ref p0, .long p1])).length) Slot.unset).toArray = ls at hl ⊢
  have hl : lv_has ls 3 [(0, .ref p0), (1, .long p1)] := hl
  refine nameQ (fun Q hQ => ?_)
  have hw : WD D cy GG A s wr_X10_writeWord__15 wa_X10_writeWord__15 Ps w0 Ps w0 s.heap [] := ⟨hT, hP, hD, va_S.rf, FR.rf, hT.1, [], (List.append_nil _).symm⟩
  have B17 : ∀ (z0_38 : Int32) (ws : va_W) (H : Heap) (locs : List Loc) (ls : Array Slot), RJ p1 1 1 → RI z0_38 7 33 → FLD ws p0 10 38 (.int z0_38) → WD D cy GG A s wr_X10_writeWord__15 wa_X10_writeWord__15 Ps w0 Ps ws H locs → lv_has ls 3 [(0, .ref p0), (1, .long p1)] → W p l e (headSpec (Cond.code yX10_writeWord cX10_writeWord 3 none :: gT) ({ frames := 2, cells := 0, slots := 0, locals := 400 } : Room)).room s m ([.ref p0, .long p1] : List Value).toArray below meth c H locs 0 0 Q (F0 m 17 ls []) := by
    intro z0_38 ws H locs ls r_p1 r_z0_38 m_z0_38 hw hl
    refine lv_aload_n hx hb dX10_writeWord_17 rfl (lv_at hl 0 rfl) ?_
    refine lv_bipush (v := 96) hx hb dX10_writeWord_18 (by decide) ?_
    refine lv_lload_n hx hb dX10_writeWord_20 rfl (lv_at hl 1 rfl) ?_
    refine lv_ldc2 (v := 27) hx hb hown (hts _ tw_1312) dX10_writeWord_21 ?_
    refine lv_lrem hx hb dX10_writeWord_24 (by decide) (lv_topl (fun w_1 e_w_1 => ?_))
    have r_w_1 := rj_any w_1
    obtain ⟨v_2, e_v_2⟩ : ∃ q9 : Int32, (w_1 : Int64).toInt32 = q9 := ⟨_, rfl⟩
    refine lv_l2i (v := v_2) hx hb dX10_writeWord_25 e_v_2 ?_
    have r_v_2 := ri_any v_2
    refine lv_iadd hx hb dX10_writeWord_26 (lv_topi (fun v_3 e_v_3 => ?_))
    have r_v_3 := ri_any v_3
    refine tk_v (va_runV (As := [.int v_3]) (rest := []) ⟨hx, hb, hml, hown, hts⟩ (c_X10_write__17 l D cy z H.size Ps ws hw.1 p0 v_3 z0_38 h_p0 r_v_3 r_z0_38 m_z0_38) (cwV 1 hts (gV tw_1674 tw_1676 ts_98 tw_15 tw_1677) rfl rfl rfl (by decide +kernel) ⟨Nat.le_of_ble_eq_true rfl, Nat.le_of_ble_eq_true rfl⟩) (tg_preV hw hK hSD hA (ci := 10) (q := (RX10, TX10, 49)) rfl h_p0 rfl) rfl rfl hl.1 rfl (lv_room (Nat.le_of_ble_eq_true rfl)) dX10_writeWord_27 ⟨Nat.le_of_ble_eq_true rfl, Nat.le_of_ble_eq_true rfl⟩) hw hA ⟨by decide, by decide⟩ (fun ws H locs hp_v_4 hw hF9 => ?_)
    obtain ⟨v_5, m_v_5, r_v_5⟩ := (hp_v_4.1)
    subst hQ
    exact W.vret hx hb hr (fun t ht hW => ⟨⟨ws, rfl, ⟨⟨⟨_, m_v_5, r_v_5⟩, trivial⟩, hw.1, hw.2.2.2.2.1⟩, by rw [ht]; exact hw.2.1, va_K.moved hW.alike hK, hw.2.2.1⟩, hw.2.2.2.1.F ht⟩) hw.2.2.2.1.2.2 dX10_writeWord_30
  refine lv_lload_n hx hb dX10_writeWord_0 rfl (lv_at hl 1 rfl) ?_
  refine lv_ldc2 (v := 27) hx hb hown (hts _ tw_1312) dX10_writeWord_1 ?_
  refine W.lcmp hx hb dX10_writeWord_4 (lv_topi (fun v_6 e_v_6 => ?_))
  have r_v_6 := ri_any v_6
  refine lv_if_lt (tgt := 17) hx hb dX10_writeWord_5 (by decide) (fun c_5 => ?_) (fun c_5 => ?_)
  · have r_v_6 : RI v_6 (-2147483648) (-1) := rc_lt1 r_v_6 rl_0 (ti_lt c_5) (by decide)
    exact B17 f0_38 w0 _ _ ls r_p1 r_f0_38 m_f0_38 hw hl
  · have r_v_6 : RI v_6 0 2147483647 := rc_le2 rl_0 r_v_6 (ti_nlt c_5) (by decide)
    have r_p1 : RJ p1 27 1 := tq_lc_nlt r_p1 rk_27 e_v_6 c_5 (by decide)
    exact (r_p1.no (by decide)).elim
abbrev wr_X10_writeWord__14 : List (Nat × Nat) := [(10, 38)]
abbrev wa_X10_writeWord__14 : List Nat := [51]
set_option maxHeartbeats 4000000 in
set_option maxRecDepth 100000 in
theorem c_X10_writeWord__14 (l : Launch) (D : va_G) (cy : Nat → ClassId) (z : Nat → Nat) (sz : Nat) (Ps : PSI) (w0 : va_W) (hT : HT cy GG Ps w0) (p0 : Nat) (p1 : Int64) (f0_38 : Int32) (h_p0 : (p0, 55) ∈ Ps) (r_p1 : RJ p1 47 47) (r_f0_38 : RI f0_38 7 33) (m_f0_38 : FLD w0 p0 10 38 (.int f0_38)) : Met l yX10_writeWord (Cond.code yX10_writeWord cX10_writeWord 3 none :: gT) ({ frames := 3, cells := 0, slots := 0, locals := 600 } : Room) (va_Pc [.ref p0, .long p1] (PRE D cy z w0 sz)) (va_Qv (fun (u : va_W) => ((∃ v9 : Int32, FLD u p0 10 38 (.int v9) ∧ RI v9 9 35) ∧ True) ∧ HT cy GG Ps u ∧ FR wr_X10_writeWord__14 wa_X10_writeWord__14 Ps w0 u) (BB D cy (va_A w0 sz) (fun (u : va_W) => u)) (va_A w0 sz)) 0 0 (va_A w0 sz) := by
  refine Met.ofW (cc := cX10_writeWord) (maxL := 3) (ret := none) (by decide) rfl ?_
  intro p e s m args below meth c s₁ B hml hv
  obtain ⟨rfl, hsz, hP, hK, hD0, hSD⟩ := hv
  have hx := B.exec
  have hb := B.bytes
  have hr := B.returns
  have hlocks := B.notSynchronized
  have hts : ∀ w ∈ gT, w.before _ s = true := fun w h => atoms_spec (ws := Cond.code yX10_writeWord cX10_writeWord 3 none :: gT) B.pre w (List.mem_cons_of_mem _ h)
  have hown : s.vm.findClass RX10 = some m.cls := findClass_of_methodNamed B.named
  subst hsz
  have hD := hD0.self (sz := s.heap.size)
  generalize hAe : va_A w0 s.heap.size = A at hD hSD ⊢
  have hA : ∀ q : Nat, s.heap.size ≤ q → A q := fun q h => by rw [← hAe]; exact Or.inr h
  have hl := lv_entry ([.ref p0, .long p1]) (n := 3) (Nat.le_of_ble_eq_true rfl)
  rw [lg_entry_eq]
  generalize (lg_sl ([.ref p0, .long p1]) ++ List.replicate (3 - (lg_sl ([.ref p0, .long p1])).length) Slot.unset).toArray = ls at hl ⊢
  have hl : lv_has ls 3 [(0, .ref p0), (1, .long p1)] := hl
  refine nameQ (fun Q hQ => ?_)
  have hw : WD D cy GG A s wr_X10_writeWord__14 wa_X10_writeWord__14 Ps w0 Ps w0 s.heap [] := ⟨hT, hP, hD, va_S.rf, FR.rf, hT.1, [], (List.append_nil _).symm⟩
  have B17 : ∀ (z0_38 : Int32) (ws : va_W) (H : Heap) (locs : List Loc) (ls : Array Slot), RJ p1 47 47 → RI z0_38 8 34 → FLD ws p0 10 38 (.int z0_38) → WD D cy GG A s wr_X10_writeWord__14 wa_X10_writeWord__14 Ps w0 Ps ws H locs → lv_has ls 3 [(0, .ref p0), (1, .long p1)] → W p l e (headSpec (Cond.code yX10_writeWord cX10_writeWord 3 none :: gT) ({ frames := 3, cells := 0, slots := 0, locals := 600 } : Room)).room s m ([.ref p0, .long p1] : List Value).toArray below meth c H locs 0 0 Q (F0 m 17 ls []) := by
    intro z0_38 ws H locs ls r_p1 r_z0_38 m_z0_38 hw hl
    refine lv_aload_n hx hb dX10_writeWord_17 rfl (lv_at hl 0 rfl) ?_
    refine lv_bipush (v := 96) hx hb dX10_writeWord_18 (by decide) ?_
    refine lv_lload_n hx hb dX10_writeWord_20 rfl (lv_at hl 1 rfl) ?_
    refine lv_ldc2 (v := 27) hx hb hown (hts _ tw_1312) dX10_writeWord_21 ?_
    refine lv_lrem hx hb dX10_writeWord_24 (by decide) (lv_topl (fun w_1 e_w_1 => ?_))
    have r_w_1 := rj_any w_1
    obtain ⟨v_2, e_v_2⟩ : ∃ q9 : Int32, (w_1 : Int64).toInt32 = q9 := ⟨_, rfl⟩
    refine lv_l2i (v := v_2) hx hb dX10_writeWord_25 e_v_2 ?_
    have r_v_2 := ri_any v_2
    refine lv_iadd hx hb dX10_writeWord_26 (lv_topi (fun v_3 e_v_3 => ?_))
    have r_v_3 := ri_any v_3
    refine tk_v (va_runV (As := [.int v_3]) (rest := []) ⟨hx, hb, hml, hown, hts⟩ (c_X10_write__16 l D cy z H.size Ps ws hw.1 p0 v_3 z0_38 h_p0 r_v_3 r_z0_38 m_z0_38) (cwV 1 hts (gV tw_1674 tw_1676 ts_98 tw_15 tw_1677) rfl rfl rfl (by decide +kernel) ⟨Nat.le_of_ble_eq_true rfl, Nat.le_of_ble_eq_true rfl⟩) (tg_preV hw hK hSD hA (ci := 10) (q := (RX10, TX10, 49)) rfl h_p0 rfl) rfl rfl hl.1 rfl (lv_room (Nat.le_of_ble_eq_true rfl)) dX10_writeWord_27 ⟨Nat.le_of_ble_eq_true rfl, Nat.le_of_ble_eq_true rfl⟩) hw hA ⟨by decide, by decide⟩ (fun ws H locs hp_v_4 hw hF9 => ?_)
    obtain ⟨v_5, m_v_5, r_v_5⟩ := (hp_v_4.1)
    subst hQ
    exact W.vret hx hb hr (fun t ht hW => ⟨⟨ws, rfl, ⟨⟨⟨_, m_v_5, r_v_5⟩, trivial⟩, hw.1, hw.2.2.2.2.1⟩, by rw [ht]; exact hw.2.1, va_K.moved hW.alike hK, hw.2.2.1⟩, hw.2.2.2.1.F ht⟩) hw.2.2.2.1.2.2 dX10_writeWord_30
  refine lv_lload_n hx hb dX10_writeWord_0 rfl (lv_at hl 1 rfl) ?_
  refine lv_ldc2 (v := 27) hx hb hown (hts _ tw_1312) dX10_writeWord_1 ?_
  refine W.lcmp hx hb dX10_writeWord_4 (lv_topi (fun v_6 e_v_6 => ?_))
  have r_v_6 := ri_any v_6
  refine lv_if_lt (tgt := 17) hx hb dX10_writeWord_5 (by decide) (fun c_5 => ?_) (fun c_5 => ?_)
  · have r_v_6 : RI v_6 (-2147483648) (-1) := rc_lt1 r_v_6 rl_0 (ti_lt c_5) (by decide)
    have r_p1 : RJ p1 47 26 := tq_lc_lt r_p1 rk_27 e_v_6 c_5 (by decide)
    exact (r_p1.no (by decide)).elim
  · have r_v_6 : RI v_6 0 2147483647 := rc_le2 rl_0 r_v_6 (ti_nlt c_5) (by decide)
    refine lv_aload_n hx hb dX10_writeWord_8 rfl (lv_at hl 0 rfl) ?_
    refine lv_lload_n hx hb dX10_writeWord_9 rfl (lv_at hl 1 rfl) ?_
    refine lv_ldc2 (v := 27) hx hb hown (hts _ tw_1312) dX10_writeWord_10 ?_
    refine lv_ldiv hx hb dX10_writeWord_13 (by decide) (lv_topl (fun w_7 e_w_7 => ?_))
    have r_w_7 := tq_ldiv (lo := 1) (hi := 1) r_p1 (by decide) e_w_7
    refine tk_v (va_runV (As := [.long w_7]) (rest := []) ⟨hx, hb, hml, hown, hts⟩ (c_X10_writeWord__15 l D cy z s.heap.size Ps w0 hw.1 p0 w_7 f0_38 h_p0 r_w_7 r_f0_38 m_f0_38) (cwV 1 hts (gV tw_1670 tw_1672 ts_97 tw_15 tw_1673) rfl rfl rfl (by decide +kernel) ⟨Nat.le_of_ble_eq_true rfl, Nat.le_of_ble_eq_true rfl⟩) (tg_preV hw hK hSD hA (ci := 10) (q := (RX10, TX10, 49)) rfl h_p0 rfl) rfl rfl hl.1 rfl (lv_room (Nat.le_of_ble_eq_true rfl)) dX10_writeWord_14 ⟨Nat.le_of_ble_eq_true rfl, Nat.le_of_ble_eq_true rfl⟩) hw hA ⟨by decide, by decide⟩ (fun ws H locs hp_v_8 hw hF9 => ?_)
    obtain ⟨v_9, m_v_9, r_v_9⟩ := (hp_v_8.1)
    exact B17 v_9 ws _ _ ls r_p1 r_v_9 m_v_9 hw hl
abbrev wr_X10_writeNext__1 : List (Nat × Nat) := [(10, 38)]
abbrev wa_X10_writeNext__1 : List Nat := [51]
set_option maxHeartbeats 4000000 in
set_option maxRecDepth 100000 in
theorem c_X10_writeNext__1 (l : Launch) (D : va_G) (cy : Nat → ClassId) (z : Nat → Nat) (sz : Nat) (Ps : PSI) (w0 : va_W) (hT : HT cy GG Ps w0) (p0 : Nat) (p1 : Int64) (f0_38 : Int32) (h_p0 : (p0, 55) ∈ Ps) (r_p1 : RJ p1 47 47) (r_f0_38 : RI f0_38 6 32) (m_f0_38 : FLD w0 p0 10 38 (.int f0_38)) : Met l yX10_writeNext (Cond.code yX10_writeNext cX10_writeNext 3 none :: gT) ({ frames := 4, cells := 0, slots := 0, locals := 800 } : Room) (va_Pc [.ref p0, .long p1] (PRE D cy z w0 sz)) (va_Qv (fun (u : va_W) => ((∃ v9 : Int32, FLD u p0 10 38 (.int v9) ∧ RI v9 9 35) ∧ True) ∧ HT cy GG Ps u ∧ FR wr_X10_writeNext__1 wa_X10_writeNext__1 Ps w0 u) (BB D cy (va_A w0 sz) (fun (u : va_W) => u)) (va_A w0 sz)) 0 0 (va_A w0 sz) := by
  refine Met.ofW (cc := cX10_writeNext) (maxL := 3) (ret := none) (by decide) rfl ?_
  intro p e s m args below meth c s₁ B hml hv
  obtain ⟨rfl, hsz, hP, hK, hD0, hSD⟩ := hv
  have hx := B.exec
  have hb := B.bytes
  have hr := B.returns
  have hlocks := B.notSynchronized
  have hts : ∀ w ∈ gT, w.before _ s = true := fun w h => atoms_spec (ws := Cond.code yX10_writeNext cX10_writeNext 3 none :: gT) B.pre w (List.mem_cons_of_mem _ h)
  have hown : s.vm.findClass RX10 = some m.cls := findClass_of_methodNamed B.named
  subst hsz
  have hD := hD0.self (sz := s.heap.size)
  generalize hAe : va_A w0 s.heap.size = A at hD hSD ⊢
  have hA : ∀ q : Nat, s.heap.size ≤ q → A q := fun q h => by rw [← hAe]; exact Or.inr h
  have hl := lv_entry ([.ref p0, .long p1]) (n := 3) (Nat.le_of_ble_eq_true rfl)
  rw [lg_entry_eq]
  generalize (lg_sl ([.ref p0, .long p1]) ++ List.replicate (3 - (lg_sl ([.ref p0, .long p1])).length) Slot.unset).toArray = ls at hl ⊢
  have hl : lv_has ls 3 [(0, .ref p0), (1, .long p1)] := hl
  refine nameQ (fun Q hQ => ?_)
  have hw : WD D cy GG A s wr_X10_writeNext__1 wa_X10_writeNext__1 Ps w0 Ps w0 s.heap [] := ⟨hT, hP, hD, va_S.rf, FR.rf, hT.1, [], (List.append_nil _).symm⟩
  refine lv_aload_n hx hb dX10_writeNext_0 rfl (lv_at hl 0 rfl) ?_
  refine lv_bipush (v := 32) hx hb dX10_writeNext_1 (by decide) ?_
  refine tk_v (va_runV (As := [.int 32]) (rest := []) ⟨hx, hb, hml, hown, hts⟩ (c_X10_write__15 l D cy z s.heap.size Ps w0 hw.1 p0 32 f0_38 h_p0 (rl_32.to (by decide)) r_f0_38 m_f0_38) (cwV 1 hts (gV tw_1674 tw_1676 ts_98 tw_15 tw_1677) rfl rfl rfl (by decide +kernel) ⟨Nat.le_of_ble_eq_true rfl, Nat.le_of_ble_eq_true rfl⟩) (tg_preV hw hK hSD hA (ci := 10) (q := (RX10, TX10, 49)) rfl h_p0 rfl) rfl rfl hl.1 rfl (lv_room (Nat.le_of_ble_eq_true rfl)) dX10_writeNext_3 ⟨Nat.le_of_ble_eq_true rfl, Nat.le_of_ble_eq_true rfl⟩) hw hA ⟨by decide, by decide⟩ (fun ws H locs hp_v_1 hw hF9 => ?_)
  obtain ⟨v_2, m_v_2, r_v_2⟩ := (hp_v_1.1)
  refine lv_aload_n hx hb dX10_writeNext_6 rfl (lv_at hl 0 rfl) ?_
  refine lv_lload_n hx hb dX10_writeNext_7 rfl (lv_at hl 1 rfl) ?_
  refine tk_v (va_runV (As := [.long p1]) (rest := []) ⟨hx, hb, hml, hown, hts⟩ (c_X10_writeWord__14 l D cy z H.size Ps ws hw.1 p0 p1 v_2 h_p0 r_p1 r_v_2 m_v_2) (cwV 1 hts (gV tw_1670 tw_1672 ts_97 tw_15 tw_1673) rfl rfl rfl (by decide +kernel) ⟨Nat.le_of_ble_eq_true rfl, Nat.le_of_ble_eq_true rfl⟩) (tg_preV hw hK hSD hA (ci := 10) (q := (RX10, TX10, 49)) rfl h_p0 rfl) rfl rfl hl.1 rfl (lv_room (Nat.le_of_ble_eq_true rfl)) dX10_writeNext_8 ⟨Nat.le_of_ble_eq_true rfl, Nat.le_of_ble_eq_true rfl⟩) hw hA ⟨by decide, by decide⟩ (fun ws H locs hp_v_3 hw hF9 => ?_)
  obtain ⟨v_4, m_v_4, r_v_4⟩ := (hp_v_3.1)
  subst hQ
  exact W.vret hx hb hr (fun t ht hW => ⟨⟨ws, rfl, ⟨⟨⟨_, m_v_4, r_v_4⟩, trivial⟩, hw.1, hw.2.2.2.2.1⟩, by rw [ht]; exact hw.2.1, va_K.moved hW.alike hK, hw.2.2.1⟩, hw.2.2.2.1.F ht⟩) hw.2.2.2.1.2.2 dX10_writeNext_11
abbrev wr_X10_spelt__29 : List (Nat × Nat) := []
abbrev wa_X10_spelt__29 : List Nat := []
set_option maxHeartbeats 4000000 in
set_option maxRecDepth 100000 in
theorem c_X10_spelt__29 (l : Launch) (D : va_G) (cy : Nat → ClassId) (z : Nat → Nat) (sz : Nat) (Ps : PSI) (w0 : va_W) (hT : HT cy GG Ps w0) (p0 : Int32) (p1 : Int32) (p2 : Int32) (p3 : Int32) (p4 : Int32) (p5 : Int32) (p6 : Int32) (r_p0 : RI p0 108 108) (r_p1 : RI p1 97 97) (r_p2 : RI p2 115 115) (r_p3 : RI p3 116 116) (r_p4 : RI p4 0 0) (r_p5 : RI p5 0 0) (r_p6 : RI p6 0 0) : Met l yX10_spelt (Cond.code yX10_spelt cX10_spelt 9 (some .long) :: gT) ({ frames := 0, cells := 0, slots := 0, locals := 200 } : Room) (va_Pc [.int p0, .int p1, .int p2, .int p3, .int p4, .int p5, .int p6] (PRE D cy z w0 sz)) (va_Ql (fun (r : Int64) (u : Unit) => RJ r 237458 237458) (BB D cy (va_A w0 sz) (fun (u : Unit) => w0)) (va_A w0 sz)) 0 0 (va_A w0 sz) := by
  refine Met.ofW (cc := cX10_spelt) (maxL := 9) (ret := (some .long)) (by decide) rfl ?_
  intro p e s m args below meth c s₁ B hml hv
  obtain ⟨rfl, hsz, hP, hK, hD0, hSD⟩ := hv
  have hx := B.exec
  have hb := B.bytes
  have hr := B.returns
  have hlocks := B.notSynchronized
  have hts : ∀ w ∈ gT, w.before _ s = true := fun w h => atoms_spec (ws := Cond.code yX10_spelt cX10_spelt 9 (some .long) :: gT) B.pre w (List.mem_cons_of_mem _ h)
  have hown : s.vm.findClass RX10 = some m.cls := findClass_of_methodNamed B.named
  subst hsz
  have hD := hD0.self (sz := s.heap.size)
  generalize hAe : va_A w0 s.heap.size = A at hD hSD ⊢
  have hA : ∀ q : Nat, s.heap.size ≤ q → A q := fun q h => by rw [← hAe]; exact Or.inr h
  have hl := lv_entry ([.int p0, .int p1, .int p2, .int p3, .int p4, .int p5, .int p6]) (n := 9) (Nat.le_of_ble_eq_true rfl)
  rw [lg_entry_eq]
  generalize (lg_sl ([.int p0, .int p1, .int p2, .int p3, .int p4, .int p5, .int p6]) ++ List.replicate (9 - (lg_sl ([.int p0, .int p1, .int p2, .int p3, .int p4, .int p5, .int p6])).length) Slot.unset).toArray = ls at hl ⊢
  have hl : lv_has ls 9 [(0, .int p0), (1, .int p1), (2, .int p2), (3, .int p3), (4, .int p4), (5, .int p5), (6, .int p6)] := hl
  refine nameQ (fun Q hQ => ?_)
  have hw : WD D cy GG A s wr_X10_spelt__29 wa_X10_spelt__29 Ps w0 Ps w0 s.heap [] := ⟨hT, hP, hD, va_S.rf, FR.rf, hT.1, [], (List.append_nil _).symm⟩
  have B99 : ∀ (x7 : Int64) (H : Heap) (locs : List Loc) (ls : Array Slot), RI p0 108 108 → RI p1 97 97 → RI p2 115 115 → RI p3 116 116 → RI p4 0 0 → RI p5 0 0 → RI p6 0 0 → RJ x7 237458 237458 → WD D cy GG A s wr_X10_spelt__29 wa_X10_spelt__29 Ps w0 Ps w0 H locs → lv_has ls 9 [(0, .int p0), (1, .int p1), (2, .int p2), (3, .int p3), (4, .int p4), (5, .int p5), (6, .int p6), (7, .long x7)] → W p l e (headSpec (Cond.code yX10_spelt cX10_spelt 9 (some .long) :: gT) ({ frames := 0, cells := 0, slots := 0, locals := 200 } : Room)).room s m ([.int p0, .int p1, .int p2, .int p3, .int p4, .int p5, .int p6] : List Value).toArray below meth c H locs 0 0 Q (F0 m 99 ls []) := by
    intro x7 H locs ls r_p0 r_p1 r_p2 r_p3 r_p4 r_p5 r_p6 r_x7 hw hl
    refine lv_iload hx hb dX10_spelt_99 (lv_at hl 6 rfl) ?_
    refine lv_if_le (tgt := 120) hx hb dX10_spelt_101 (by decide) (fun c_101 => ?_) (fun c_101 => ?_)
    · refine lv_lload hx hb dX10_spelt_120 (lv_at hl 7 rfl) ?_
      subst hQ
      exact W.lret (v := x7) hx hb hr (fun t ht hW => ⟨⟨x7, (), rfl, r_x7.to (by decide), by rw [ht]; exact hw.2.1, va_K.moved hW.alike hK, hw.2.2.1⟩, hw.2.2.2.1.F ht⟩) hw.2.2.2.1.2.2 dX10_spelt_122
    · have r_p6 : RI p6 1 0 := rc_lt2 rl_0 r_p6 (ti_nle c_101) (by decide)
      exact (r_p6.no (by decide)).elim
  have B78 : ∀ (x7 : Int64) (H : Heap) (locs : List Loc) (ls : Array Slot), RI p0 108 108 → RI p1 97 97 → RI p2 115 115 → RI p3 116 116 → RI p4 0 0 → RI p5 0 0 → RI p6 0 0 → RJ x7 237458 237458 → WD D cy GG A s wr_X10_spelt__29 wa_X10_spelt__29 Ps w0 Ps w0 H locs → lv_has ls 9 [(0, .int p0), (1, .int p1), (2, .int p2), (3, .int p3), (4, .int p4), (5, .int p5), (6, .int p6), (7, .long x7)] → W p l e (headSpec (Cond.code yX10_spelt cX10_spelt 9 (some .long) :: gT) ({ frames := 0, cells := 0, slots := 0, locals := 200 } : Room)).room s m ([.int p0, .int p1, .int p2, .int p3, .int p4, .int p5, .int p6] : List Value).toArray below meth c H locs 0 0 Q (F0 m 78 ls []) := by
    intro x7 H locs ls r_p0 r_p1 r_p2 r_p3 r_p4 r_p5 r_p6 r_x7 hw hl
    refine lv_iload hx hb dX10_spelt_78 (lv_at hl 5 rfl) ?_
    refine lv_if_le (tgt := 99) hx hb dX10_spelt_80 (by decide) (fun c_80 => ?_) (fun c_80 => ?_)
    · exact B99 x7 _ _ ls r_p0 r_p1 r_p2 r_p3 r_p4 r_p5 r_p6 r_x7 hw hl
    · have r_p5 : RI p5 1 0 := rc_lt2 rl_0 r_p5 (ti_nle c_80) (by decide)
      exact (r_p5.no (by decide)).elim
  have B57 : ∀ (x7 : Int64) (H : Heap) (locs : List Loc) (ls : Array Slot), RI p0 108 108 → RI p1 97 97 → RI p2 115 115 → RI p3 116 116 → RI p4 0 0 → RI p5 0 0 → RI p6 0 0 → RJ x7 237458 237458 → WD D cy GG A s wr_X10_spelt__29 wa_X10_spelt__29 Ps w0 Ps w0 H locs → lv_has ls 9 [(0, .int p0), (1, .int p1), (2, .int p2), (3, .int p3), (4, .int p4), (5, .int p5), (6, .int p6), (7, .long x7)] → W p l e (headSpec (Cond.code yX10_spelt cX10_spelt 9 (some .long) :: gT) ({ frames := 0, cells := 0, slots := 0, locals := 200 } : Room)).room s m ([.int p0, .int p1, .int p2, .int p3, .int p4, .int p5, .int p6] : List Value).toArray below meth c H locs 0 0 Q (F0 m 57 ls []) := by
    intro x7 H locs ls r_p0 r_p1 r_p2 r_p3 r_p4 r_p5 r_p6 r_x7 hw hl
    refine lv_iload hx hb dX10_spelt_57 (lv_at hl 4 rfl) ?_
    refine lv_if_le (tgt := 78) hx hb dX10_spelt_59 (by decide) (fun c_59 => ?_) (fun c_59 => ?_)
    · exact B78 x7 _ _ ls r_p0 r_p1 r_p2 r_p3 r_p4 r_p5 r_p6 r_x7 hw hl
    · have r_p4 : RI p4 1 0 := rc_lt2 rl_0 r_p4 (ti_nle c_59) (by decide)
      exact (r_p4.no (by decide)).elim
  have B38 : ∀ (x7 : Int64) (H : Heap) (locs : List Loc) (ls : Array Slot), RI p0 108 108 → RI p1 97 97 → RI p2 115 115 → RI p3 116 116 → RI p4 0 0 → RI p5 0 0 → RI p6 0 0 → RJ x7 8794 8794 → WD D cy GG A s wr_X10_spelt__29 wa_X10_spelt__29 Ps w0 Ps w0 H locs → lv_has ls 9 [(0, .int p0), (1, .int p1), (2, .int p2), (3, .int p3), (4, .int p4), (5, .int p5), (6, .int p6), (7, .long x7)] → W p l e (headSpec (Cond.code yX10_spelt cX10_spelt 9 (some .long) :: gT) ({ frames := 0, cells := 0, slots := 0, locals := 200 } : Room)).room s m ([.int p0, .int p1, .int p2, .int p3, .int p4, .int p5, .int p6] : List Value).toArray below meth c H locs 0 0 Q (F0 m 38 ls []) := by
    intro x7 H locs ls r_p0 r_p1 r_p2 r_p3 r_p4 r_p5 r_p6 r_x7 hw hl
    refine lv_iload_n hx hb dX10_spelt_38 rfl (lv_at hl 3 rfl) ?_
    refine lv_if_le (tgt := 57) hx hb dX10_spelt_39 (by decide) (fun c_39 => ?_) (fun c_39 => ?_)
    · have r_p3 : RI p3 116 0 := rc_le1 r_p3 rl_0 (ti_le c_39) (by decide)
      exact (r_p3.no (by decide)).elim
    · refine lv_ldc2 (v := 27) hx hb hown (hts _ tw_1312) dX10_spelt_42 ?_
      refine lv_lload hx hb dX10_spelt_45 (lv_at hl 7 rfl) ?_
      refine lv_lmul hx hb dX10_spelt_47 (lv_topl (fun w_1 e_w_1 => ?_))
      have r_w_1 := tq_lmul (lo := 237438) (hi := 237438) rk_27 r_x7 (by decide +kernel) e_w_1
      refine lv_iload_n hx hb dX10_spelt_48 rfl (lv_at hl 3 rfl) ?_
      obtain ⟨w_2, e_w_2⟩ : ∃ q9 : Int64, (p3 : Int32).toInt64 = q9 := ⟨_, rfl⟩
      refine lv_i2l (v := w_2) hx hb dX10_spelt_49 e_w_2 ?_
      have r_w_2 := tq_i2l r_p3 e_w_2
      refine lv_ladd hx hb dX10_spelt_50 (lv_topl (fun w_3 e_w_3 => ?_))
      have r_w_3 := tq_ladd (lo := 237554) (hi := 237554) r_w_1 r_w_2 (by decide +kernel) e_w_3
      refine lv_ldc2 (v := 96) hx hb hown (hts _ tw_1313) dX10_spelt_51 ?_
      refine lv_lsub hx hb dX10_spelt_54 (lv_topl (fun w_4 e_w_4 => ?_))
      have r_w_4 := tq_lsub (lo := 237458) (hi := 237458) r_w_3 rk_96 (by decide +kernel) e_w_4
      refine lv_lstore (lv' := [(7, .long w_4), (0, .int p0), (1, .int p1), (2, .int p2), (3, .int p3), (4, .int p4), (5, .int p5), (6, .int p6)]) hx hb dX10_spelt_55 hl (by decide) rfl (fun ls hl => ?_)
      exact B57 w_4 _ _ ls r_p0 r_p1 r_p2 r_p3 r_p4 r_p5 r_p6 r_w_4 hw (lv_sub hl [1, 2, 3, 4, 5, 6, 7, 0] rfl)
  refine lv_ldc2 (v := 27) hx hb hown (hts _ tw_1312) dX10_spelt_0 ?_
  refine lv_iload_n hx hb dX10_spelt_3 rfl (lv_at hl 0 rfl) ?_
  obtain ⟨w_5, e_w_5⟩ : ∃ q9 : Int64, (p0 : Int32).toInt64 = q9 := ⟨_, rfl⟩
  refine lv_i2l (v := w_5) hx hb dX10_spelt_4 e_w_5 ?_
  have r_w_5 := tq_i2l r_p0 e_w_5
  refine lv_ldc2 (v := 96) hx hb hown (hts _ tw_1313) dX10_spelt_5 ?_
  refine lv_lsub hx hb dX10_spelt_8 (lv_topl (fun w_6 e_w_6 => ?_))
  have r_w_6 := tq_lsub (lo := 12) (hi := 12) r_w_5 rk_96 (by decide +kernel) e_w_6
  refine lv_lmul hx hb dX10_spelt_9 (lv_topl (fun w_7 e_w_7 => ?_))
  have r_w_7 := tq_lmul (lo := 324) (hi := 324) rk_27 r_w_6 (by decide +kernel) e_w_7
  refine lv_iload_n hx hb dX10_spelt_10 rfl (lv_at hl 1 rfl) ?_
  obtain ⟨w_8, e_w_8⟩ : ∃ q9 : Int64, (p1 : Int32).toInt64 = q9 := ⟨_, rfl⟩
  refine lv_i2l (v := w_8) hx hb dX10_spelt_11 e_w_8 ?_
  have r_w_8 := tq_i2l r_p1 e_w_8
  refine lv_ladd hx hb dX10_spelt_12 (lv_topl (fun w_9 e_w_9 => ?_))
  have r_w_9 := tq_ladd (lo := 421) (hi := 421) r_w_7 r_w_8 (by decide +kernel) e_w_9
  refine lv_ldc2 (v := 96) hx hb hown (hts _ tw_1313) dX10_spelt_13 ?_
  refine lv_lsub hx hb dX10_spelt_16 (lv_topl (fun w_10 e_w_10 => ?_))
  have r_w_10 := tq_lsub (lo := 325) (hi := 325) r_w_9 rk_96 (by decide +kernel) e_w_10
  refine lv_lstore (lv' := [(7, .long w_10), (0, .int p0), (1, .int p1), (2, .int p2), (3, .int p3), (4, .int p4), (5, .int p5), (6, .int p6)]) hx hb dX10_spelt_17 hl (by decide) rfl (fun ls hl => ?_)
  refine lv_iload_n hx hb dX10_spelt_19 rfl (lv_at hl 3 rfl) ?_
  refine lv_if_le (tgt := 38) hx hb dX10_spelt_20 (by decide) (fun c_20 => ?_) (fun c_20 => ?_)
  · have r_p2 : RI p2 115 0 := rc_le1 r_p2 rl_0 (ti_le c_20) (by decide)
    exact (r_p2.no (by decide)).elim
  · refine lv_ldc2 (v := 27) hx hb hown (hts _ tw_1312) dX10_spelt_23 ?_
    refine lv_lload hx hb dX10_spelt_26 (lv_at hl 0 rfl) ?_
    refine lv_lmul hx hb dX10_spelt_28 (lv_topl (fun w_11 e_w_11 => ?_))
    have r_w_11 := tq_lmul (lo := 8775) (hi := 8775) rk_27 r_w_10 (by decide +kernel) e_w_11
    refine lv_iload_n hx hb dX10_spelt_29 rfl (lv_at hl 3 rfl) ?_
    obtain ⟨w_12, e_w_12⟩ : ∃ q9 : Int64, (p2 : Int32).toInt64 = q9 := ⟨_, rfl⟩
    refine lv_i2l (v := w_12) hx hb dX10_spelt_30 e_w_12 ?_
    have r_w_12 := tq_i2l r_p2 e_w_12
    refine lv_ladd hx hb dX10_spelt_31 (lv_topl (fun w_13 e_w_13 => ?_))
    have r_w_13 := tq_ladd (lo := 8890) (hi := 8890) r_w_11 r_w_12 (by decide +kernel) e_w_13
    refine lv_ldc2 (v := 96) hx hb hown (hts _ tw_1313) dX10_spelt_32 ?_
    refine lv_lsub hx hb dX10_spelt_35 (lv_topl (fun w_14 e_w_14 => ?_))
    have r_w_14 := tq_lsub (lo := 8794) (hi := 8794) r_w_13 rk_96 (by decide +kernel) e_w_14
    refine lv_lstore (lv' := [(7, .long w_14), (0, .int p0), (1, .int p1), (2, .int p2), (3, .int p3), (4, .int p4), (5, .int p5), (6, .int p6)]) hx hb dX10_spelt_36 hl (by decide) rfl (fun ls hl => ?_)
    exact B38 w_14 _ _ ls r_p0 r_p1 r_p2 r_p3 r_p4 r_p5 r_p6 r_w_14 hw (lv_sub hl [1, 2, 3, 4, 5, 6, 7, 0] rfl)
abbrev wr_X10_write__18 : List (Nat × Nat) := [(10, 38)]
abbrev wa_X10_write__18 : List Nat := [51]
set_option maxHeartbeats 4000000 in
set_option maxRecDepth 100000 in
theorem c_X10_write__18 (l : Launch) (D : va_G) (cy : Nat → ClassId) (z : Nat → Nat) (sz : Nat) (Ps : PSI) (w0 : va_W) (hT : HT cy GG Ps w0) (p0 : Nat) (p1 : Int32) (f0_38 : Int32) (h_p0 : (p0, 55) ∈ Ps) (r_p1 : RI p1 (-2147483648) 2147483647) (r_f0_38 : RI f0_38 9 35) (m_f0_38 : FLD w0 p0 10 38 (.int f0_38)) : Met l yX10_write (Cond.code yX10_write cX10_write 2 none :: gT) ({ frames := 0, cells := 0, slots := 0, locals := 200 } : Room) (va_Pc [.ref p0, .int p1] (PRE D cy z w0 sz)) (va_Qv (fun (u : va_W) => ((∃ v9 : Int32, FLD u p0 10 38 (.int v9) ∧ RI v9 10 36) ∧ True) ∧ HT cy GG Ps u ∧ FR wr_X10_write__18 wa_X10_write__18 Ps w0 u) (BB D cy (va_A w0 sz) (fun (u : va_W) => u)) (va_A w0 sz)) 0 0 (va_A w0 sz) := by
  refine Met.ofW (cc := cX10_write) (maxL := 2) (ret := none) (by decide) rfl ?_
  intro p e s m args below meth c s₁ B hml hv
  obtain ⟨rfl, hsz, hP, hK, hD0, hSD⟩ := hv
  have hx := B.exec
  have hb := B.bytes
  have hr := B.returns
  have hlocks := B.notSynchronized
  have hts : ∀ w ∈ gT, w.before _ s = true := fun w h => atoms_spec (ws := Cond.code yX10_write cX10_write 2 none :: gT) B.pre w (List.mem_cons_of_mem _ h)
  have hown : s.vm.findClass RX10 = some m.cls := findClass_of_methodNamed B.named
  subst hsz
  have hD := hD0.self (sz := s.heap.size)
  generalize hAe : va_A w0 s.heap.size = A at hD hSD ⊢
  have hA : ∀ q : Nat, s.heap.size ≤ q → A q := fun q h => by rw [← hAe]; exact Or.inr h
  have hl := lv_entry ([.ref p0, .int p1]) (n := 2) (Nat.le_of_ble_eq_true rfl)
  rw [lg_entry_eq]
  generalize (lg_sl ([.ref p0, .int p1]) ++ List.replicate (2 - (lg_sl ([.ref p0, .int p1])).length) Slot.unset).toArray = ls at hl ⊢
  have hl : lv_has ls 2 [(0, .ref p0), (1, .int p1)] := hl
  refine nameQ (fun Q hQ => ?_)
  have hw : WD D cy GG A s wr_X10_write__18 wa_X10_write__18 Ps w0 Ps w0 s.heap [] := ⟨hT, hP, hD, va_S.rf, FR.rf, hT.1, [], (List.append_nil _).symm⟩
  refine lv_aload_n hx hb dX10_write_0 rfl (lv_at hl 0 rfl) ?_
  refine tg_get (ci := 10) (ts := ty_MODEL) (C := RX10) (T := TX10) (N := 49) hx hb hts inX10 hown hK hw h_p0 rfl rfl 37 (by decide) (hts _ tw_1174) (fun _ h9 => h9) (ft := vR 51) rfl dX10_write_1 (fun u_1 hv_u_1 m_u_1 => ?_)
  obtain ⟨vu_1, rfl, h_vu_1⟩ := hv_u_1
  refine lv_aload_n hx hb dX10_write_4 rfl (lv_at hl 0 rfl) ?_
  refine tg_mem (ci := 10) (C := RX10) (T := TX10) (N := 49) hx hb hts inX10 hown hK hw 38 m_f0_38 rfl (by decide) (hts _ tw_1175) (fun _ h9 => h9) dX10_write_5 ?_
  refine lv_iload_n hx hb dX10_write_8 rfl (lv_at hl 1 rfl) ?_
  refine tg_iast hx hb hK hw h_vu_1 rfl 9 35 r_f0_38 (by decide) r_p1 (by exact fun _ _ _ => by decide) (fun _ _ _ _ _ => trivial) (by decide) dX10_write_9 (fun ws H locs hw hF9 hU9 => ?_)
  have m_f0_38 := FLD.over hF9 m_f0_38 (by decide)
  refine lv_aload_n hx hb dX10_write_10 rfl (lv_at hl 0 rfl) ?_
  refine lv_dup hx hb dX10_write_11 rfl ?_
  refine tg_mem (ci := 10) (C := RX10) (T := TX10) (N := 49) hx hb hts inX10 hown hK hw 38 m_f0_38 rfl (by decide) (hts _ tw_1175) (fun _ h9 => h9) dX10_write_12 ?_
  refine lv_iconst (v := 1) hx hb dX10_write_15 (by decide) ?_
  refine lv_iadd hx hb dX10_write_16 (lv_topi (fun v_2 e_v_2 => ?_))
  obtain ⟨t_v_2, r_v_2⟩ := tq_add (lo := 10) (hi := 36) r_f0_38 rl_1 (by decide +kernel) e_v_2
  have t_v_2 : v_2.toInt = f0_38.toInt + 1 := t_v_2
  refine tg_put (ci := 10) (ts := ty_MODEL) (v := .int v_2) (ty := .int) (C := RX10) (T := TX10) (N := 49) hx hb hts inX10 tyX10 tyX10_ok nmX10 hown hK hw h_p0 rfl rfl 38 (by decide) (hts _ tw_1175) (fun _ h9 => h9) rfl (by decide +kernel) rfl rfl (ft := vI 0 64) rfl ⟨_, rfl, (r_v_2.to (by decide))⟩ (by decide) dX10_write_17 (fun ws H locs hw n_k_3 hF9 => ?_)
  subst hQ
  exact W.vret hx hb hr (fun t ht hW => ⟨⟨ws, rfl, ⟨⟨⟨_, n_k_3, r_v_2⟩, trivial⟩, hw.1, hw.2.2.2.2.1⟩, by rw [ht]; exact hw.2.1, va_K.moved hW.alike hK, hw.2.2.1⟩, hw.2.2.2.1.F ht⟩) hw.2.2.2.1.2.2 dX10_write_20
abbrev wr_X10_write__19 : List (Nat × Nat) := [(10, 38)]
abbrev wa_X10_write__19 : List Nat := [51]
set_option maxHeartbeats 4000000 in
set_option maxRecDepth 100000 in
theorem c_X10_write__19 (l : Launch) (D : va_G) (cy : Nat → ClassId) (z : Nat → Nat) (sz : Nat) (Ps : PSI) (w0 : va_W) (hT : HT cy GG Ps w0) (p0 : Nat) (p1 : Int32) (f0_38 : Int32) (h_p0 : (p0, 55) ∈ Ps) (r_p1 : RI p1 (-2147483648) 2147483647) (r_f0_38 : RI f0_38 13 39) (m_f0_38 : FLD w0 p0 10 38 (.int f0_38)) : Met l yX10_write (Cond.code yX10_write cX10_write 2 none :: gT) ({ frames := 0, cells := 0, slots := 0, locals := 200 } : Room) (va_Pc [.ref p0, .int p1] (PRE D cy z w0 sz)) (va_Qv (fun (u : va_W) => ((∃ v9 : Int32, FLD u p0 10 38 (.int v9) ∧ RI v9 14 40) ∧ True) ∧ HT cy GG Ps u ∧ FR wr_X10_write__19 wa_X10_write__19 Ps w0 u) (BB D cy (va_A w0 sz) (fun (u : va_W) => u)) (va_A w0 sz)) 0 0 (va_A w0 sz) := by
  refine Met.ofW (cc := cX10_write) (maxL := 2) (ret := none) (by decide) rfl ?_
  intro p e s m args below meth c s₁ B hml hv
  obtain ⟨rfl, hsz, hP, hK, hD0, hSD⟩ := hv
  have hx := B.exec
  have hb := B.bytes
  have hr := B.returns
  have hlocks := B.notSynchronized
  have hts : ∀ w ∈ gT, w.before _ s = true := fun w h => atoms_spec (ws := Cond.code yX10_write cX10_write 2 none :: gT) B.pre w (List.mem_cons_of_mem _ h)
  have hown : s.vm.findClass RX10 = some m.cls := findClass_of_methodNamed B.named
  subst hsz
  have hD := hD0.self (sz := s.heap.size)
  generalize hAe : va_A w0 s.heap.size = A at hD hSD ⊢
  have hA : ∀ q : Nat, s.heap.size ≤ q → A q := fun q h => by rw [← hAe]; exact Or.inr h
  have hl := lv_entry ([.ref p0, .int p1]) (n := 2) (Nat.le_of_ble_eq_true rfl)
  rw [lg_entry_eq]
  generalize (lg_sl ([.ref p0, .int p1]) ++ List.replicate (2 - (lg_sl ([.ref p0, .int p1])).length) Slot.unset).toArray = ls at hl ⊢
  have hl : lv_has ls 2 [(0, .ref p0), (1, .int p1)] := hl
  refine nameQ (fun Q hQ => ?_)
  have hw : WD D cy GG A s wr_X10_write__19 wa_X10_write__19 Ps w0 Ps w0 s.heap [] := ⟨hT, hP, hD, va_S.rf, FR.rf, hT.1, [], (List.append_nil _).symm⟩
  refine lv_aload_n hx hb dX10_write_0 rfl (lv_at hl 0 rfl) ?_
  refine tg_get (ci := 10) (ts := ty_MODEL) (C := RX10) (T := TX10) (N := 49) hx hb hts inX10 hown hK hw h_p0 rfl rfl 37 (by decide) (hts _ tw_1174) (fun _ h9 => h9) (ft := vR 51) rfl dX10_write_1 (fun u_1 hv_u_1 m_u_1 => ?_)
  obtain ⟨vu_1, rfl, h_vu_1⟩ := hv_u_1
  refine lv_aload_n hx hb dX10_write_4 rfl (lv_at hl 0 rfl) ?_
  refine tg_mem (ci := 10) (C := RX10) (T := TX10) (N := 49) hx hb hts inX10 hown hK hw 38 m_f0_38 rfl (by decide) (hts _ tw_1175) (fun _ h9 => h9) dX10_write_5 ?_
  refine lv_iload_n hx hb dX10_write_8 rfl (lv_at hl 1 rfl) ?_
  refine tg_iast hx hb hK hw h_vu_1 rfl 13 39 r_f0_38 (by decide) r_p1 (by exact fun _ _ _ => by decide) (fun _ _ _ _ _ => trivial) (by decide) dX10_write_9 (fun ws H locs hw hF9 hU9 => ?_)
  have m_f0_38 := FLD.over hF9 m_f0_38 (by decide)
  refine lv_aload_n hx hb dX10_write_10 rfl (lv_at hl 0 rfl) ?_
  refine lv_dup hx hb dX10_write_11 rfl ?_
  refine tg_mem (ci := 10) (C := RX10) (T := TX10) (N := 49) hx hb hts inX10 hown hK hw 38 m_f0_38 rfl (by decide) (hts _ tw_1175) (fun _ h9 => h9) dX10_write_12 ?_
  refine lv_iconst (v := 1) hx hb dX10_write_15 (by decide) ?_
  refine lv_iadd hx hb dX10_write_16 (lv_topi (fun v_2 e_v_2 => ?_))
  obtain ⟨t_v_2, r_v_2⟩ := tq_add (lo := 14) (hi := 40) r_f0_38 rl_1 (by decide +kernel) e_v_2
  have t_v_2 : v_2.toInt = f0_38.toInt + 1 := t_v_2
  refine tg_put (ci := 10) (ts := ty_MODEL) (v := .int v_2) (ty := .int) (C := RX10) (T := TX10) (N := 49) hx hb hts inX10 tyX10 tyX10_ok nmX10 hown hK hw h_p0 rfl rfl 38 (by decide) (hts _ tw_1175) (fun _ h9 => h9) rfl (by decide +kernel) rfl rfl (ft := vI 0 64) rfl ⟨_, rfl, (r_v_2.to (by decide))⟩ (by decide) dX10_write_17 (fun ws H locs hw n_k_3 hF9 => ?_)
  subst hQ
  exact W.vret hx hb hr (fun t ht hW => ⟨⟨ws, rfl, ⟨⟨⟨_, n_k_3, r_v_2⟩, trivial⟩, hw.1, hw.2.2.2.2.1⟩, by rw [ht]; exact hw.2.1, va_K.moved hW.alike hK, hw.2.2.1⟩, hw.2.2.2.1.F ht⟩) hw.2.2.2.1.2.2 dX10_write_20
abbrev wr_X10_write__20 : List (Nat × Nat) := [(10, 38)]
abbrev wa_X10_write__20 : List Nat := [51]
set_option maxHeartbeats 4000000 in
set_option maxRecDepth 100000 in
theorem c_X10_write__20 (l : Launch) (D : va_G) (cy : Nat → ClassId) (z : Nat → Nat) (sz : Nat) (Ps : PSI) (w0 : va_W) (hT : HT cy GG Ps w0) (p0 : Nat) (p1 : Int32) (f0_38 : Int32) (h_p0 : (p0, 55) ∈ Ps) (r_p1 : RI p1 (-2147483648) 2147483647) (r_f0_38 : RI f0_38 12 38) (m_f0_38 : FLD w0 p0 10 38 (.int f0_38)) : Met l yX10_write (Cond.code yX10_write cX10_write 2 none :: gT) ({ frames := 0, cells := 0, slots := 0, locals := 200 } : Room) (va_Pc [.ref p0, .int p1] (PRE D cy z w0 sz)) (va_Qv (fun (u : va_W) => ((∃ v9 : Int32, FLD u p0 10 38 (.int v9) ∧ RI v9 13 39) ∧ True) ∧ HT cy GG Ps u ∧ FR wr_X10_write__20 wa_X10_write__20 Ps w0 u) (BB D cy (va_A w0 sz) (fun (u : va_W) => u)) (va_A w0 sz)) 0 0 (va_A w0 sz) := by
  refine Met.ofW (cc := cX10_write) (maxL := 2) (ret := none) (by decide) rfl ?_
  intro p e s m args below meth c s₁ B hml hv
  obtain ⟨rfl, hsz, hP, hK, hD0, hSD⟩ := hv
  have hx := B.exec
  have hb := B.bytes
  have hr := B.returns
  have hlocks := B.notSynchronized
  have hts : ∀ w ∈ gT, w.before _ s = true := fun w h => atoms_spec (ws := Cond.code yX10_write cX10_write 2 none :: gT) B.pre w (List.mem_cons_of_mem _ h)
  have hown : s.vm.findClass RX10 = some m.cls := findClass_of_methodNamed B.named
  subst hsz
  have hD := hD0.self (sz := s.heap.size)
  generalize hAe : va_A w0 s.heap.size = A at hD hSD ⊢
  have hA : ∀ q : Nat, s.heap.size ≤ q → A q := fun q h => by rw [← hAe]; exact Or.inr h
  have hl := lv_entry ([.ref p0, .int p1]) (n := 2) (Nat.le_of_ble_eq_true rfl)
  rw [lg_entry_eq]
  generalize (lg_sl ([.ref p0, .int p1]) ++ List.replicate (2 - (lg_sl ([.ref p0, .int p1])).length) Slot.unset).toArray = ls at hl ⊢
  have hl : lv_has ls 2 [(0, .ref p0), (1, .int p1)] := hl
  refine nameQ (fun Q hQ => ?_)
  have hw : WD D cy GG A s wr_X10_write__20 wa_X10_write__20 Ps w0 Ps w0 s.heap [] := ⟨hT, hP, hD, va_S.rf, FR.rf, hT.1, [], (List.append_nil _).symm⟩
  refine lv_aload_n hx hb dX10_write_0 rfl (lv_at hl 0 rfl) ?_
  refine tg_get (ci := 10) (ts := ty_MODEL) (C := RX10) (T := TX10) (N := 49) hx hb hts inX10 hown hK hw h_p0 rfl rfl 37 (by decide) (hts _ tw_1174) (fun _ h9 => h9) (ft := vR 51) rfl dX10_write_1 (fun u_1 hv_u_1 m_u_1 => ?_)
  obtain ⟨vu_1, rfl, h_vu_1⟩ := hv_u_1
  refine lv_aload_n hx hb dX10_write_4 rfl (lv_at hl 0 rfl) ?_
  refine tg_mem (ci := 10) (C := RX10) (T := TX10) (N := 49) hx hb hts inX10 hown hK hw 38 m_f0_38 rfl (by decide) (hts _ tw_1175) (fun _ h9 => h9) dX10_write_5 ?_
  refine lv_iload_n hx hb dX10_write_8 rfl (lv_at hl 1 rfl) ?_
  refine tg_iast hx hb hK hw h_vu_1 rfl 12 38 r_f0_38 (by decide) r_p1 (by exact fun _ _ _ => by decide) (fun _ _ _ _ _ => trivial) (by decide) dX10_write_9 (fun ws H locs hw hF9 hU9 => ?_)
  have m_f0_38 := FLD.over hF9 m_f0_38 (by decide)
  refine lv_aload_n hx hb dX10_write_10 rfl (lv_at hl 0 rfl) ?_
  refine lv_dup hx hb dX10_write_11 rfl ?_
  refine tg_mem (ci := 10) (C := RX10) (T := TX10) (N := 49) hx hb hts inX10 hown hK hw 38 m_f0_38 rfl (by decide) (hts _ tw_1175) (fun _ h9 => h9) dX10_write_12 ?_
  refine lv_iconst (v := 1) hx hb dX10_write_15 (by decide) ?_
  refine lv_iadd hx hb dX10_write_16 (lv_topi (fun v_2 e_v_2 => ?_))
  obtain ⟨t_v_2, r_v_2⟩ := tq_add (lo := 13) (hi := 39) r_f0_38 rl_1 (by decide +kernel) e_v_2
  have t_v_2 : v_2.toInt = f0_38.toInt + 1 := t_v_2
  refine tg_put (ci := 10) (ts := ty_MODEL) (v := .int v_2) (ty := .int) (C := RX10) (T := TX10) (N := 49) hx hb hts inX10 tyX10 tyX10_ok nmX10 hown hK hw h_p0 rfl rfl 38 (by decide) (hts _ tw_1175) (fun _ h9 => h9) rfl (by decide +kernel) rfl rfl (ft := vI 0 64) rfl ⟨_, rfl, (r_v_2.to (by decide))⟩ (by decide) dX10_write_17 (fun ws H locs hw n_k_3 hF9 => ?_)
  subst hQ
  exact W.vret hx hb hr (fun t ht hW => ⟨⟨ws, rfl, ⟨⟨⟨_, n_k_3, r_v_2⟩, trivial⟩, hw.1, hw.2.2.2.2.1⟩, by rw [ht]; exact hw.2.1, va_K.moved hW.alike hK, hw.2.2.1⟩, hw.2.2.2.1.F ht⟩) hw.2.2.2.1.2.2 dX10_write_20
abbrev wr_X10_write__21 : List (Nat × Nat) := [(10, 38)]
abbrev wa_X10_write__21 : List Nat := [51]
set_option maxHeartbeats 4000000 in
set_option maxRecDepth 100000 in
theorem c_X10_write__21 (l : Launch) (D : va_G) (cy : Nat → ClassId) (z : Nat → Nat) (sz : Nat) (Ps : PSI) (w0 : va_W) (hT : HT cy GG Ps w0) (p0 : Nat) (p1 : Int32) (f0_38 : Int32) (h_p0 : (p0, 55) ∈ Ps) (r_p1 : RI p1 (-2147483648) 2147483647) (r_f0_38 : RI f0_38 11 37) (m_f0_38 : FLD w0 p0 10 38 (.int f0_38)) : Met l yX10_write (Cond.code yX10_write cX10_write 2 none :: gT) ({ frames := 0, cells := 0, slots := 0, locals := 200 } : Room) (va_Pc [.ref p0, .int p1] (PRE D cy z w0 sz)) (va_Qv (fun (u : va_W) => ((∃ v9 : Int32, FLD u p0 10 38 (.int v9) ∧ RI v9 12 38) ∧ True) ∧ HT cy GG Ps u ∧ FR wr_X10_write__21 wa_X10_write__21 Ps w0 u) (BB D cy (va_A w0 sz) (fun (u : va_W) => u)) (va_A w0 sz)) 0 0 (va_A w0 sz) := by
  refine Met.ofW (cc := cX10_write) (maxL := 2) (ret := none) (by decide) rfl ?_
  intro p e s m args below meth c s₁ B hml hv
  obtain ⟨rfl, hsz, hP, hK, hD0, hSD⟩ := hv
  have hx := B.exec
  have hb := B.bytes
  have hr := B.returns
  have hlocks := B.notSynchronized
  have hts : ∀ w ∈ gT, w.before _ s = true := fun w h => atoms_spec (ws := Cond.code yX10_write cX10_write 2 none :: gT) B.pre w (List.mem_cons_of_mem _ h)
  have hown : s.vm.findClass RX10 = some m.cls := findClass_of_methodNamed B.named
  subst hsz
  have hD := hD0.self (sz := s.heap.size)
  generalize hAe : va_A w0 s.heap.size = A at hD hSD ⊢
  have hA : ∀ q : Nat, s.heap.size ≤ q → A q := fun q h => by rw [← hAe]; exact Or.inr h
  have hl := lv_entry ([.ref p0, .int p1]) (n := 2) (Nat.le_of_ble_eq_true rfl)
  rw [lg_entry_eq]
  generalize (lg_sl ([.ref p0, .int p1]) ++ List.replicate (2 - (lg_sl ([.ref p0, .int p1])).length) Slot.unset).toArray = ls at hl ⊢
  have hl : lv_has ls 2 [(0, .ref p0), (1, .int p1)] := hl
  refine nameQ (fun Q hQ => ?_)
  have hw : WD D cy GG A s wr_X10_write__21 wa_X10_write__21 Ps w0 Ps w0 s.heap [] := ⟨hT, hP, hD, va_S.rf, FR.rf, hT.1, [], (List.append_nil _).symm⟩
  refine lv_aload_n hx hb dX10_write_0 rfl (lv_at hl 0 rfl) ?_
  refine tg_get (ci := 10) (ts := ty_MODEL) (C := RX10) (T := TX10) (N := 49) hx hb hts inX10 hown hK hw h_p0 rfl rfl 37 (by decide) (hts _ tw_1174) (fun _ h9 => h9) (ft := vR 51) rfl dX10_write_1 (fun u_1 hv_u_1 m_u_1 => ?_)
  obtain ⟨vu_1, rfl, h_vu_1⟩ := hv_u_1
  refine lv_aload_n hx hb dX10_write_4 rfl (lv_at hl 0 rfl) ?_
  refine tg_mem (ci := 10) (C := RX10) (T := TX10) (N := 49) hx hb hts inX10 hown hK hw 38 m_f0_38 rfl (by decide) (hts _ tw_1175) (fun _ h9 => h9) dX10_write_5 ?_
  refine lv_iload_n hx hb dX10_write_8 rfl (lv_at hl 1 rfl) ?_
  refine tg_iast hx hb hK hw h_vu_1 rfl 11 37 r_f0_38 (by decide) r_p1 (by exact fun _ _ _ => by decide) (fun _ _ _ _ _ => trivial) (by decide) dX10_write_9 (fun ws H locs hw hF9 hU9 => ?_)
  have m_f0_38 := FLD.over hF9 m_f0_38 (by decide)
  refine lv_aload_n hx hb dX10_write_10 rfl (lv_at hl 0 rfl) ?_
  refine lv_dup hx hb dX10_write_11 rfl ?_
  refine tg_mem (ci := 10) (C := RX10) (T := TX10) (N := 49) hx hb hts inX10 hown hK hw 38 m_f0_38 rfl (by decide) (hts _ tw_1175) (fun _ h9 => h9) dX10_write_12 ?_
  refine lv_iconst (v := 1) hx hb dX10_write_15 (by decide) ?_
  refine lv_iadd hx hb dX10_write_16 (lv_topi (fun v_2 e_v_2 => ?_))
  obtain ⟨t_v_2, r_v_2⟩ := tq_add (lo := 12) (hi := 38) r_f0_38 rl_1 (by decide +kernel) e_v_2
  have t_v_2 : v_2.toInt = f0_38.toInt + 1 := t_v_2
  refine tg_put (ci := 10) (ts := ty_MODEL) (v := .int v_2) (ty := .int) (C := RX10) (T := TX10) (N := 49) hx hb hts inX10 tyX10 tyX10_ok nmX10 hown hK hw h_p0 rfl rfl 38 (by decide) (hts _ tw_1175) (fun _ h9 => h9) rfl (by decide +kernel) rfl rfl (ft := vI 0 64) rfl ⟨_, rfl, (r_v_2.to (by decide))⟩ (by decide) dX10_write_17 (fun ws H locs hw n_k_3 hF9 => ?_)
  subst hQ
  exact W.vret hx hb hr (fun t ht hW => ⟨⟨ws, rfl, ⟨⟨⟨_, n_k_3, r_v_2⟩, trivial⟩, hw.1, hw.2.2.2.2.1⟩, by rw [ht]; exact hw.2.1, va_K.moved hW.alike hK, hw.2.2.1⟩, hw.2.2.2.1.F ht⟩) hw.2.2.2.1.2.2 dX10_write_20
abbrev wr_X10_write__22 : List (Nat × Nat) := [(10, 38)]
abbrev wa_X10_write__22 : List Nat := [51]
set_option maxHeartbeats 4000000 in
set_option maxRecDepth 100000 in
theorem c_X10_write__22 (l : Launch) (D : va_G) (cy : Nat → ClassId) (z : Nat → Nat) (sz : Nat) (Ps : PSI) (w0 : va_W) (hT : HT cy GG Ps w0) (p0 : Nat) (p1 : Int32) (f0_38 : Int32) (h_p0 : (p0, 55) ∈ Ps) (r_p1 : RI p1 (-2147483648) 2147483647) (r_f0_38 : RI f0_38 10 36) (m_f0_38 : FLD w0 p0 10 38 (.int f0_38)) : Met l yX10_write (Cond.code yX10_write cX10_write 2 none :: gT) ({ frames := 0, cells := 0, slots := 0, locals := 200 } : Room) (va_Pc [.ref p0, .int p1] (PRE D cy z w0 sz)) (va_Qv (fun (u : va_W) => ((∃ v9 : Int32, FLD u p0 10 38 (.int v9) ∧ RI v9 11 37) ∧ True) ∧ HT cy GG Ps u ∧ FR wr_X10_write__22 wa_X10_write__22 Ps w0 u) (BB D cy (va_A w0 sz) (fun (u : va_W) => u)) (va_A w0 sz)) 0 0 (va_A w0 sz) := by
  refine Met.ofW (cc := cX10_write) (maxL := 2) (ret := none) (by decide) rfl ?_
  intro p e s m args below meth c s₁ B hml hv
  obtain ⟨rfl, hsz, hP, hK, hD0, hSD⟩ := hv
  have hx := B.exec
  have hb := B.bytes
  have hr := B.returns
  have hlocks := B.notSynchronized
  have hts : ∀ w ∈ gT, w.before _ s = true := fun w h => atoms_spec (ws := Cond.code yX10_write cX10_write 2 none :: gT) B.pre w (List.mem_cons_of_mem _ h)
  have hown : s.vm.findClass RX10 = some m.cls := findClass_of_methodNamed B.named
  subst hsz
  have hD := hD0.self (sz := s.heap.size)
  generalize hAe : va_A w0 s.heap.size = A at hD hSD ⊢
  have hA : ∀ q : Nat, s.heap.size ≤ q → A q := fun q h => by rw [← hAe]; exact Or.inr h
  have hl := lv_entry ([.ref p0, .int p1]) (n := 2) (Nat.le_of_ble_eq_true rfl)
  rw [lg_entry_eq]
  generalize (lg_sl ([.ref p0, .int p1]) ++ List.replicate (2 - (lg_sl ([.ref p0, .int p1])).length) Slot.unset).toArray = ls at hl ⊢
  have hl : lv_has ls 2 [(0, .ref p0), (1, .int p1)] := hl
  refine nameQ (fun Q hQ => ?_)
  have hw : WD D cy GG A s wr_X10_write__22 wa_X10_write__22 Ps w0 Ps w0 s.heap [] := ⟨hT, hP, hD, va_S.rf, FR.rf, hT.1, [], (List.append_nil _).symm⟩
  refine lv_aload_n hx hb dX10_write_0 rfl (lv_at hl 0 rfl) ?_
  refine tg_get (ci := 10) (ts := ty_MODEL) (C := RX10) (T := TX10) (N := 49) hx hb hts inX10 hown hK hw h_p0 rfl rfl 37 (by decide) (hts _ tw_1174) (fun _ h9 => h9) (ft := vR 51) rfl dX10_write_1 (fun u_1 hv_u_1 m_u_1 => ?_)
  obtain ⟨vu_1, rfl, h_vu_1⟩ := hv_u_1
  refine lv_aload_n hx hb dX10_write_4 rfl (lv_at hl 0 rfl) ?_
  refine tg_mem (ci := 10) (C := RX10) (T := TX10) (N := 49) hx hb hts inX10 hown hK hw 38 m_f0_38 rfl (by decide) (hts _ tw_1175) (fun _ h9 => h9) dX10_write_5 ?_
  refine lv_iload_n hx hb dX10_write_8 rfl (lv_at hl 1 rfl) ?_
  refine tg_iast hx hb hK hw h_vu_1 rfl 10 36 r_f0_38 (by decide) r_p1 (by exact fun _ _ _ => by decide) (fun _ _ _ _ _ => trivial) (by decide) dX10_write_9 (fun ws H locs hw hF9 hU9 => ?_)
  have m_f0_38 := FLD.over hF9 m_f0_38 (by decide)
  refine lv_aload_n hx hb dX10_write_10 rfl (lv_at hl 0 rfl) ?_
  refine lv_dup hx hb dX10_write_11 rfl ?_
  refine tg_mem (ci := 10) (C := RX10) (T := TX10) (N := 49) hx hb hts inX10 hown hK hw 38 m_f0_38 rfl (by decide) (hts _ tw_1175) (fun _ h9 => h9) dX10_write_12 ?_
  refine lv_iconst (v := 1) hx hb dX10_write_15 (by decide) ?_
  refine lv_iadd hx hb dX10_write_16 (lv_topi (fun v_2 e_v_2 => ?_))
  obtain ⟨t_v_2, r_v_2⟩ := tq_add (lo := 11) (hi := 37) r_f0_38 rl_1 (by decide +kernel) e_v_2
  have t_v_2 : v_2.toInt = f0_38.toInt + 1 := t_v_2
  refine tg_put (ci := 10) (ts := ty_MODEL) (v := .int v_2) (ty := .int) (C := RX10) (T := TX10) (N := 49) hx hb hts inX10 tyX10 tyX10_ok nmX10 hown hK hw h_p0 rfl rfl 38 (by decide) (hts _ tw_1175) (fun _ h9 => h9) rfl (by decide +kernel) rfl rfl (ft := vI 0 64) rfl ⟨_, rfl, (r_v_2.to (by decide))⟩ (by decide) dX10_write_17 (fun ws H locs hw n_k_3 hF9 => ?_)
  subst hQ
  exact W.vret hx hb hr (fun t ht hW => ⟨⟨ws, rfl, ⟨⟨⟨_, n_k_3, r_v_2⟩, trivial⟩, hw.1, hw.2.2.2.2.1⟩, by rw [ht]; exact hw.2.1, va_K.moved hW.alike hK, hw.2.2.1⟩, hw.2.2.2.1.F ht⟩) hw.2.2.2.1.2.2 dX10_write_20
abbrev wr_X10_writeWord__19 : List (Nat × Nat) := [(10, 38)]
abbrev wa_X10_writeWord__19 : List Nat := [51]
set_option maxHeartbeats 4000000 in
set_option maxRecDepth 100000 in
theorem c_X10_writeWord__19 (l : Launch) (D : va_G) (cy : Nat → ClassId) (z : Nat → Nat) (sz : Nat) (Ps : PSI) (w0 : va_W) (hT : HT cy GG Ps w0) (p0 : Nat) (p1 : Int64) (f0_38 : Int32) (h_p0 : (p0, 55) ∈ Ps) (r_p1 : RJ p1 12 12) (r_f0_38 : RI f0_38 10 36) (m_f0_38 : FLD w0 p0 10 38 (.int f0_38)) : Met l yX10_writeWord (Cond.code yX10_writeWord cX10_writeWord 3 none :: gT) ({ frames := 2, cells := 0, slots := 0, locals := 400 } : Room) (va_Pc [.ref p0, .long p1] (PRE D cy z w0 sz)) (va_Qv (fun (u : va_W) => ((∃ v9 : Int32, FLD u p0 10 38 (.int v9) ∧ RI v9 11 37) ∧ True) ∧ HT cy GG Ps u ∧ FR wr_X10_writeWord__19 wa_X10_writeWord__19 Ps w0 u) (BB D cy (va_A w0 sz) (fun (u : va_W) => u)) (va_A w0 sz)) 0 0 (va_A w0 sz) := by
  refine Met.ofW (cc := cX10_writeWord) (maxL := 3) (ret := none) (by decide) rfl ?_
  intro p e s m args below meth c s₁ B hml hv
  obtain ⟨rfl, hsz, hP, hK, hD0, hSD⟩ := hv
  have hx := B.exec
  have hb := B.bytes
  have hr := B.returns
  have hlocks := B.notSynchronized
  have hts : ∀ w ∈ gT, w.before _ s = true := fun w h => atoms_spec (ws := Cond.code yX10_writeWord cX10_writeWord 3 none :: gT) B.pre w (List.mem_cons_of_mem _ h)
  have hown : s.vm.findClass RX10 = some m.cls := findClass_of_methodNamed B.named
  subst hsz
  have hD := hD0.self (sz := s.heap.size)
  generalize hAe : va_A w0 s.heap.size = A at hD hSD ⊢
  have hA : ∀ q : Nat, s.heap.size ≤ q → A q := fun q h => by rw [← hAe]; exact Or.inr h
  have hl := lv_entry ([.ref p0, .long p1]) (n := 3) (Nat.le_of_ble_eq_true rfl)
  rw [lg_entry_eq]
  generalize (lg_sl ([.ref p0, .long p1]) ++ List.replicate (3 - (lg_sl ([.ref p0, .long p1])).length) Slot.unset).toArray = ls at hl ⊢
  have hl : lv_has ls 3 [(0, .ref p0), (1, .long p1)] := hl
  refine nameQ (fun Q hQ => ?_)
  have hw : WD D cy GG A s wr_X10_writeWord__19 wa_X10_writeWord__19 Ps w0 Ps w0 s.heap [] := ⟨hT, hP, hD, va_S.rf, FR.rf, hT.1, [], (List.append_nil _).symm⟩
  have B17 : ∀ (z0_38 : Int32) (ws : va_W) (H : Heap) (locs : List Loc) (ls : Array Slot), RJ p1 12 12 → RI z0_38 10 36 → FLD ws p0 10 38 (.int z0_38) → WD D cy GG A s wr_X10_writeWord__19 wa_X10_writeWord__19 Ps w0 Ps ws H locs → lv_has ls 3 [(0, .ref p0), (1, .long p1)] → W p l e (headSpec (Cond.code yX10_writeWord cX10_writeWord 3 none :: gT) ({ frames := 2, cells := 0, slots := 0, locals := 400 } : Room)).room s m ([.ref p0, .long p1] : List Value).toArray below meth c H locs 0 0 Q (F0 m 17 ls []) := by
    intro z0_38 ws H locs ls r_p1 r_z0_38 m_z0_38 hw hl
    refine lv_aload_n hx hb dX10_writeWord_17 rfl (lv_at hl 0 rfl) ?_
    refine lv_bipush (v := 96) hx hb dX10_writeWord_18 (by decide) ?_
    refine lv_lload_n hx hb dX10_writeWord_20 rfl (lv_at hl 1 rfl) ?_
    refine lv_ldc2 (v := 27) hx hb hown (hts _ tw_1312) dX10_writeWord_21 ?_
    refine lv_lrem hx hb dX10_writeWord_24 (by decide) (lv_topl (fun w_1 e_w_1 => ?_))
    have r_w_1 := rj_any w_1
    obtain ⟨v_2, e_v_2⟩ : ∃ q9 : Int32, (w_1 : Int64).toInt32 = q9 := ⟨_, rfl⟩
    refine lv_l2i (v := v_2) hx hb dX10_writeWord_25 e_v_2 ?_
    have r_v_2 := ri_any v_2
    refine lv_iadd hx hb dX10_writeWord_26 (lv_topi (fun v_3 e_v_3 => ?_))
    have r_v_3 := ri_any v_3
    refine tk_v (va_runV (As := [.int v_3]) (rest := []) ⟨hx, hb, hml, hown, hts⟩ (c_X10_write__22 l D cy z H.size Ps ws hw.1 p0 v_3 z0_38 h_p0 r_v_3 r_z0_38 m_z0_38) (cwV 1 hts (gV tw_1674 tw_1676 ts_98 tw_15 tw_1677) rfl rfl rfl (by decide +kernel) ⟨Nat.le_of_ble_eq_true rfl, Nat.le_of_ble_eq_true rfl⟩) (tg_preV hw hK hSD hA (ci := 10) (q := (RX10, TX10, 49)) rfl h_p0 rfl) rfl rfl hl.1 rfl (lv_room (Nat.le_of_ble_eq_true rfl)) dX10_writeWord_27 ⟨Nat.le_of_ble_eq_true rfl, Nat.le_of_ble_eq_true rfl⟩) hw hA ⟨by decide, by decide⟩ (fun ws H locs hp_v_4 hw hF9 => ?_)
    obtain ⟨v_5, m_v_5, r_v_5⟩ := (hp_v_4.1)
    subst hQ
    exact W.vret hx hb hr (fun t ht hW => ⟨⟨ws, rfl, ⟨⟨⟨_, m_v_5, r_v_5⟩, trivial⟩, hw.1, hw.2.2.2.2.1⟩, by rw [ht]; exact hw.2.1, va_K.moved hW.alike hK, hw.2.2.1⟩, hw.2.2.2.1.F ht⟩) hw.2.2.2.1.2.2 dX10_writeWord_30
  refine lv_lload_n hx hb dX10_writeWord_0 rfl (lv_at hl 1 rfl) ?_
  refine lv_ldc2 (v := 27) hx hb hown (hts _ tw_1312) dX10_writeWord_1 ?_
  refine W.lcmp hx hb dX10_writeWord_4 (lv_topi (fun v_6 e_v_6 => ?_))
  have r_v_6 := ri_any v_6
  refine lv_if_lt (tgt := 17) hx hb dX10_writeWord_5 (by decide) (fun c_5 => ?_) (fun c_5 => ?_)
  · have r_v_6 : RI v_6 (-2147483648) (-1) := rc_lt1 r_v_6 rl_0 (ti_lt c_5) (by decide)
    exact B17 f0_38 w0 _ _ ls r_p1 r_f0_38 m_f0_38 hw hl
  · have r_v_6 : RI v_6 0 2147483647 := rc_le2 rl_0 r_v_6 (ti_nlt c_5) (by decide)
    have r_p1 : RJ p1 27 12 := tq_lc_nlt r_p1 rk_27 e_v_6 c_5 (by decide)
    exact (r_p1.no (by decide)).elim
abbrev wr_X10_writeWord__18 : List (Nat × Nat) := [(10, 38)]
abbrev wa_X10_writeWord__18 : List Nat := [51]
set_option maxHeartbeats 4000000 in
set_option maxRecDepth 100000 in
theorem c_X10_writeWord__18 (l : Launch) (D : va_G) (cy : Nat → ClassId) (z : Nat → Nat) (sz : Nat) (Ps : PSI) (w0 : va_W) (hT : HT cy GG Ps w0) (p0 : Nat) (p1 : Int64) (f0_38 : Int32) (h_p0 : (p0, 55) ∈ Ps) (r_p1 : RJ p1 325 325) (r_f0_38 : RI f0_38 10 36) (m_f0_38 : FLD w0 p0 10 38 (.int f0_38)) : Met l yX10_writeWord (Cond.code yX10_writeWord cX10_writeWord 3 none :: gT) ({ frames := 3, cells := 0, slots := 0, locals := 600 } : Room) (va_Pc [.ref p0, .long p1] (PRE D cy z w0 sz)) (va_Qv (fun (u : va_W) => ((∃ v9 : Int32, FLD u p0 10 38 (.int v9) ∧ RI v9 12 38) ∧ True) ∧ HT cy GG Ps u ∧ FR wr_X10_writeWord__18 wa_X10_writeWord__18 Ps w0 u) (BB D cy (va_A w0 sz) (fun (u : va_W) => u)) (va_A w0 sz)) 0 0 (va_A w0 sz) := by
  refine Met.ofW (cc := cX10_writeWord) (maxL := 3) (ret := none) (by decide) rfl ?_
  intro p e s m args below meth c s₁ B hml hv
  obtain ⟨rfl, hsz, hP, hK, hD0, hSD⟩ := hv
  have hx := B.exec
  have hb := B.bytes
  have hr := B.returns
  have hlocks := B.notSynchronized
  have hts : ∀ w ∈ gT, w.before _ s = true := fun w h => atoms_spec (ws := Cond.code yX10_writeWord cX10_writeWord 3 none :: gT) B.pre w (List.mem_cons_of_mem _ h)
  have hown : s.vm.findClass RX10 = some m.cls := findClass_of_methodNamed B.named
  subst hsz
  have hD := hD0.self (sz := s.heap.size)
  generalize hAe : va_A w0 s.heap.size = A at hD hSD ⊢
  have hA : ∀ q : Nat, s.heap.size ≤ q → A q := fun q h => by rw [← hAe]; exact Or.inr h
  have hl := lv_entry ([.ref p0, .long p1]) (n := 3) (Nat.le_of_ble_eq_true rfl)
  rw [lg_entry_eq]
  generalize (lg_sl ([.ref p0, .long p1]) ++ List.replicate (3 - (lg_sl ([.ref p0, .long p1])).length) Slot.unset).toArray = ls at hl ⊢
  have hl : lv_has ls 3 [(0, .ref p0), (1, .long p1)] := hl
  refine nameQ (fun Q hQ => ?_)
  have hw : WD D cy GG A s wr_X10_writeWord__18 wa_X10_writeWord__18 Ps w0 Ps w0 s.heap [] := ⟨hT, hP, hD, va_S.rf, FR.rf, hT.1, [], (List.append_nil _).symm⟩
  have B17 : ∀ (z0_38 : Int32) (ws : va_W) (H : Heap) (locs : List Loc) (ls : Array Slot), RJ p1 325 325 → RI z0_38 11 37 → FLD ws p0 10 38 (.int z0_38) → WD D cy GG A s wr_X10_writeWord__18 wa_X10_writeWord__18 Ps w0 Ps ws H locs → lv_has ls 3 [(0, .ref p0), (1, .long p1)] → W p l e (headSpec (Cond.code yX10_writeWord cX10_writeWord 3 none :: gT) ({ frames := 3, cells := 0, slots := 0, locals := 600 } : Room)).room s m ([.ref p0, .long p1] : List Value).toArray below meth c H locs 0 0 Q (F0 m 17 ls []) := by
    intro z0_38 ws H locs ls r_p1 r_z0_38 m_z0_38 hw hl
    refine lv_aload_n hx hb dX10_writeWord_17 rfl (lv_at hl 0 rfl) ?_
    refine lv_bipush (v := 96) hx hb dX10_writeWord_18 (by decide) ?_
    refine lv_lload_n hx hb dX10_writeWord_20 rfl (lv_at hl 1 rfl) ?_
    refine lv_ldc2 (v := 27) hx hb hown (hts _ tw_1312) dX10_writeWord_21 ?_
    refine lv_lrem hx hb dX10_writeWord_24 (by decide) (lv_topl (fun w_1 e_w_1 => ?_))
    have r_w_1 := rj_any w_1
    obtain ⟨v_2, e_v_2⟩ : ∃ q9 : Int32, (w_1 : Int64).toInt32 = q9 := ⟨_, rfl⟩
    refine lv_l2i (v := v_2) hx hb dX10_writeWord_25 e_v_2 ?_
    have r_v_2 := ri_any v_2
    refine lv_iadd hx hb dX10_writeWord_26 (lv_topi (fun v_3 e_v_3 => ?_))
    have r_v_3 := ri_any v_3
    refine tk_v (va_runV (As := [.int v_3]) (rest := []) ⟨hx, hb, hml, hown, hts⟩ (c_X10_write__21 l D cy z H.size Ps ws hw.1 p0 v_3 z0_38 h_p0 r_v_3 r_z0_38 m_z0_38) (cwV 1 hts (gV tw_1674 tw_1676 ts_98 tw_15 tw_1677) rfl rfl rfl (by decide +kernel) ⟨Nat.le_of_ble_eq_true rfl, Nat.le_of_ble_eq_true rfl⟩) (tg_preV hw hK hSD hA (ci := 10) (q := (RX10, TX10, 49)) rfl h_p0 rfl) rfl rfl hl.1 rfl (lv_room (Nat.le_of_ble_eq_true rfl)) dX10_writeWord_27 ⟨Nat.le_of_ble_eq_true rfl, Nat.le_of_ble_eq_true rfl⟩) hw hA ⟨by decide, by decide⟩ (fun ws H locs hp_v_4 hw hF9 => ?_)
    obtain ⟨v_5, m_v_5, r_v_5⟩ := (hp_v_4.1)
    subst hQ
    exact W.vret hx hb hr (fun t ht hW => ⟨⟨ws, rfl, ⟨⟨⟨_, m_v_5, r_v_5⟩, trivial⟩, hw.1, hw.2.2.2.2.1⟩, by rw [ht]; exact hw.2.1, va_K.moved hW.alike hK, hw.2.2.1⟩, hw.2.2.2.1.F ht⟩) hw.2.2.2.1.2.2 dX10_writeWord_30
  refine lv_lload_n hx hb dX10_writeWord_0 rfl (lv_at hl 1 rfl) ?_
  refine lv_ldc2 (v := 27) hx hb hown (hts _ tw_1312) dX10_writeWord_1 ?_
  refine W.lcmp hx hb dX10_writeWord_4 (lv_topi (fun v_6 e_v_6 => ?_))
  have r_v_6 := ri_any v_6
  refine lv_if_lt (tgt := 17) hx hb dX10_writeWord_5 (by decide) (fun c_5 => ?_) (fun c_5 => ?_)
  · have r_v_6 : RI v_6 (-2147483648) (-1) := rc_lt1 r_v_6 rl_0 (ti_lt c_5) (by decide)
    have r_p1 : RJ p1 325 26 := tq_lc_lt r_p1 rk_27 e_v_6 c_5 (by decide)
    exact (r_p1.no (by decide)).elim
  · have r_v_6 : RI v_6 0 2147483647 := rc_le2 rl_0 r_v_6 (ti_nlt c_5) (by decide)
    refine lv_aload_n hx hb dX10_writeWord_8 rfl (lv_at hl 0 rfl) ?_
    refine lv_lload_n hx hb dX10_writeWord_9 rfl (lv_at hl 1 rfl) ?_
    refine lv_ldc2 (v := 27) hx hb hown (hts _ tw_1312) dX10_writeWord_10 ?_
    refine lv_ldiv hx hb dX10_writeWord_13 (by decide) (lv_topl (fun w_7 e_w_7 => ?_))
    have r_w_7 := tq_ldiv (lo := 12) (hi := 12) r_p1 (by decide) e_w_7
    refine tk_v (va_runV (As := [.long w_7]) (rest := []) ⟨hx, hb, hml, hown, hts⟩ (c_X10_writeWord__19 l D cy z s.heap.size Ps w0 hw.1 p0 w_7 f0_38 h_p0 r_w_7 r_f0_38 m_f0_38) (cwV 1 hts (gV tw_1670 tw_1672 ts_97 tw_15 tw_1673) rfl rfl rfl (by decide +kernel) ⟨Nat.le_of_ble_eq_true rfl, Nat.le_of_ble_eq_true rfl⟩) (tg_preV hw hK hSD hA (ci := 10) (q := (RX10, TX10, 49)) rfl h_p0 rfl) rfl rfl hl.1 rfl (lv_room (Nat.le_of_ble_eq_true rfl)) dX10_writeWord_14 ⟨Nat.le_of_ble_eq_true rfl, Nat.le_of_ble_eq_true rfl⟩) hw hA ⟨by decide, by decide⟩ (fun ws H locs hp_v_8 hw hF9 => ?_)
    obtain ⟨v_9, m_v_9, r_v_9⟩ := (hp_v_8.1)
    exact B17 v_9 ws _ _ ls r_p1 r_v_9 m_v_9 hw hl
abbrev wr_X10_writeWord__17 : List (Nat × Nat) := [(10, 38)]
abbrev wa_X10_writeWord__17 : List Nat := [51]
set_option maxHeartbeats 4000000 in
set_option maxRecDepth 100000 in
theorem c_X10_writeWord__17 (l : Launch) (D : va_G) (cy : Nat → ClassId) (z : Nat → Nat) (sz : Nat) (Ps : PSI) (w0 : va_W) (hT : HT cy GG Ps w0) (p0 : Nat) (p1 : Int64) (f0_38 : Int32) (h_p0 : (p0, 55) ∈ Ps) (r_p1 : RJ p1 8794 8794) (r_f0_38 : RI f0_38 10 36) (m_f0_38 : FLD w0 p0 10 38 (.int f0_38)) : Met l yX10_writeWord (Cond.code yX10_writeWord cX10_writeWord 3 none :: gT) ({ frames := 4, cells := 0, slots := 0, locals := 800 } : Room) (va_Pc [.ref p0, .long p1] (PRE D cy z w0 sz)) (va_Qv (fun (u : va_W) => ((∃ v9 : Int32, FLD u p0 10 38 (.int v9) ∧ RI v9 13 39) ∧ True) ∧ HT cy GG Ps u ∧ FR wr_X10_writeWord__17 wa_X10_writeWord__17 Ps w0 u) (BB D cy (va_A w0 sz) (fun (u : va_W) => u)) (va_A w0 sz)) 0 0 (va_A w0 sz) := by
  refine Met.ofW (cc := cX10_writeWord) (maxL := 3) (ret := none) (by decide) rfl ?_
  intro p e s m args below meth c s₁ B hml hv
  obtain ⟨rfl, hsz, hP, hK, hD0, hSD⟩ := hv
  have hx := B.exec
  have hb := B.bytes
  have hr := B.returns
  have hlocks := B.notSynchronized
  have hts : ∀ w ∈ gT, w.before _ s = true := fun w h => atoms_spec (ws := Cond.code yX10_writeWord cX10_writeWord 3 none :: gT) B.pre w (List.mem_cons_of_mem _ h)
  have hown : s.vm.findClass RX10 = some m.cls := findClass_of_methodNamed B.named
  subst hsz
  have hD := hD0.self (sz := s.heap.size)
  generalize hAe : va_A w0 s.heap.size = A at hD hSD ⊢
  have hA : ∀ q : Nat, s.heap.size ≤ q → A q := fun q h => by rw [← hAe]; exact Or.inr h
  have hl := lv_entry ([.ref p0, .long p1]) (n := 3) (Nat.le_of_ble_eq_true rfl)
  rw [lg_entry_eq]
  generalize (lg_sl ([.ref p0, .long p1]) ++ List.replicate (3 - (lg_sl ([.ref p0, .long p1])).length) Slot.unset).toArray = ls at hl ⊢
  have hl : lv_has ls 3 [(0, .ref p0), (1, .long p1)] := hl
  refine nameQ (fun Q hQ => ?_)
  have hw : WD D cy GG A s wr_X10_writeWord__17 wa_X10_writeWord__17 Ps w0 Ps w0 s.heap [] := ⟨hT, hP, hD, va_S.rf, FR.rf, hT.1, [], (List.append_nil _).symm⟩
  have B17 : ∀ (z0_38 : Int32) (ws : va_W) (H : Heap) (locs : List Loc) (ls : Array Slot), RJ p1 8794 8794 → RI z0_38 12 38 → FLD ws p0 10 38 (.int z0_38) → WD D cy GG A s wr_X10_writeWord__17 wa_X10_writeWord__17 Ps w0 Ps ws H locs → lv_has ls 3 [(0, .ref p0), (1, .long p1)] → W p l e (headSpec (Cond.code yX10_writeWord cX10_writeWord 3 none :: gT) ({ frames := 4, cells := 0, slots := 0, locals := 800 } : Room)).room s m ([.ref p0, .long p1] : List Value).toArray below meth c H locs 0 0 Q (F0 m 17 ls []) := by
    intro z0_38 ws H locs ls r_p1 r_z0_38 m_z0_38 hw hl
    refine lv_aload_n hx hb dX10_writeWord_17 rfl (lv_at hl 0 rfl) ?_
    refine lv_bipush (v := 96) hx hb dX10_writeWord_18 (by decide) ?_
    refine lv_lload_n hx hb dX10_writeWord_20 rfl (lv_at hl 1 rfl) ?_
    refine lv_ldc2 (v := 27) hx hb hown (hts _ tw_1312) dX10_writeWord_21 ?_
    refine lv_lrem hx hb dX10_writeWord_24 (by decide) (lv_topl (fun w_1 e_w_1 => ?_))
    have r_w_1 := rj_any w_1
    obtain ⟨v_2, e_v_2⟩ : ∃ q9 : Int32, (w_1 : Int64).toInt32 = q9 := ⟨_, rfl⟩
    refine lv_l2i (v := v_2) hx hb dX10_writeWord_25 e_v_2 ?_
    have r_v_2 := ri_any v_2
    refine lv_iadd hx hb dX10_writeWord_26 (lv_topi (fun v_3 e_v_3 => ?_))
    have r_v_3 := ri_any v_3
    refine tk_v (va_runV (As := [.int v_3]) (rest := []) ⟨hx, hb, hml, hown, hts⟩ (c_X10_write__20 l D cy z H.size Ps ws hw.1 p0 v_3 z0_38 h_p0 r_v_3 r_z0_38 m_z0_38) (cwV 1 hts (gV tw_1674 tw_1676 ts_98 tw_15 tw_1677) rfl rfl rfl (by decide +kernel) ⟨Nat.le_of_ble_eq_true rfl, Nat.le_of_ble_eq_true rfl⟩) (tg_preV hw hK hSD hA (ci := 10) (q := (RX10, TX10, 49)) rfl h_p0 rfl) rfl rfl hl.1 rfl (lv_room (Nat.le_of_ble_eq_true rfl)) dX10_writeWord_27 ⟨Nat.le_of_ble_eq_true rfl, Nat.le_of_ble_eq_true rfl⟩) hw hA ⟨by decide, by decide⟩ (fun ws H locs hp_v_4 hw hF9 => ?_)
    obtain ⟨v_5, m_v_5, r_v_5⟩ := (hp_v_4.1)
    subst hQ
    exact W.vret hx hb hr (fun t ht hW => ⟨⟨ws, rfl, ⟨⟨⟨_, m_v_5, r_v_5⟩, trivial⟩, hw.1, hw.2.2.2.2.1⟩, by rw [ht]; exact hw.2.1, va_K.moved hW.alike hK, hw.2.2.1⟩, hw.2.2.2.1.F ht⟩) hw.2.2.2.1.2.2 dX10_writeWord_30
  refine lv_lload_n hx hb dX10_writeWord_0 rfl (lv_at hl 1 rfl) ?_
  refine lv_ldc2 (v := 27) hx hb hown (hts _ tw_1312) dX10_writeWord_1 ?_
  refine W.lcmp hx hb dX10_writeWord_4 (lv_topi (fun v_6 e_v_6 => ?_))
  have r_v_6 := ri_any v_6
  refine lv_if_lt (tgt := 17) hx hb dX10_writeWord_5 (by decide) (fun c_5 => ?_) (fun c_5 => ?_)
  · have r_v_6 : RI v_6 (-2147483648) (-1) := rc_lt1 r_v_6 rl_0 (ti_lt c_5) (by decide)
    have r_p1 : RJ p1 8794 26 := tq_lc_lt r_p1 rk_27 e_v_6 c_5 (by decide)
    exact (r_p1.no (by decide)).elim
  · have r_v_6 : RI v_6 0 2147483647 := rc_le2 rl_0 r_v_6 (ti_nlt c_5) (by decide)
    refine lv_aload_n hx hb dX10_writeWord_8 rfl (lv_at hl 0 rfl) ?_
    refine lv_lload_n hx hb dX10_writeWord_9 rfl (lv_at hl 1 rfl) ?_
    refine lv_ldc2 (v := 27) hx hb hown (hts _ tw_1312) dX10_writeWord_10 ?_
    refine lv_ldiv hx hb dX10_writeWord_13 (by decide) (lv_topl (fun w_7 e_w_7 => ?_))
    have r_w_7 := tq_ldiv (lo := 325) (hi := 325) r_p1 (by decide) e_w_7
    refine tk_v (va_runV (As := [.long w_7]) (rest := []) ⟨hx, hb, hml, hown, hts⟩ (c_X10_writeWord__18 l D cy z s.heap.size Ps w0 hw.1 p0 w_7 f0_38 h_p0 r_w_7 r_f0_38 m_f0_38) (cwV 1 hts (gV tw_1670 tw_1672 ts_97 tw_15 tw_1673) rfl rfl rfl (by decide +kernel) ⟨Nat.le_of_ble_eq_true rfl, Nat.le_of_ble_eq_true rfl⟩) (tg_preV hw hK hSD hA (ci := 10) (q := (RX10, TX10, 49)) rfl h_p0 rfl) rfl rfl hl.1 rfl (lv_room (Nat.le_of_ble_eq_true rfl)) dX10_writeWord_14 ⟨Nat.le_of_ble_eq_true rfl, Nat.le_of_ble_eq_true rfl⟩) hw hA ⟨by decide, by decide⟩ (fun ws H locs hp_v_8 hw hF9 => ?_)
    obtain ⟨v_9, m_v_9, r_v_9⟩ := (hp_v_8.1)
    exact B17 v_9 ws _ _ ls r_p1 r_v_9 m_v_9 hw hl
abbrev wr_X10_writeWord__16 : List (Nat × Nat) := [(10, 38)]
abbrev wa_X10_writeWord__16 : List Nat := [51]
set_option maxHeartbeats 4000000 in
set_option maxRecDepth 100000 in
theorem c_X10_writeWord__16 (l : Launch) (D : va_G) (cy : Nat → ClassId) (z : Nat → Nat) (sz : Nat) (Ps : PSI) (w0 : va_W) (hT : HT cy GG Ps w0) (p0 : Nat) (p1 : Int64) (f0_38 : Int32) (h_p0 : (p0, 55) ∈ Ps) (r_p1 : RJ p1 237458 237458) (r_f0_38 : RI f0_38 10 36) (m_f0_38 : FLD w0 p0 10 38 (.int f0_38)) : Met l yX10_writeWord (Cond.code yX10_writeWord cX10_writeWord 3 none :: gT) ({ frames := 5, cells := 0, slots := 0, locals := 1000 } : Room) (va_Pc [.ref p0, .long p1] (PRE D cy z w0 sz)) (va_Qv (fun (u : va_W) => ((∃ v9 : Int32, FLD u p0 10 38 (.int v9) ∧ RI v9 14 40) ∧ True) ∧ HT cy GG Ps u ∧ FR wr_X10_writeWord__16 wa_X10_writeWord__16 Ps w0 u) (BB D cy (va_A w0 sz) (fun (u : va_W) => u)) (va_A w0 sz)) 0 0 (va_A w0 sz) := by
  refine Met.ofW (cc := cX10_writeWord) (maxL := 3) (ret := none) (by decide) rfl ?_
  intro p e s m args below meth c s₁ B hml hv
  obtain ⟨rfl, hsz, hP, hK, hD0, hSD⟩ := hv
  have hx := B.exec
  have hb := B.bytes
  have hr := B.returns
  have hlocks := B.notSynchronized
  have hts : ∀ w ∈ gT, w.before _ s = true := fun w h => atoms_spec (ws := Cond.code yX10_writeWord cX10_writeWord 3 none :: gT) B.pre w (List.mem_cons_of_mem _ h)
  have hown : s.vm.findClass RX10 = some m.cls := findClass_of_methodNamed B.named
  subst hsz
  have hD := hD0.self (sz := s.heap.size)
  generalize hAe : va_A w0 s.heap.size = A at hD hSD ⊢
  have hA : ∀ q : Nat, s.heap.size ≤ q → A q := fun q h => by rw [← hAe]; exact Or.inr h
  have hl := lv_entry ([.ref p0, .long p1]) (n := 3) (Nat.le_of_ble_eq_true rfl)
  rw [lg_entry_eq]
  generalize (lg_sl ([.ref p0, .long p1]) ++ List.replicate (3 - (lg_sl ([.ref p0, .long p1])).length) Slot.unset).toArray = ls at hl ⊢
  have hl : lv_has ls 3 [(0, .ref p0), (1, .long p1)] := hl
  refine nameQ (fun Q hQ => ?_)
  have hw : WD D cy GG A s wr_X10_writeWord__16 wa_X10_writeWord__16 Ps w0 Ps w0 s.heap [] := ⟨hT, hP, hD, va_S.rf, FR.rf, hT.1, [], (List.append_nil _).symm⟩
  have B17 : ∀ (z0_38 : Int32) (ws : va_W) (H : Heap) (locs : List Loc) (ls : Array Slot), RJ p1 237458 237458 → RI z0_38 13 39 → FLD ws p0 10 38 (.int z0_38) → WD D cy GG A s wr_X10_writeWord__16 wa_X10_writeWord__16 Ps w0 Ps ws H locs → lv_has ls 3 [(0, .ref p0), (1, .long p1)] → W p l e (headSpec (Cond.code yX10_writeWord cX10_writeWord 3 none :: gT) ({ frames := 5, cells := 0, slots := 0, locals := 1000 } : Room)).room s m ([.ref p0, .long p1] : List Value).toArray below meth c H locs 0 0 Q (F0 m 17 ls []) := by
    intro z0_38 ws H locs ls r_p1 r_z0_38 m_z0_38 hw hl
    refine lv_aload_n hx hb dX10_writeWord_17 rfl (lv_at hl 0 rfl) ?_
    refine lv_bipush (v := 96) hx hb dX10_writeWord_18 (by decide) ?_
    refine lv_lload_n hx hb dX10_writeWord_20 rfl (lv_at hl 1 rfl) ?_
    refine lv_ldc2 (v := 27) hx hb hown (hts _ tw_1312) dX10_writeWord_21 ?_
    refine lv_lrem hx hb dX10_writeWord_24 (by decide) (lv_topl (fun w_1 e_w_1 => ?_))
    have r_w_1 := rj_any w_1
    obtain ⟨v_2, e_v_2⟩ : ∃ q9 : Int32, (w_1 : Int64).toInt32 = q9 := ⟨_, rfl⟩
    refine lv_l2i (v := v_2) hx hb dX10_writeWord_25 e_v_2 ?_
    have r_v_2 := ri_any v_2
    refine lv_iadd hx hb dX10_writeWord_26 (lv_topi (fun v_3 e_v_3 => ?_))
    have r_v_3 := ri_any v_3
    refine tk_v (va_runV (As := [.int v_3]) (rest := []) ⟨hx, hb, hml, hown, hts⟩ (c_X10_write__19 l D cy z H.size Ps ws hw.1 p0 v_3 z0_38 h_p0 r_v_3 r_z0_38 m_z0_38) (cwV 1 hts (gV tw_1674 tw_1676 ts_98 tw_15 tw_1677) rfl rfl rfl (by decide +kernel) ⟨Nat.le_of_ble_eq_true rfl, Nat.le_of_ble_eq_true rfl⟩) (tg_preV hw hK hSD hA (ci := 10) (q := (RX10, TX10, 49)) rfl h_p0 rfl) rfl rfl hl.1 rfl (lv_room (Nat.le_of_ble_eq_true rfl)) dX10_writeWord_27 ⟨Nat.le_of_ble_eq_true rfl, Nat.le_of_ble_eq_true rfl⟩) hw hA ⟨by decide, by decide⟩ (fun ws H locs hp_v_4 hw hF9 => ?_)
    obtain ⟨v_5, m_v_5, r_v_5⟩ := (hp_v_4.1)
    subst hQ
    exact W.vret hx hb hr (fun t ht hW => ⟨⟨ws, rfl, ⟨⟨⟨_, m_v_5, r_v_5⟩, trivial⟩, hw.1, hw.2.2.2.2.1⟩, by rw [ht]; exact hw.2.1, va_K.moved hW.alike hK, hw.2.2.1⟩, hw.2.2.2.1.F ht⟩) hw.2.2.2.1.2.2 dX10_writeWord_30
  refine lv_lload_n hx hb dX10_writeWord_0 rfl (lv_at hl 1 rfl) ?_
  refine lv_ldc2 (v := 27) hx hb hown (hts _ tw_1312) dX10_writeWord_1 ?_
  refine W.lcmp hx hb dX10_writeWord_4 (lv_topi (fun v_6 e_v_6 => ?_))
  have r_v_6 := ri_any v_6
  refine lv_if_lt (tgt := 17) hx hb dX10_writeWord_5 (by decide) (fun c_5 => ?_) (fun c_5 => ?_)
  · have r_v_6 : RI v_6 (-2147483648) (-1) := rc_lt1 r_v_6 rl_0 (ti_lt c_5) (by decide)
    have r_p1 : RJ p1 237458 26 := tq_lc_lt r_p1 rk_27 e_v_6 c_5 (by decide)
    exact (r_p1.no (by decide)).elim
  · have r_v_6 : RI v_6 0 2147483647 := rc_le2 rl_0 r_v_6 (ti_nlt c_5) (by decide)
    refine lv_aload_n hx hb dX10_writeWord_8 rfl (lv_at hl 0 rfl) ?_
    refine lv_lload_n hx hb dX10_writeWord_9 rfl (lv_at hl 1 rfl) ?_
    refine lv_ldc2 (v := 27) hx hb hown (hts _ tw_1312) dX10_writeWord_10 ?_
    refine lv_ldiv hx hb dX10_writeWord_13 (by decide) (lv_topl (fun w_7 e_w_7 => ?_))
    have r_w_7 := tq_ldiv (lo := 8794) (hi := 8794) r_p1 (by decide) e_w_7
    refine tk_v (va_runV (As := [.long w_7]) (rest := []) ⟨hx, hb, hml, hown, hts⟩ (c_X10_writeWord__17 l D cy z s.heap.size Ps w0 hw.1 p0 w_7 f0_38 h_p0 r_w_7 r_f0_38 m_f0_38) (cwV 1 hts (gV tw_1670 tw_1672 ts_97 tw_15 tw_1673) rfl rfl rfl (by decide +kernel) ⟨Nat.le_of_ble_eq_true rfl, Nat.le_of_ble_eq_true rfl⟩) (tg_preV hw hK hSD hA (ci := 10) (q := (RX10, TX10, 49)) rfl h_p0 rfl) rfl rfl hl.1 rfl (lv_room (Nat.le_of_ble_eq_true rfl)) dX10_writeWord_14 ⟨Nat.le_of_ble_eq_true rfl, Nat.le_of_ble_eq_true rfl⟩) hw hA ⟨by decide, by decide⟩ (fun ws H locs hp_v_8 hw hF9 => ?_)
    obtain ⟨v_9, m_v_9, r_v_9⟩ := (hp_v_8.1)
    exact B17 v_9 ws _ _ ls r_p1 r_v_9 m_v_9 hw hl
abbrev wr_X10_writeNext__2 : List (Nat × Nat) := [(10, 38)]
abbrev wa_X10_writeNext__2 : List Nat := [51]
set_option maxHeartbeats 4000000 in
set_option maxRecDepth 100000 in
theorem c_X10_writeNext__2 (l : Launch) (D : va_G) (cy : Nat → ClassId) (z : Nat → Nat) (sz : Nat) (Ps : PSI) (w0 : va_W) (hT : HT cy GG Ps w0) (p0 : Nat) (p1 : Int64) (f0_38 : Int32) (h_p0 : (p0, 55) ∈ Ps) (r_p1 : RJ p1 237458 237458) (r_f0_38 : RI f0_38 9 35) (m_f0_38 : FLD w0 p0 10 38 (.int f0_38)) : Met l yX10_writeNext (Cond.code yX10_writeNext cX10_writeNext 3 none :: gT) ({ frames := 6, cells := 0, slots := 0, locals := 1200 } : Room) (va_Pc [.ref p0, .long p1] (PRE D cy z w0 sz)) (va_Qv (fun (u : va_W) => ((∃ v9 : Int32, FLD u p0 10 38 (.int v9) ∧ RI v9 14 40) ∧ True) ∧ HT cy GG Ps u ∧ FR wr_X10_writeNext__2 wa_X10_writeNext__2 Ps w0 u) (BB D cy (va_A w0 sz) (fun (u : va_W) => u)) (va_A w0 sz)) 0 0 (va_A w0 sz) := by
  refine Met.ofW (cc := cX10_writeNext) (maxL := 3) (ret := none) (by decide) rfl ?_
  intro p e s m args below meth c s₁ B hml hv
  obtain ⟨rfl, hsz, hP, hK, hD0, hSD⟩ := hv
  have hx := B.exec
  have hb := B.bytes
  have hr := B.returns
  have hlocks := B.notSynchronized
  have hts : ∀ w ∈ gT, w.before _ s = true := fun w h => atoms_spec (ws := Cond.code yX10_writeNext cX10_writeNext 3 none :: gT) B.pre w (List.mem_cons_of_mem _ h)
  have hown : s.vm.findClass RX10 = some m.cls := findClass_of_methodNamed B.named
  subst hsz
  have hD := hD0.self (sz := s.heap.size)
  generalize hAe : va_A w0 s.heap.size = A at hD hSD ⊢
  have hA : ∀ q : Nat, s.heap.size ≤ q → A q := fun q h => by rw [← hAe]; exact Or.inr h
  have hl := lv_entry ([.ref p0, .long p1]) (n := 3) (Nat.le_of_ble_eq_true rfl)
  rw [lg_entry_eq]
  generalize (lg_sl ([.ref p0, .long p1]) ++ List.replicate (3 - (lg_sl ([.ref p0, .long p1])).length) Slot.unset).toArray = ls at hl ⊢
  have hl : lv_has ls 3 [(0, .ref p0), (1, .long p1)] := hl
  refine nameQ (fun Q hQ => ?_)
  have hw : WD D cy GG A s wr_X10_writeNext__2 wa_X10_writeNext__2 Ps w0 Ps w0 s.heap [] := ⟨hT, hP, hD, va_S.rf, FR.rf, hT.1, [], (List.append_nil _).symm⟩
  refine lv_aload_n hx hb dX10_writeNext_0 rfl (lv_at hl 0 rfl) ?_
  refine lv_bipush (v := 32) hx hb dX10_writeNext_1 (by decide) ?_
  refine tk_v (va_runV (As := [.int 32]) (rest := []) ⟨hx, hb, hml, hown, hts⟩ (c_X10_write__18 l D cy z s.heap.size Ps w0 hw.1 p0 32 f0_38 h_p0 (rl_32.to (by decide)) r_f0_38 m_f0_38) (cwV 1 hts (gV tw_1674 tw_1676 ts_98 tw_15 tw_1677) rfl rfl rfl (by decide +kernel) ⟨Nat.le_of_ble_eq_true rfl, Nat.le_of_ble_eq_true rfl⟩) (tg_preV hw hK hSD hA (ci := 10) (q := (RX10, TX10, 49)) rfl h_p0 rfl) rfl rfl hl.1 rfl (lv_room (Nat.le_of_ble_eq_true rfl)) dX10_writeNext_3 ⟨Nat.le_of_ble_eq_true rfl, Nat.le_of_ble_eq_true rfl⟩) hw hA ⟨by decide, by decide⟩ (fun ws H locs hp_v_1 hw hF9 => ?_)
  obtain ⟨v_2, m_v_2, r_v_2⟩ := (hp_v_1.1)
  refine lv_aload_n hx hb dX10_writeNext_6 rfl (lv_at hl 0 rfl) ?_
  refine lv_lload_n hx hb dX10_writeNext_7 rfl (lv_at hl 1 rfl) ?_
  refine tk_v (va_runV (As := [.long p1]) (rest := []) ⟨hx, hb, hml, hown, hts⟩ (c_X10_writeWord__16 l D cy z H.size Ps ws hw.1 p0 p1 v_2 h_p0 r_p1 r_v_2 m_v_2) (cwV 1 hts (gV tw_1670 tw_1672 ts_97 tw_15 tw_1673) rfl rfl rfl (by decide +kernel) ⟨Nat.le_of_ble_eq_true rfl, Nat.le_of_ble_eq_true rfl⟩) (tg_preV hw hK hSD hA (ci := 10) (q := (RX10, TX10, 49)) rfl h_p0 rfl) rfl rfl hl.1 rfl (lv_room (Nat.le_of_ble_eq_true rfl)) dX10_writeNext_8 ⟨Nat.le_of_ble_eq_true rfl, Nat.le_of_ble_eq_true rfl⟩) hw hA ⟨by decide, by decide⟩ (fun ws H locs hp_v_3 hw hF9 => ?_)
  obtain ⟨v_4, m_v_4, r_v_4⟩ := (hp_v_3.1)
  subst hQ
  exact W.vret hx hb hr (fun t ht hW => ⟨⟨ws, rfl, ⟨⟨⟨_, m_v_4, r_v_4⟩, trivial⟩, hw.1, hw.2.2.2.2.1⟩, by rw [ht]; exact hw.2.1, va_K.moved hW.alike hK, hw.2.2.1⟩, hw.2.2.2.1.F ht⟩) hw.2.2.2.1.2.2 dX10_writeNext_11
abbrev wr_X10_write__23 : List (Nat × Nat) := [(10, 38)]
abbrev wa_X10_write__23 : List Nat := [51]
set_option maxHeartbeats 4000000 in
set_option maxRecDepth 100000 in
theorem c_X10_write__23 (l : Launch) (D : va_G) (cy : Nat → ClassId) (z : Nat → Nat) (sz : Nat) (Ps : PSI) (w0 : va_W) (hT : HT cy GG Ps w0) (p0 : Nat) (p1 : Int32) (f0_38 : Int32) (h_p0 : (p0, 55) ∈ Ps) (r_p1 : RI p1 (-2147483648) 2147483647) (r_f0_38 : RI f0_38 0 13) (m_f0_38 : FLD w0 p0 10 38 (.int f0_38)) : Met l yX10_write (Cond.code yX10_write cX10_write 2 none :: gT) ({ frames := 0, cells := 0, slots := 0, locals := 200 } : Room) (va_Pc [.ref p0, .int p1] (PRE D cy z w0 sz)) (va_Qv (fun (u : va_W) => ((∃ v9 : Int32, FLD u p0 10 38 (.int v9) ∧ RI v9 1 14) ∧ True) ∧ HT cy GG Ps u ∧ FR wr_X10_write__23 wa_X10_write__23 Ps w0 u) (BB D cy (va_A w0 sz) (fun (u : va_W) => u)) (va_A w0 sz)) 0 0 (va_A w0 sz) := by
  refine Met.ofW (cc := cX10_write) (maxL := 2) (ret := none) (by decide) rfl ?_
  intro p e s m args below meth c s₁ B hml hv
  obtain ⟨rfl, hsz, hP, hK, hD0, hSD⟩ := hv
  have hx := B.exec
  have hb := B.bytes
  have hr := B.returns
  have hlocks := B.notSynchronized
  have hts : ∀ w ∈ gT, w.before _ s = true := fun w h => atoms_spec (ws := Cond.code yX10_write cX10_write 2 none :: gT) B.pre w (List.mem_cons_of_mem _ h)
  have hown : s.vm.findClass RX10 = some m.cls := findClass_of_methodNamed B.named
  subst hsz
  have hD := hD0.self (sz := s.heap.size)
  generalize hAe : va_A w0 s.heap.size = A at hD hSD ⊢
  have hA : ∀ q : Nat, s.heap.size ≤ q → A q := fun q h => by rw [← hAe]; exact Or.inr h
  have hl := lv_entry ([.ref p0, .int p1]) (n := 2) (Nat.le_of_ble_eq_true rfl)
  rw [lg_entry_eq]
  generalize (lg_sl ([.ref p0, .int p1]) ++ List.replicate (2 - (lg_sl ([.ref p0, .int p1])).length) Slot.unset).toArray = ls at hl ⊢
  have hl : lv_has ls 2 [(0, .ref p0), (1, .int p1)] := hl
  refine nameQ (fun Q hQ => ?_)
  have hw : WD D cy GG A s wr_X10_write__23 wa_X10_write__23 Ps w0 Ps w0 s.heap [] := ⟨hT, hP, hD, va_S.rf, FR.rf, hT.1, [], (List.append_nil _).symm⟩
  refine lv_aload_n hx hb dX10_write_0 rfl (lv_at hl 0 rfl) ?_
  refine tg_get (ci := 10) (ts := ty_MODEL) (C := RX10) (T := TX10) (N := 49) hx hb hts inX10 hown hK hw h_p0 rfl rfl 37 (by decide) (hts _ tw_1174) (fun _ h9 => h9) (ft := vR 51) rfl dX10_write_1 (fun u_1 hv_u_1 m_u_1 => ?_)
  obtain ⟨vu_1, rfl, h_vu_1⟩ := hv_u_1
  refine lv_aload_n hx hb dX10_write_4 rfl (lv_at hl 0 rfl) ?_
  refine tg_mem (ci := 10) (C := RX10) (T := TX10) (N := 49) hx hb hts inX10 hown hK hw 38 m_f0_38 rfl (by decide) (hts _ tw_1175) (fun _ h9 => h9) dX10_write_5 ?_
  refine lv_iload_n hx hb dX10_write_8 rfl (lv_at hl 1 rfl) ?_
  refine tg_iast hx hb hK hw h_vu_1 rfl 0 13 r_f0_38 (by decide) r_p1 (by exact fun _ _ _ => by decide) (fun _ _ _ _ _ => trivial) (by decide) dX10_write_9 (fun ws H locs hw hF9 hU9 => ?_)
  have m_f0_38 := FLD.over hF9 m_f0_38 (by decide)
  refine lv_aload_n hx hb dX10_write_10 rfl (lv_at hl 0 rfl) ?_
  refine lv_dup hx hb dX10_write_11 rfl ?_
  refine tg_mem (ci := 10) (C := RX10) (T := TX10) (N := 49) hx hb hts inX10 hown hK hw 38 m_f0_38 rfl (by decide) (hts _ tw_1175) (fun _ h9 => h9) dX10_write_12 ?_
  refine lv_iconst (v := 1) hx hb dX10_write_15 (by decide) ?_
  refine lv_iadd hx hb dX10_write_16 (lv_topi (fun v_2 e_v_2 => ?_))
  obtain ⟨t_v_2, r_v_2⟩ := tq_add (lo := 1) (hi := 14) r_f0_38 rl_1 (by decide +kernel) e_v_2
  have t_v_2 : v_2.toInt = f0_38.toInt + 1 := t_v_2
  refine tg_put (ci := 10) (ts := ty_MODEL) (v := .int v_2) (ty := .int) (C := RX10) (T := TX10) (N := 49) hx hb hts inX10 tyX10 tyX10_ok nmX10 hown hK hw h_p0 rfl rfl 38 (by decide) (hts _ tw_1175) (fun _ h9 => h9) rfl (by decide +kernel) rfl rfl (ft := vI 0 64) rfl ⟨_, rfl, (r_v_2.to (by decide))⟩ (by decide) dX10_write_17 (fun ws H locs hw n_k_3 hF9 => ?_)
  subst hQ
  exact W.vret hx hb hr (fun t ht hW => ⟨⟨ws, rfl, ⟨⟨⟨_, n_k_3, r_v_2⟩, trivial⟩, hw.1, hw.2.2.2.2.1⟩, by rw [ht]; exact hw.2.1, va_K.moved hW.alike hK, hw.2.2.1⟩, hw.2.2.2.1.F ht⟩) hw.2.2.2.1.2.2 dX10_write_20
abbrev wr_X10_write__24 : List (Nat × Nat) := [(10, 38)]
abbrev wa_X10_write__24 : List Nat := [51]
set_option maxHeartbeats 4000000 in
set_option maxRecDepth 100000 in
theorem c_X10_write__24 (l : Launch) (D : va_G) (cy : Nat → ClassId) (z : Nat → Nat) (sz : Nat) (Ps : PSI) (w0 : va_W) (hT : HT cy GG Ps w0) (p0 : Nat) (p1 : Int32) (f0_38 : Int32) (h_p0 : (p0, 55) ∈ Ps) (r_p1 : RI p1 (-2147483648) 2147483647) (r_f0_38 : RI f0_38 0 12) (m_f0_38 : FLD w0 p0 10 38 (.int f0_38)) : Met l yX10_write (Cond.code yX10_write cX10_write 2 none :: gT) ({ frames := 0, cells := 0, slots := 0, locals := 200 } : Room) (va_Pc [.ref p0, .int p1] (PRE D cy z w0 sz)) (va_Qv (fun (u : va_W) => ((∃ v9 : Int32, FLD u p0 10 38 (.int v9) ∧ RI v9 1 13) ∧ True) ∧ HT cy GG Ps u ∧ FR wr_X10_write__24 wa_X10_write__24 Ps w0 u) (BB D cy (va_A w0 sz) (fun (u : va_W) => u)) (va_A w0 sz)) 0 0 (va_A w0 sz) := by
  refine Met.ofW (cc := cX10_write) (maxL := 2) (ret := none) (by decide) rfl ?_
  intro p e s m args below meth c s₁ B hml hv
  obtain ⟨rfl, hsz, hP, hK, hD0, hSD⟩ := hv
  have hx := B.exec
  have hb := B.bytes
  have hr := B.returns
  have hlocks := B.notSynchronized
  have hts : ∀ w ∈ gT, w.before _ s = true := fun w h => atoms_spec (ws := Cond.code yX10_write cX10_write 2 none :: gT) B.pre w (List.mem_cons_of_mem _ h)
  have hown : s.vm.findClass RX10 = some m.cls := findClass_of_methodNamed B.named
  subst hsz
  have hD := hD0.self (sz := s.heap.size)
  generalize hAe : va_A w0 s.heap.size = A at hD hSD ⊢
  have hA : ∀ q : Nat, s.heap.size ≤ q → A q := fun q h => by rw [← hAe]; exact Or.inr h
  have hl := lv_entry ([.ref p0, .int p1]) (n := 2) (Nat.le_of_ble_eq_true rfl)
  rw [lg_entry_eq]
  generalize (lg_sl ([.ref p0, .int p1]) ++ List.replicate (2 - (lg_sl ([.ref p0, .int p1])).length) Slot.unset).toArray = ls at hl ⊢
  have hl : lv_has ls 2 [(0, .ref p0), (1, .int p1)] := hl
  refine nameQ (fun Q hQ => ?_)
  have hw : WD D cy GG A s wr_X10_write__24 wa_X10_write__24 Ps w0 Ps w0 s.heap [] := ⟨hT, hP, hD, va_S.rf, FR.rf, hT.1, [], (List.append_nil _).symm⟩
  refine lv_aload_n hx hb dX10_write_0 rfl (lv_at hl 0 rfl) ?_
  refine tg_get (ci := 10) (ts := ty_MODEL) (C := RX10) (T := TX10) (N := 49) hx hb hts inX10 hown hK hw h_p0 rfl rfl 37 (by decide) (hts _ tw_1174) (fun _ h9 => h9) (ft := vR 51) rfl dX10_write_1 (fun u_1 hv_u_1 m_u_1 => ?_)
  obtain ⟨vu_1, rfl, h_vu_1⟩ := hv_u_1
  refine lv_aload_n hx hb dX10_write_4 rfl (lv_at hl 0 rfl) ?_
  refine tg_mem (ci := 10) (C := RX10) (T := TX10) (N := 49) hx hb hts inX10 hown hK hw 38 m_f0_38 rfl (by decide) (hts _ tw_1175) (fun _ h9 => h9) dX10_write_5 ?_
  refine lv_iload_n hx hb dX10_write_8 rfl (lv_at hl 1 rfl) ?_
  refine tg_iast hx hb hK hw h_vu_1 rfl 0 12 r_f0_38 (by decide) r_p1 (by exact fun _ _ _ => by decide) (fun _ _ _ _ _ => trivial) (by decide) dX10_write_9 (fun ws H locs hw hF9 hU9 => ?_)
  have m_f0_38 := FLD.over hF9 m_f0_38 (by decide)
  refine lv_aload_n hx hb dX10_write_10 rfl (lv_at hl 0 rfl) ?_
  refine lv_dup hx hb dX10_write_11 rfl ?_
  refine tg_mem (ci := 10) (C := RX10) (T := TX10) (N := 49) hx hb hts inX10 hown hK hw 38 m_f0_38 rfl (by decide) (hts _ tw_1175) (fun _ h9 => h9) dX10_write_12 ?_
  refine lv_iconst (v := 1) hx hb dX10_write_15 (by decide) ?_
  refine lv_iadd hx hb dX10_write_16 (lv_topi (fun v_2 e_v_2 => ?_))
  obtain ⟨t_v_2, r_v_2⟩ := tq_add (lo := 1) (hi := 13) r_f0_38 rl_1 (by decide +kernel) e_v_2
  have t_v_2 : v_2.toInt = f0_38.toInt + 1 := t_v_2
  refine tg_put (ci := 10) (ts := ty_MODEL) (v := .int v_2) (ty := .int) (C := RX10) (T := TX10) (N := 49) hx hb hts inX10 tyX10 tyX10_ok nmX10 hown hK hw h_p0 rfl rfl 38 (by decide) (hts _ tw_1175) (fun _ h9 => h9) rfl (by decide +kernel) rfl rfl (ft := vI 0 64) rfl ⟨_, rfl, (r_v_2.to (by decide))⟩ (by decide) dX10_write_17 (fun ws H locs hw n_k_3 hF9 => ?_)
  subst hQ
  exact W.vret hx hb hr (fun t ht hW => ⟨⟨ws, rfl, ⟨⟨⟨_, n_k_3, r_v_2⟩, trivial⟩, hw.1, hw.2.2.2.2.1⟩, by rw [ht]; exact hw.2.1, va_K.moved hW.alike hK, hw.2.2.1⟩, hw.2.2.2.1.F ht⟩) hw.2.2.2.1.2.2 dX10_write_20
abbrev wr_X10_write__25 : List (Nat × Nat) := [(10, 38)]
abbrev wa_X10_write__25 : List Nat := [51]
set_option maxHeartbeats 4000000 in
set_option maxRecDepth 100000 in
theorem c_X10_write__25 (l : Launch) (D : va_G) (cy : Nat → ClassId) (z : Nat → Nat) (sz : Nat) (Ps : PSI) (w0 : va_W) (hT : HT cy GG Ps w0) (p0 : Nat) (p1 : Int32) (f0_38 : Int32) (h_p0 : (p0, 55) ∈ Ps) (r_p1 : RI p1 (-2147483648) 2147483647) (r_f0_38 : RI f0_38 0 11) (m_f0_38 : FLD w0 p0 10 38 (.int f0_38)) : Met l yX10_write (Cond.code yX10_write cX10_write 2 none :: gT) ({ frames := 0, cells := 0, slots := 0, locals := 200 } : Room) (va_Pc [.ref p0, .int p1] (PRE D cy z w0 sz)) (va_Qv (fun (u : va_W) => ((∃ v9 : Int32, FLD u p0 10 38 (.int v9) ∧ RI v9 1 12) ∧ True) ∧ HT cy GG Ps u ∧ FR wr_X10_write__25 wa_X10_write__25 Ps w0 u) (BB D cy (va_A w0 sz) (fun (u : va_W) => u)) (va_A w0 sz)) 0 0 (va_A w0 sz) := by
  refine Met.ofW (cc := cX10_write) (maxL := 2) (ret := none) (by decide) rfl ?_
  intro p e s m args below meth c s₁ B hml hv
  obtain ⟨rfl, hsz, hP, hK, hD0, hSD⟩ := hv
  have hx := B.exec
  have hb := B.bytes
  have hr := B.returns
  have hlocks := B.notSynchronized
  have hts : ∀ w ∈ gT, w.before _ s = true := fun w h => atoms_spec (ws := Cond.code yX10_write cX10_write 2 none :: gT) B.pre w (List.mem_cons_of_mem _ h)
  have hown : s.vm.findClass RX10 = some m.cls := findClass_of_methodNamed B.named
  subst hsz
  have hD := hD0.self (sz := s.heap.size)
  generalize hAe : va_A w0 s.heap.size = A at hD hSD ⊢
  have hA : ∀ q : Nat, s.heap.size ≤ q → A q := fun q h => by rw [← hAe]; exact Or.inr h
  have hl := lv_entry ([.ref p0, .int p1]) (n := 2) (Nat.le_of_ble_eq_true rfl)
  rw [lg_entry_eq]
  generalize (lg_sl ([.ref p0, .int p1]) ++ List.replicate (2 - (lg_sl ([.ref p0, .int p1])).length) Slot.unset).toArray = ls at hl ⊢
  have hl : lv_has ls 2 [(0, .ref p0), (1, .int p1)] := hl
  refine nameQ (fun Q hQ => ?_)
  have hw : WD D cy GG A s wr_X10_write__25 wa_X10_write__25 Ps w0 Ps w0 s.heap [] := ⟨hT, hP, hD, va_S.rf, FR.rf, hT.1, [], (List.append_nil _).symm⟩
  refine lv_aload_n hx hb dX10_write_0 rfl (lv_at hl 0 rfl) ?_
  refine tg_get (ci := 10) (ts := ty_MODEL) (C := RX10) (T := TX10) (N := 49) hx hb hts inX10 hown hK hw h_p0 rfl rfl 37 (by decide) (hts _ tw_1174) (fun _ h9 => h9) (ft := vR 51) rfl dX10_write_1 (fun u_1 hv_u_1 m_u_1 => ?_)
  obtain ⟨vu_1, rfl, h_vu_1⟩ := hv_u_1
  refine lv_aload_n hx hb dX10_write_4 rfl (lv_at hl 0 rfl) ?_
  refine tg_mem (ci := 10) (C := RX10) (T := TX10) (N := 49) hx hb hts inX10 hown hK hw 38 m_f0_38 rfl (by decide) (hts _ tw_1175) (fun _ h9 => h9) dX10_write_5 ?_
  refine lv_iload_n hx hb dX10_write_8 rfl (lv_at hl 1 rfl) ?_
  refine tg_iast hx hb hK hw h_vu_1 rfl 0 11 r_f0_38 (by decide) r_p1 (by exact fun _ _ _ => by decide) (fun _ _ _ _ _ => trivial) (by decide) dX10_write_9 (fun ws H locs hw hF9 hU9 => ?_)
  have m_f0_38 := FLD.over hF9 m_f0_38 (by decide)
  refine lv_aload_n hx hb dX10_write_10 rfl (lv_at hl 0 rfl) ?_
  refine lv_dup hx hb dX10_write_11 rfl ?_
  refine tg_mem (ci := 10) (C := RX10) (T := TX10) (N := 49) hx hb hts inX10 hown hK hw 38 m_f0_38 rfl (by decide) (hts _ tw_1175) (fun _ h9 => h9) dX10_write_12 ?_
  refine lv_iconst (v := 1) hx hb dX10_write_15 (by decide) ?_
  refine lv_iadd hx hb dX10_write_16 (lv_topi (fun v_2 e_v_2 => ?_))
  obtain ⟨t_v_2, r_v_2⟩ := tq_add (lo := 1) (hi := 12) r_f0_38 rl_1 (by decide +kernel) e_v_2
  have t_v_2 : v_2.toInt = f0_38.toInt + 1 := t_v_2
  refine tg_put (ci := 10) (ts := ty_MODEL) (v := .int v_2) (ty := .int) (C := RX10) (T := TX10) (N := 49) hx hb hts inX10 tyX10 tyX10_ok nmX10 hown hK hw h_p0 rfl rfl 38 (by decide) (hts _ tw_1175) (fun _ h9 => h9) rfl (by decide +kernel) rfl rfl (ft := vI 0 64) rfl ⟨_, rfl, (r_v_2.to (by decide))⟩ (by decide) dX10_write_17 (fun ws H locs hw n_k_3 hF9 => ?_)
  subst hQ
  exact W.vret hx hb hr (fun t ht hW => ⟨⟨ws, rfl, ⟨⟨⟨_, n_k_3, r_v_2⟩, trivial⟩, hw.1, hw.2.2.2.2.1⟩, by rw [ht]; exact hw.2.1, va_K.moved hW.alike hK, hw.2.2.1⟩, hw.2.2.2.1.F ht⟩) hw.2.2.2.1.2.2 dX10_write_20
abbrev wr_X10_write__26 : List (Nat × Nat) := [(10, 38)]
abbrev wa_X10_write__26 : List Nat := [51]
set_option maxHeartbeats 4000000 in
set_option maxRecDepth 100000 in
theorem c_X10_write__26 (l : Launch) (D : va_G) (cy : Nat → ClassId) (z : Nat → Nat) (sz : Nat) (Ps : PSI) (w0 : va_W) (hT : HT cy GG Ps w0) (p0 : Nat) (p1 : Int32) (f0_38 : Int32) (h_p0 : (p0, 55) ∈ Ps) (r_p1 : RI p1 (-2147483648) 2147483647) (r_f0_38 : RI f0_38 0 10) (m_f0_38 : FLD w0 p0 10 38 (.int f0_38)) : Met l yX10_write (Cond.code yX10_write cX10_write 2 none :: gT) ({ frames := 0, cells := 0, slots := 0, locals := 200 } : Room) (va_Pc [.ref p0, .int p1] (PRE D cy z w0 sz)) (va_Qv (fun (u : va_W) => ((∃ v9 : Int32, FLD u p0 10 38 (.int v9) ∧ RI v9 1 11) ∧ True) ∧ HT cy GG Ps u ∧ FR wr_X10_write__26 wa_X10_write__26 Ps w0 u) (BB D cy (va_A w0 sz) (fun (u : va_W) => u)) (va_A w0 sz)) 0 0 (va_A w0 sz) := by
  refine Met.ofW (cc := cX10_write) (maxL := 2) (ret := none) (by decide) rfl ?_
  intro p e s m args below meth c s₁ B hml hv
  obtain ⟨rfl, hsz, hP, hK, hD0, hSD⟩ := hv
  have hx := B.exec
  have hb := B.bytes
  have hr := B.returns
  have hlocks := B.notSynchronized
  have hts : ∀ w ∈ gT, w.before _ s = true := fun w h => atoms_spec (ws := Cond.code yX10_write cX10_write 2 none :: gT) B.pre w (List.mem_cons_of_mem _ h)
  have hown : s.vm.findClass RX10 = some m.cls := findClass_of_methodNamed B.named
  subst hsz
  have hD := hD0.self (sz := s.heap.size)
  generalize hAe : va_A w0 s.heap.size = A at hD hSD ⊢
  have hA : ∀ q : Nat, s.heap.size ≤ q → A q := fun q h => by rw [← hAe]; exact Or.inr h
  have hl := lv_entry ([.ref p0, .int p1]) (n := 2) (Nat.le_of_ble_eq_true rfl)
  rw [lg_entry_eq]
  generalize (lg_sl ([.ref p0, .int p1]) ++ List.replicate (2 - (lg_sl ([.ref p0, .int p1])).length) Slot.unset).toArray = ls at hl ⊢
  have hl : lv_has ls 2 [(0, .ref p0), (1, .int p1)] := hl
  refine nameQ (fun Q hQ => ?_)
  have hw : WD D cy GG A s wr_X10_write__26 wa_X10_write__26 Ps w0 Ps w0 s.heap [] := ⟨hT, hP, hD, va_S.rf, FR.rf, hT.1, [], (List.append_nil _).symm⟩
  refine lv_aload_n hx hb dX10_write_0 rfl (lv_at hl 0 rfl) ?_
  refine tg_get (ci := 10) (ts := ty_MODEL) (C := RX10) (T := TX10) (N := 49) hx hb hts inX10 hown hK hw h_p0 rfl rfl 37 (by decide) (hts _ tw_1174) (fun _ h9 => h9) (ft := vR 51) rfl dX10_write_1 (fun u_1 hv_u_1 m_u_1 => ?_)
  obtain ⟨vu_1, rfl, h_vu_1⟩ := hv_u_1
  refine lv_aload_n hx hb dX10_write_4 rfl (lv_at hl 0 rfl) ?_
  refine tg_mem (ci := 10) (C := RX10) (T := TX10) (N := 49) hx hb hts inX10 hown hK hw 38 m_f0_38 rfl (by decide) (hts _ tw_1175) (fun _ h9 => h9) dX10_write_5 ?_
  refine lv_iload_n hx hb dX10_write_8 rfl (lv_at hl 1 rfl) ?_
  refine tg_iast hx hb hK hw h_vu_1 rfl 0 10 r_f0_38 (by decide) r_p1 (by exact fun _ _ _ => by decide) (fun _ _ _ _ _ => trivial) (by decide) dX10_write_9 (fun ws H locs hw hF9 hU9 => ?_)
  have m_f0_38 := FLD.over hF9 m_f0_38 (by decide)
  refine lv_aload_n hx hb dX10_write_10 rfl (lv_at hl 0 rfl) ?_
  refine lv_dup hx hb dX10_write_11 rfl ?_
  refine tg_mem (ci := 10) (C := RX10) (T := TX10) (N := 49) hx hb hts inX10 hown hK hw 38 m_f0_38 rfl (by decide) (hts _ tw_1175) (fun _ h9 => h9) dX10_write_12 ?_
  refine lv_iconst (v := 1) hx hb dX10_write_15 (by decide) ?_
  refine lv_iadd hx hb dX10_write_16 (lv_topi (fun v_2 e_v_2 => ?_))
  obtain ⟨t_v_2, r_v_2⟩ := tq_add (lo := 1) (hi := 11) r_f0_38 rl_1 (by decide +kernel) e_v_2
  have t_v_2 : v_2.toInt = f0_38.toInt + 1 := t_v_2
  refine tg_put (ci := 10) (ts := ty_MODEL) (v := .int v_2) (ty := .int) (C := RX10) (T := TX10) (N := 49) hx hb hts inX10 tyX10 tyX10_ok nmX10 hown hK hw h_p0 rfl rfl 38 (by decide) (hts _ tw_1175) (fun _ h9 => h9) rfl (by decide +kernel) rfl rfl (ft := vI 0 64) rfl ⟨_, rfl, (r_v_2.to (by decide))⟩ (by decide) dX10_write_17 (fun ws H locs hw n_k_3 hF9 => ?_)
  subst hQ
  exact W.vret hx hb hr (fun t ht hW => ⟨⟨ws, rfl, ⟨⟨⟨_, n_k_3, r_v_2⟩, trivial⟩, hw.1, hw.2.2.2.2.1⟩, by rw [ht]; exact hw.2.1, va_K.moved hW.alike hK, hw.2.2.1⟩, hw.2.2.2.1.F ht⟩) hw.2.2.2.1.2.2 dX10_write_20
abbrev wr_X10_write__27 : List (Nat × Nat) := [(10, 38)]
abbrev wa_X10_write__27 : List Nat := [51]
set_option maxHeartbeats 4000000 in
set_option maxRecDepth 100000 in
theorem c_X10_write__27 (l : Launch) (D : va_G) (cy : Nat → ClassId) (z : Nat → Nat) (sz : Nat) (Ps : PSI) (w0 : va_W) (hT : HT cy GG Ps w0) (p0 : Nat) (p1 : Int32) (f0_38 : Int32) (h_p0 : (p0, 55) ∈ Ps) (r_p1 : RI p1 (-2147483648) 2147483647) (r_f0_38 : RI f0_38 0 9) (m_f0_38 : FLD w0 p0 10 38 (.int f0_38)) : Met l yX10_write (Cond.code yX10_write cX10_write 2 none :: gT) ({ frames := 0, cells := 0, slots := 0, locals := 200 } : Room) (va_Pc [.ref p0, .int p1] (PRE D cy z w0 sz)) (va_Qv (fun (u : va_W) => ((∃ v9 : Int32, FLD u p0 10 38 (.int v9) ∧ RI v9 1 10) ∧ True) ∧ HT cy GG Ps u ∧ FR wr_X10_write__27 wa_X10_write__27 Ps w0 u) (BB D cy (va_A w0 sz) (fun (u : va_W) => u)) (va_A w0 sz)) 0 0 (va_A w0 sz) := by
  refine Met.ofW (cc := cX10_write) (maxL := 2) (ret := none) (by decide) rfl ?_
  intro p e s m args below meth c s₁ B hml hv
  obtain ⟨rfl, hsz, hP, hK, hD0, hSD⟩ := hv
  have hx := B.exec
  have hb := B.bytes
  have hr := B.returns
  have hlocks := B.notSynchronized
  have hts : ∀ w ∈ gT, w.before _ s = true := fun w h => atoms_spec (ws := Cond.code yX10_write cX10_write 2 none :: gT) B.pre w (List.mem_cons_of_mem _ h)
  have hown : s.vm.findClass RX10 = some m.cls := findClass_of_methodNamed B.named
  subst hsz
  have hD := hD0.self (sz := s.heap.size)
  generalize hAe : va_A w0 s.heap.size = A at hD hSD ⊢
  have hA : ∀ q : Nat, s.heap.size ≤ q → A q := fun q h => by rw [← hAe]; exact Or.inr h
  have hl := lv_entry ([.ref p0, .int p1]) (n := 2) (Nat.le_of_ble_eq_true rfl)
  rw [lg_entry_eq]
  generalize (lg_sl ([.ref p0, .int p1]) ++ List.replicate (2 - (lg_sl ([.ref p0, .int p1])).length) Slot.unset).toArray = ls at hl ⊢
  have hl : lv_has ls 2 [(0, .ref p0), (1, .int p1)] := hl
  refine nameQ (fun Q hQ => ?_)
  have hw : WD D cy GG A s wr_X10_write__27 wa_X10_write__27 Ps w0 Ps w0 s.heap [] := ⟨hT, hP, hD, va_S.rf, FR.rf, hT.1, [], (List.append_nil _).symm⟩
  refine lv_aload_n hx hb dX10_write_0 rfl (lv_at hl 0 rfl) ?_
  refine tg_get (ci := 10) (ts := ty_MODEL) (C := RX10) (T := TX10) (N := 49) hx hb hts inX10 hown hK hw h_p0 rfl rfl 37 (by decide) (hts _ tw_1174) (fun _ h9 => h9) (ft := vR 51) rfl dX10_write_1 (fun u_1 hv_u_1 m_u_1 => ?_)
  obtain ⟨vu_1, rfl, h_vu_1⟩ := hv_u_1
  refine lv_aload_n hx hb dX10_write_4 rfl (lv_at hl 0 rfl) ?_
  refine tg_mem (ci := 10) (C := RX10) (T := TX10) (N := 49) hx hb hts inX10 hown hK hw 38 m_f0_38 rfl (by decide) (hts _ tw_1175) (fun _ h9 => h9) dX10_write_5 ?_
  refine lv_iload_n hx hb dX10_write_8 rfl (lv_at hl 1 rfl) ?_
  refine tg_iast hx hb hK hw h_vu_1 rfl 0 9 r_f0_38 (by decide) r_p1 (by exact fun _ _ _ => by decide) (fun _ _ _ _ _ => trivial) (by decide) dX10_write_9 (fun ws H locs hw hF9 hU9 => ?_)
  have m_f0_38 := FLD.over hF9 m_f0_38 (by decide)
  refine lv_aload_n hx hb dX10_write_10 rfl (lv_at hl 0 rfl) ?_
  refine lv_dup hx hb dX10_write_11 rfl ?_
  refine tg_mem (ci := 10) (C := RX10) (T := TX10) (N := 49) hx hb hts inX10 hown hK hw 38 m_f0_38 rfl (by decide) (hts _ tw_1175) (fun _ h9 => h9) dX10_write_12 ?_
  refine lv_iconst (v := 1) hx hb dX10_write_15 (by decide) ?_
  refine lv_iadd hx hb dX10_write_16 (lv_topi (fun v_2 e_v_2 => ?_))
  obtain ⟨t_v_2, r_v_2⟩ := tq_add (lo := 1) (hi := 10) r_f0_38 rl_1 (by decide +kernel) e_v_2
  have t_v_2 : v_2.toInt = f0_38.toInt + 1 := t_v_2
  refine tg_put (ci := 10) (ts := ty_MODEL) (v := .int v_2) (ty := .int) (C := RX10) (T := TX10) (N := 49) hx hb hts inX10 tyX10 tyX10_ok nmX10 hown hK hw h_p0 rfl rfl 38 (by decide) (hts _ tw_1175) (fun _ h9 => h9) rfl (by decide +kernel) rfl rfl (ft := vI 0 64) rfl ⟨_, rfl, (r_v_2.to (by decide))⟩ (by decide) dX10_write_17 (fun ws H locs hw n_k_3 hF9 => ?_)
  subst hQ
  exact W.vret hx hb hr (fun t ht hW => ⟨⟨ws, rfl, ⟨⟨⟨_, n_k_3, r_v_2⟩, trivial⟩, hw.1, hw.2.2.2.2.1⟩, by rw [ht]; exact hw.2.1, va_K.moved hW.alike hK, hw.2.2.1⟩, hw.2.2.2.1.F ht⟩) hw.2.2.2.1.2.2 dX10_write_20
abbrev wr_X10_write__28 : List (Nat × Nat) := [(10, 38)]
abbrev wa_X10_write__28 : List Nat := [51]
set_option maxHeartbeats 4000000 in
set_option maxRecDepth 100000 in
theorem c_X10_write__28 (l : Launch) (D : va_G) (cy : Nat → ClassId) (z : Nat → Nat) (sz : Nat) (Ps : PSI) (w0 : va_W) (hT : HT cy GG Ps w0) (p0 : Nat) (p1 : Int32) (f0_38 : Int32) (h_p0 : (p0, 55) ∈ Ps) (r_p1 : RI p1 (-2147483648) 2147483647) (r_f0_38 : RI f0_38 0 8) (m_f0_38 : FLD w0 p0 10 38 (.int f0_38)) : Met l yX10_write (Cond.code yX10_write cX10_write 2 none :: gT) ({ frames := 0, cells := 0, slots := 0, locals := 200 } : Room) (va_Pc [.ref p0, .int p1] (PRE D cy z w0 sz)) (va_Qv (fun (u : va_W) => ((∃ v9 : Int32, FLD u p0 10 38 (.int v9) ∧ RI v9 1 9) ∧ True) ∧ HT cy GG Ps u ∧ FR wr_X10_write__28 wa_X10_write__28 Ps w0 u) (BB D cy (va_A w0 sz) (fun (u : va_W) => u)) (va_A w0 sz)) 0 0 (va_A w0 sz) := by
  refine Met.ofW (cc := cX10_write) (maxL := 2) (ret := none) (by decide) rfl ?_
  intro p e s m args below meth c s₁ B hml hv
  obtain ⟨rfl, hsz, hP, hK, hD0, hSD⟩ := hv
  have hx := B.exec
  have hb := B.bytes
  have hr := B.returns
  have hlocks := B.notSynchronized
  have hts : ∀ w ∈ gT, w.before _ s = true := fun w h => atoms_spec (ws := Cond.code yX10_write cX10_write 2 none :: gT) B.pre w (List.mem_cons_of_mem _ h)
  have hown : s.vm.findClass RX10 = some m.cls := findClass_of_methodNamed B.named
  subst hsz
  have hD := hD0.self (sz := s.heap.size)
  generalize hAe : va_A w0 s.heap.size = A at hD hSD ⊢
  have hA : ∀ q : Nat, s.heap.size ≤ q → A q := fun q h => by rw [← hAe]; exact Or.inr h
  have hl := lv_entry ([.ref p0, .int p1]) (n := 2) (Nat.le_of_ble_eq_true rfl)
  rw [lg_entry_eq]
  generalize (lg_sl ([.ref p0, .int p1]) ++ List.replicate (2 - (lg_sl ([.ref p0, .int p1])).length) Slot.unset).toArray = ls at hl ⊢
  have hl : lv_has ls 2 [(0, .ref p0), (1, .int p1)] := hl
  refine nameQ (fun Q hQ => ?_)
  have hw : WD D cy GG A s wr_X10_write__28 wa_X10_write__28 Ps w0 Ps w0 s.heap [] := ⟨hT, hP, hD, va_S.rf, FR.rf, hT.1, [], (List.append_nil _).symm⟩
  refine lv_aload_n hx hb dX10_write_0 rfl (lv_at hl 0 rfl) ?_
  refine tg_get (ci := 10) (ts := ty_MODEL) (C := RX10) (T := TX10) (N := 49) hx hb hts inX10 hown hK hw h_p0 rfl rfl 37 (by decide) (hts _ tw_1174) (fun _ h9 => h9) (ft := vR 51) rfl dX10_write_1 (fun u_1 hv_u_1 m_u_1 => ?_)
  obtain ⟨vu_1, rfl, h_vu_1⟩ := hv_u_1
  refine lv_aload_n hx hb dX10_write_4 rfl (lv_at hl 0 rfl) ?_
  refine tg_mem (ci := 10) (C := RX10) (T := TX10) (N := 49) hx hb hts inX10 hown hK hw 38 m_f0_38 rfl (by decide) (hts _ tw_1175) (fun _ h9 => h9) dX10_write_5 ?_
  refine lv_iload_n hx hb dX10_write_8 rfl (lv_at hl 1 rfl) ?_
  refine tg_iast hx hb hK hw h_vu_1 rfl 0 8 r_f0_38 (by decide) r_p1 (by exact fun _ _ _ => by decide) (fun _ _ _ _ _ => trivial) (by decide) dX10_write_9 (fun ws H locs hw hF9 hU9 => ?_)
  have m_f0_38 := FLD.over hF9 m_f0_38 (by decide)
  refine lv_aload_n hx hb dX10_write_10 rfl (lv_at hl 0 rfl) ?_
  refine lv_dup hx hb dX10_write_11 rfl ?_
  refine tg_mem (ci := 10) (C := RX10) (T := TX10) (N := 49) hx hb hts inX10 hown hK hw 38 m_f0_38 rfl (by decide) (hts _ tw_1175) (fun _ h9 => h9) dX10_write_12 ?_
  refine lv_iconst (v := 1) hx hb dX10_write_15 (by decide) ?_
  refine lv_iadd hx hb dX10_write_16 (lv_topi (fun v_2 e_v_2 => ?_))
  obtain ⟨t_v_2, r_v_2⟩ := tq_add (lo := 1) (hi := 9) r_f0_38 rl_1 (by decide +kernel) e_v_2
  have t_v_2 : v_2.toInt = f0_38.toInt + 1 := t_v_2
  refine tg_put (ci := 10) (ts := ty_MODEL) (v := .int v_2) (ty := .int) (C := RX10) (T := TX10) (N := 49) hx hb hts inX10 tyX10 tyX10_ok nmX10 hown hK hw h_p0 rfl rfl 38 (by decide) (hts _ tw_1175) (fun _ h9 => h9) rfl (by decide +kernel) rfl rfl (ft := vI 0 64) rfl ⟨_, rfl, (r_v_2.to (by decide))⟩ (by decide) dX10_write_17 (fun ws H locs hw n_k_3 hF9 => ?_)
  subst hQ
  exact W.vret hx hb hr (fun t ht hW => ⟨⟨ws, rfl, ⟨⟨⟨_, n_k_3, r_v_2⟩, trivial⟩, hw.1, hw.2.2.2.2.1⟩, by rw [ht]; exact hw.2.1, va_K.moved hW.alike hK, hw.2.2.1⟩, hw.2.2.2.1.F ht⟩) hw.2.2.2.1.2.2 dX10_write_20
abbrev wr_X10_write__29 : List (Nat × Nat) := [(10, 38)]
abbrev wa_X10_write__29 : List Nat := [51]
set_option maxHeartbeats 4000000 in
set_option maxRecDepth 100000 in
theorem c_X10_write__29 (l : Launch) (D : va_G) (cy : Nat → ClassId) (z : Nat → Nat) (sz : Nat) (Ps : PSI) (w0 : va_W) (hT : HT cy GG Ps w0) (p0 : Nat) (p1 : Int32) (f0_38 : Int32) (h_p0 : (p0, 55) ∈ Ps) (r_p1 : RI p1 (-2147483648) 2147483647) (r_f0_38 : RI f0_38 0 7) (m_f0_38 : FLD w0 p0 10 38 (.int f0_38)) : Met l yX10_write (Cond.code yX10_write cX10_write 2 none :: gT) ({ frames := 0, cells := 0, slots := 0, locals := 200 } : Room) (va_Pc [.ref p0, .int p1] (PRE D cy z w0 sz)) (va_Qv (fun (u : va_W) => ((∃ v9 : Int32, FLD u p0 10 38 (.int v9) ∧ RI v9 1 8) ∧ True) ∧ HT cy GG Ps u ∧ FR wr_X10_write__29 wa_X10_write__29 Ps w0 u) (BB D cy (va_A w0 sz) (fun (u : va_W) => u)) (va_A w0 sz)) 0 0 (va_A w0 sz) := by
  refine Met.ofW (cc := cX10_write) (maxL := 2) (ret := none) (by decide) rfl ?_
  intro p e s m args below meth c s₁ B hml hv
  obtain ⟨rfl, hsz, hP, hK, hD0, hSD⟩ := hv
  have hx := B.exec
  have hb := B.bytes
  have hr := B.returns
  have hlocks := B.notSynchronized
  have hts : ∀ w ∈ gT, w.before _ s = true := fun w h => atoms_spec (ws := Cond.code yX10_write cX10_write 2 none :: gT) B.pre w (List.mem_cons_of_mem _ h)
  have hown : s.vm.findClass RX10 = some m.cls := findClass_of_methodNamed B.named
  subst hsz
  have hD := hD0.self (sz := s.heap.size)
  generalize hAe : va_A w0 s.heap.size = A at hD hSD ⊢
  have hA : ∀ q : Nat, s.heap.size ≤ q → A q := fun q h => by rw [← hAe]; exact Or.inr h
  have hl := lv_entry ([.ref p0, .int p1]) (n := 2) (Nat.le_of_ble_eq_true rfl)
  rw [lg_entry_eq]
  generalize (lg_sl ([.ref p0, .int p1]) ++ List.replicate (2 - (lg_sl ([.ref p0, .int p1])).length) Slot.unset).toArray = ls at hl ⊢
  have hl : lv_has ls 2 [(0, .ref p0), (1, .int p1)] := hl
  refine nameQ (fun Q hQ => ?_)
  have hw : WD D cy GG A s wr_X10_write__29 wa_X10_write__29 Ps w0 Ps w0 s.heap [] := ⟨hT, hP, hD, va_S.rf, FR.rf, hT.1, [], (List.append_nil _).symm⟩
  refine lv_aload_n hx hb dX10_write_0 rfl (lv_at hl 0 rfl) ?_
  refine tg_get (ci := 10) (ts := ty_MODEL) (C := RX10) (T := TX10) (N := 49) hx hb hts inX10 hown hK hw h_p0 rfl rfl 37 (by decide) (hts _ tw_1174) (fun _ h9 => h9) (ft := vR 51) rfl dX10_write_1 (fun u_1 hv_u_1 m_u_1 => ?_)
  obtain ⟨vu_1, rfl, h_vu_1⟩ := hv_u_1
  refine lv_aload_n hx hb dX10_write_4 rfl (lv_at hl 0 rfl) ?_
  refine tg_mem (ci := 10) (C := RX10) (T := TX10) (N := 49) hx hb hts inX10 hown hK hw 38 m_f0_38 rfl (by decide) (hts _ tw_1175) (fun _ h9 => h9) dX10_write_5 ?_
  refine lv_iload_n hx hb dX10_write_8 rfl (lv_at hl 1 rfl) ?_
  refine tg_iast hx hb hK hw h_vu_1 rfl 0 7 r_f0_38 (by decide) r_p1 (by exact fun _ _ _ => by decide) (fun _ _ _ _ _ => trivial) (by decide) dX10_write_9 (fun ws H locs hw hF9 hU9 => ?_)
  have m_f0_38 := FLD.over hF9 m_f0_38 (by decide)
  refine lv_aload_n hx hb dX10_write_10 rfl (lv_at hl 0 rfl) ?_
  refine lv_dup hx hb dX10_write_11 rfl ?_
  refine tg_mem (ci := 10) (C := RX10) (T := TX10) (N := 49) hx hb hts inX10 hown hK hw 38 m_f0_38 rfl (by decide) (hts _ tw_1175) (fun _ h9 => h9) dX10_write_12 ?_
  refine lv_iconst (v := 1) hx hb dX10_write_15 (by decide) ?_
  refine lv_iadd hx hb dX10_write_16 (lv_topi (fun v_2 e_v_2 => ?_))
  obtain ⟨t_v_2, r_v_2⟩ := tq_add (lo := 1) (hi := 8) r_f0_38 rl_1 (by decide +kernel) e_v_2
  have t_v_2 : v_2.toInt = f0_38.toInt + 1 := t_v_2
  refine tg_put (ci := 10) (ts := ty_MODEL) (v := .int v_2) (ty := .int) (C := RX10) (T := TX10) (N := 49) hx hb hts inX10 tyX10 tyX10_ok nmX10 hown hK hw h_p0 rfl rfl 38 (by decide) (hts _ tw_1175) (fun _ h9 => h9) rfl (by decide +kernel) rfl rfl (ft := vI 0 64) rfl ⟨_, rfl, (r_v_2.to (by decide))⟩ (by decide) dX10_write_17 (fun ws H locs hw n_k_3 hF9 => ?_)
  subst hQ
  exact W.vret hx hb hr (fun t ht hW => ⟨⟨ws, rfl, ⟨⟨⟨_, n_k_3, r_v_2⟩, trivial⟩, hw.1, hw.2.2.2.2.1⟩, by rw [ht]; exact hw.2.1, va_K.moved hW.alike hK, hw.2.2.1⟩, hw.2.2.2.1.F ht⟩) hw.2.2.2.1.2.2 dX10_write_20
abbrev wr_X10_write__30 : List (Nat × Nat) := [(10, 38)]
abbrev wa_X10_write__30 : List Nat := [51]
set_option maxHeartbeats 4000000 in
set_option maxRecDepth 100000 in
theorem c_X10_write__30 (l : Launch) (D : va_G) (cy : Nat → ClassId) (z : Nat → Nat) (sz : Nat) (Ps : PSI) (w0 : va_W) (hT : HT cy GG Ps w0) (p0 : Nat) (p1 : Int32) (f0_38 : Int32) (h_p0 : (p0, 55) ∈ Ps) (r_p1 : RI p1 (-2147483648) 2147483647) (r_f0_38 : RI f0_38 0 6) (m_f0_38 : FLD w0 p0 10 38 (.int f0_38)) : Met l yX10_write (Cond.code yX10_write cX10_write 2 none :: gT) ({ frames := 0, cells := 0, slots := 0, locals := 200 } : Room) (va_Pc [.ref p0, .int p1] (PRE D cy z w0 sz)) (va_Qv (fun (u : va_W) => ((∃ v9 : Int32, FLD u p0 10 38 (.int v9) ∧ RI v9 1 7) ∧ True) ∧ HT cy GG Ps u ∧ FR wr_X10_write__30 wa_X10_write__30 Ps w0 u) (BB D cy (va_A w0 sz) (fun (u : va_W) => u)) (va_A w0 sz)) 0 0 (va_A w0 sz) := by
  refine Met.ofW (cc := cX10_write) (maxL := 2) (ret := none) (by decide) rfl ?_
  intro p e s m args below meth c s₁ B hml hv
  obtain ⟨rfl, hsz, hP, hK, hD0, hSD⟩ := hv
  have hx := B.exec
  have hb := B.bytes
  have hr := B.returns
  have hlocks := B.notSynchronized
  have hts : ∀ w ∈ gT, w.before _ s = true := fun w h => atoms_spec (ws := Cond.code yX10_write cX10_write 2 none :: gT) B.pre w (List.mem_cons_of_mem _ h)
  have hown : s.vm.findClass RX10 = some m.cls := findClass_of_methodNamed B.named
  subst hsz
  have hD := hD0.self (sz := s.heap.size)
  generalize hAe : va_A w0 s.heap.size = A at hD hSD ⊢
  have hA : ∀ q : Nat, s.heap.size ≤ q → A q := fun q h => by rw [← hAe]; exact Or.inr h
  have hl := lv_entry ([.ref p0, .int p1]) (n := 2) (Nat.le_of_ble_eq_true rfl)
  rw [lg_entry_eq]
  generalize (lg_sl ([.ref p0, .int p1]) ++ List.replicate (2 - (lg_sl ([.ref p0, .int p1])).length) Slot.unset).toArray = ls at hl ⊢
  have hl : lv_has ls 2 [(0, .ref p0), (1, .int p1)] := hl
  refine nameQ (fun Q hQ => ?_)
  have hw : WD D cy GG A s wr_X10_write__30 wa_X10_write__30 Ps w0 Ps w0 s.heap [] := ⟨hT, hP, hD, va_S.rf, FR.rf, hT.1, [], (List.append_nil _).symm⟩
  refine lv_aload_n hx hb dX10_write_0 rfl (lv_at hl 0 rfl) ?_
  refine tg_get (ci := 10) (ts := ty_MODEL) (C := RX10) (T := TX10) (N := 49) hx hb hts inX10 hown hK hw h_p0 rfl rfl 37 (by decide) (hts _ tw_1174) (fun _ h9 => h9) (ft := vR 51) rfl dX10_write_1 (fun u_1 hv_u_1 m_u_1 => ?_)
  obtain ⟨vu_1, rfl, h_vu_1⟩ := hv_u_1
  refine lv_aload_n hx hb dX10_write_4 rfl (lv_at hl 0 rfl) ?_
  refine tg_mem (ci := 10) (C := RX10) (T := TX10) (N := 49) hx hb hts inX10 hown hK hw 38 m_f0_38 rfl (by decide) (hts _ tw_1175) (fun _ h9 => h9) dX10_write_5 ?_
  refine lv_iload_n hx hb dX10_write_8 rfl (lv_at hl 1 rfl) ?_
  refine tg_iast hx hb hK hw h_vu_1 rfl 0 6 r_f0_38 (by decide) r_p1 (by exact fun _ _ _ => by decide) (fun _ _ _ _ _ => trivial) (by decide) dX10_write_9 (fun ws H locs hw hF9 hU9 => ?_)
  have m_f0_38 := FLD.over hF9 m_f0_38 (by decide)
  refine lv_aload_n hx hb dX10_write_10 rfl (lv_at hl 0 rfl) ?_
  refine lv_dup hx hb dX10_write_11 rfl ?_
  refine tg_mem (ci := 10) (C := RX10) (T := TX10) (N := 49) hx hb hts inX10 hown hK hw 38 m_f0_38 rfl (by decide) (hts _ tw_1175) (fun _ h9 => h9) dX10_write_12 ?_
  refine lv_iconst (v := 1) hx hb dX10_write_15 (by decide) ?_
  refine lv_iadd hx hb dX10_write_16 (lv_topi (fun v_2 e_v_2 => ?_))
  obtain ⟨t_v_2, r_v_2⟩ := tq_add (lo := 1) (hi := 7) r_f0_38 rl_1 (by decide +kernel) e_v_2
  have t_v_2 : v_2.toInt = f0_38.toInt + 1 := t_v_2
  refine tg_put (ci := 10) (ts := ty_MODEL) (v := .int v_2) (ty := .int) (C := RX10) (T := TX10) (N := 49) hx hb hts inX10 tyX10 tyX10_ok nmX10 hown hK hw h_p0 rfl rfl 38 (by decide) (hts _ tw_1175) (fun _ h9 => h9) rfl (by decide +kernel) rfl rfl (ft := vI 0 64) rfl ⟨_, rfl, (r_v_2.to (by decide))⟩ (by decide) dX10_write_17 (fun ws H locs hw n_k_3 hF9 => ?_)
  subst hQ
  exact W.vret hx hb hr (fun t ht hW => ⟨⟨ws, rfl, ⟨⟨⟨_, n_k_3, r_v_2⟩, trivial⟩, hw.1, hw.2.2.2.2.1⟩, by rw [ht]; exact hw.2.1, va_K.moved hW.alike hK, hw.2.2.1⟩, hw.2.2.2.1.F ht⟩) hw.2.2.2.1.2.2 dX10_write_20
abbrev wr_X10_write__31 : List (Nat × Nat) := [(10, 38)]
abbrev wa_X10_write__31 : List Nat := [51]
set_option maxHeartbeats 4000000 in
set_option maxRecDepth 100000 in
theorem c_X10_write__31 (l : Launch) (D : va_G) (cy : Nat → ClassId) (z : Nat → Nat) (sz : Nat) (Ps : PSI) (w0 : va_W) (hT : HT cy GG Ps w0) (p0 : Nat) (p1 : Int32) (f0_38 : Int32) (h_p0 : (p0, 55) ∈ Ps) (r_p1 : RI p1 (-2147483648) 2147483647) (r_f0_38 : RI f0_38 0 5) (m_f0_38 : FLD w0 p0 10 38 (.int f0_38)) : Met l yX10_write (Cond.code yX10_write cX10_write 2 none :: gT) ({ frames := 0, cells := 0, slots := 0, locals := 200 } : Room) (va_Pc [.ref p0, .int p1] (PRE D cy z w0 sz)) (va_Qv (fun (u : va_W) => ((∃ v9 : Int32, FLD u p0 10 38 (.int v9) ∧ RI v9 1 6) ∧ True) ∧ HT cy GG Ps u ∧ FR wr_X10_write__31 wa_X10_write__31 Ps w0 u) (BB D cy (va_A w0 sz) (fun (u : va_W) => u)) (va_A w0 sz)) 0 0 (va_A w0 sz) := by
  refine Met.ofW (cc := cX10_write) (maxL := 2) (ret := none) (by decide) rfl ?_
  intro p e s m args below meth c s₁ B hml hv
  obtain ⟨rfl, hsz, hP, hK, hD0, hSD⟩ := hv
  have hx := B.exec
  have hb := B.bytes
  have hr := B.returns
  have hlocks := B.notSynchronized
  have hts : ∀ w ∈ gT, w.before _ s = true := fun w h => atoms_spec (ws := Cond.code yX10_write cX10_write 2 none :: gT) B.pre w (List.mem_cons_of_mem _ h)
  have hown : s.vm.findClass RX10 = some m.cls := findClass_of_methodNamed B.named
  subst hsz
  have hD := hD0.self (sz := s.heap.size)
  generalize hAe : va_A w0 s.heap.size = A at hD hSD ⊢
  have hA : ∀ q : Nat, s.heap.size ≤ q → A q := fun q h => by rw [← hAe]; exact Or.inr h
  have hl := lv_entry ([.ref p0, .int p1]) (n := 2) (Nat.le_of_ble_eq_true rfl)
  rw [lg_entry_eq]
  generalize (lg_sl ([.ref p0, .int p1]) ++ List.replicate (2 - (lg_sl ([.ref p0, .int p1])).length) Slot.unset).toArray = ls at hl ⊢
  have hl : lv_has ls 2 [(0, .ref p0), (1, .int p1)] := hl
  refine nameQ (fun Q hQ => ?_)
  have hw : WD D cy GG A s wr_X10_write__31 wa_X10_write__31 Ps w0 Ps w0 s.heap [] := ⟨hT, hP, hD, va_S.rf, FR.rf, hT.1, [], (List.append_nil _).symm⟩
  refine lv_aload_n hx hb dX10_write_0 rfl (lv_at hl 0 rfl) ?_
  refine tg_get (ci := 10) (ts := ty_MODEL) (C := RX10) (T := TX10) (N := 49) hx hb hts inX10 hown hK hw h_p0 rfl rfl 37 (by decide) (hts _ tw_1174) (fun _ h9 => h9) (ft := vR 51) rfl dX10_write_1 (fun u_1 hv_u_1 m_u_1 => ?_)
  obtain ⟨vu_1, rfl, h_vu_1⟩ := hv_u_1
  refine lv_aload_n hx hb dX10_write_4 rfl (lv_at hl 0 rfl) ?_
  refine tg_mem (ci := 10) (C := RX10) (T := TX10) (N := 49) hx hb hts inX10 hown hK hw 38 m_f0_38 rfl (by decide) (hts _ tw_1175) (fun _ h9 => h9) dX10_write_5 ?_
  refine lv_iload_n hx hb dX10_write_8 rfl (lv_at hl 1 rfl) ?_
  refine tg_iast hx hb hK hw h_vu_1 rfl 0 5 r_f0_38 (by decide) r_p1 (by exact fun _ _ _ => by decide) (fun _ _ _ _ _ => trivial) (by decide) dX10_write_9 (fun ws H locs hw hF9 hU9 => ?_)
  have m_f0_38 := FLD.over hF9 m_f0_38 (by decide)
  refine lv_aload_n hx hb dX10_write_10 rfl (lv_at hl 0 rfl) ?_
  refine lv_dup hx hb dX10_write_11 rfl ?_
  refine tg_mem (ci := 10) (C := RX10) (T := TX10) (N := 49) hx hb hts inX10 hown hK hw 38 m_f0_38 rfl (by decide) (hts _ tw_1175) (fun _ h9 => h9) dX10_write_12 ?_
  refine lv_iconst (v := 1) hx hb dX10_write_15 (by decide) ?_
  refine lv_iadd hx hb dX10_write_16 (lv_topi (fun v_2 e_v_2 => ?_))
  obtain ⟨t_v_2, r_v_2⟩ := tq_add (lo := 1) (hi := 6) r_f0_38 rl_1 (by decide +kernel) e_v_2
  have t_v_2 : v_2.toInt = f0_38.toInt + 1 := t_v_2
  refine tg_put (ci := 10) (ts := ty_MODEL) (v := .int v_2) (ty := .int) (C := RX10) (T := TX10) (N := 49) hx hb hts inX10 tyX10 tyX10_ok nmX10 hown hK hw h_p0 rfl rfl 38 (by decide) (hts _ tw_1175) (fun _ h9 => h9) rfl (by decide +kernel) rfl rfl (ft := vI 0 64) rfl ⟨_, rfl, (r_v_2.to (by decide))⟩ (by decide) dX10_write_17 (fun ws H locs hw n_k_3 hF9 => ?_)
  subst hQ
  exact W.vret hx hb hr (fun t ht hW => ⟨⟨ws, rfl, ⟨⟨⟨_, n_k_3, r_v_2⟩, trivial⟩, hw.1, hw.2.2.2.2.1⟩, by rw [ht]; exact hw.2.1, va_K.moved hW.alike hK, hw.2.2.1⟩, hw.2.2.2.1.F ht⟩) hw.2.2.2.1.2.2 dX10_write_20
abbrev wr_X10_write__32 : List (Nat × Nat) := [(10, 38)]
abbrev wa_X10_write__32 : List Nat := [51]
set_option maxHeartbeats 4000000 in
set_option maxRecDepth 100000 in
theorem c_X10_write__32 (l : Launch) (D : va_G) (cy : Nat → ClassId) (z : Nat → Nat) (sz : Nat) (Ps : PSI) (w0 : va_W) (hT : HT cy GG Ps w0) (p0 : Nat) (p1 : Int32) (f0_38 : Int32) (h_p0 : (p0, 55) ∈ Ps) (r_p1 : RI p1 (-2147483648) 2147483647) (r_f0_38 : RI f0_38 0 4) (m_f0_38 : FLD w0 p0 10 38 (.int f0_38)) : Met l yX10_write (Cond.code yX10_write cX10_write 2 none :: gT) ({ frames := 0, cells := 0, slots := 0, locals := 200 } : Room) (va_Pc [.ref p0, .int p1] (PRE D cy z w0 sz)) (va_Qv (fun (u : va_W) => ((∃ v9 : Int32, FLD u p0 10 38 (.int v9) ∧ RI v9 1 5) ∧ True) ∧ HT cy GG Ps u ∧ FR wr_X10_write__32 wa_X10_write__32 Ps w0 u) (BB D cy (va_A w0 sz) (fun (u : va_W) => u)) (va_A w0 sz)) 0 0 (va_A w0 sz) := by
  refine Met.ofW (cc := cX10_write) (maxL := 2) (ret := none) (by decide) rfl ?_
  intro p e s m args below meth c s₁ B hml hv
  obtain ⟨rfl, hsz, hP, hK, hD0, hSD⟩ := hv
  have hx := B.exec
  have hb := B.bytes
  have hr := B.returns
  have hlocks := B.notSynchronized
  have hts : ∀ w ∈ gT, w.before _ s = true := fun w h => atoms_spec (ws := Cond.code yX10_write cX10_write 2 none :: gT) B.pre w (List.mem_cons_of_mem _ h)
  have hown : s.vm.findClass RX10 = some m.cls := findClass_of_methodNamed B.named
  subst hsz
  have hD := hD0.self (sz := s.heap.size)
  generalize hAe : va_A w0 s.heap.size = A at hD hSD ⊢
  have hA : ∀ q : Nat, s.heap.size ≤ q → A q := fun q h => by rw [← hAe]; exact Or.inr h
  have hl := lv_entry ([.ref p0, .int p1]) (n := 2) (Nat.le_of_ble_eq_true rfl)
  rw [lg_entry_eq]
  generalize (lg_sl ([.ref p0, .int p1]) ++ List.replicate (2 - (lg_sl ([.ref p0, .int p1])).length) Slot.unset).toArray = ls at hl ⊢
  have hl : lv_has ls 2 [(0, .ref p0), (1, .int p1)] := hl
  refine nameQ (fun Q hQ => ?_)
  have hw : WD D cy GG A s wr_X10_write__32 wa_X10_write__32 Ps w0 Ps w0 s.heap [] := ⟨hT, hP, hD, va_S.rf, FR.rf, hT.1, [], (List.append_nil _).symm⟩
  refine lv_aload_n hx hb dX10_write_0 rfl (lv_at hl 0 rfl) ?_
  refine tg_get (ci := 10) (ts := ty_MODEL) (C := RX10) (T := TX10) (N := 49) hx hb hts inX10 hown hK hw h_p0 rfl rfl 37 (by decide) (hts _ tw_1174) (fun _ h9 => h9) (ft := vR 51) rfl dX10_write_1 (fun u_1 hv_u_1 m_u_1 => ?_)
  obtain ⟨vu_1, rfl, h_vu_1⟩ := hv_u_1
  refine lv_aload_n hx hb dX10_write_4 rfl (lv_at hl 0 rfl) ?_
  refine tg_mem (ci := 10) (C := RX10) (T := TX10) (N := 49) hx hb hts inX10 hown hK hw 38 m_f0_38 rfl (by decide) (hts _ tw_1175) (fun _ h9 => h9) dX10_write_5 ?_
  refine lv_iload_n hx hb dX10_write_8 rfl (lv_at hl 1 rfl) ?_
  refine tg_iast hx hb hK hw h_vu_1 rfl 0 4 r_f0_38 (by decide) r_p1 (by exact fun _ _ _ => by decide) (fun _ _ _ _ _ => trivial) (by decide) dX10_write_9 (fun ws H locs hw hF9 hU9 => ?_)
  have m_f0_38 := FLD.over hF9 m_f0_38 (by decide)
  refine lv_aload_n hx hb dX10_write_10 rfl (lv_at hl 0 rfl) ?_
  refine lv_dup hx hb dX10_write_11 rfl ?_
  refine tg_mem (ci := 10) (C := RX10) (T := TX10) (N := 49) hx hb hts inX10 hown hK hw 38 m_f0_38 rfl (by decide) (hts _ tw_1175) (fun _ h9 => h9) dX10_write_12 ?_
  refine lv_iconst (v := 1) hx hb dX10_write_15 (by decide) ?_
  refine lv_iadd hx hb dX10_write_16 (lv_topi (fun v_2 e_v_2 => ?_))
  obtain ⟨t_v_2, r_v_2⟩ := tq_add (lo := 1) (hi := 5) r_f0_38 rl_1 (by decide +kernel) e_v_2
  have t_v_2 : v_2.toInt = f0_38.toInt + 1 := t_v_2
  refine tg_put (ci := 10) (ts := ty_MODEL) (v := .int v_2) (ty := .int) (C := RX10) (T := TX10) (N := 49) hx hb hts inX10 tyX10 tyX10_ok nmX10 hown hK hw h_p0 rfl rfl 38 (by decide) (hts _ tw_1175) (fun _ h9 => h9) rfl (by decide +kernel) rfl rfl (ft := vI 0 64) rfl ⟨_, rfl, (r_v_2.to (by decide))⟩ (by decide) dX10_write_17 (fun ws H locs hw n_k_3 hF9 => ?_)
  subst hQ
  exact W.vret hx hb hr (fun t ht hW => ⟨⟨ws, rfl, ⟨⟨⟨_, n_k_3, r_v_2⟩, trivial⟩, hw.1, hw.2.2.2.2.1⟩, by rw [ht]; exact hw.2.1, va_K.moved hW.alike hK, hw.2.2.1⟩, hw.2.2.2.1.F ht⟩) hw.2.2.2.1.2.2 dX10_write_20
abbrev wr_X10_write__33 : List (Nat × Nat) := [(10, 38)]
abbrev wa_X10_write__33 : List Nat := [51]
set_option maxHeartbeats 4000000 in
set_option maxRecDepth 100000 in
theorem c_X10_write__33 (l : Launch) (D : va_G) (cy : Nat → ClassId) (z : Nat → Nat) (sz : Nat) (Ps : PSI) (w0 : va_W) (hT : HT cy GG Ps w0) (p0 : Nat) (p1 : Int32) (f0_38 : Int32) (h_p0 : (p0, 55) ∈ Ps) (r_p1 : RI p1 (-2147483648) 2147483647) (r_f0_38 : RI f0_38 0 3) (m_f0_38 : FLD w0 p0 10 38 (.int f0_38)) : Met l yX10_write (Cond.code yX10_write cX10_write 2 none :: gT) ({ frames := 0, cells := 0, slots := 0, locals := 200 } : Room) (va_Pc [.ref p0, .int p1] (PRE D cy z w0 sz)) (va_Qv (fun (u : va_W) => ((∃ v9 : Int32, FLD u p0 10 38 (.int v9) ∧ RI v9 1 4) ∧ True) ∧ HT cy GG Ps u ∧ FR wr_X10_write__33 wa_X10_write__33 Ps w0 u) (BB D cy (va_A w0 sz) (fun (u : va_W) => u)) (va_A w0 sz)) 0 0 (va_A w0 sz) := by
  refine Met.ofW (cc := cX10_write) (maxL := 2) (ret := none) (by decide) rfl ?_
  intro p e s m args below meth c s₁ B hml hv
  obtain ⟨rfl, hsz, hP, hK, hD0, hSD⟩ := hv
  have hx := B.exec
  have hb := B.bytes
  have hr := B.returns
  have hlocks := B.notSynchronized
  have hts : ∀ w ∈ gT, w.before _ s = true := fun w h => atoms_spec (ws := Cond.code yX10_write cX10_write 2 none :: gT) B.pre w (List.mem_cons_of_mem _ h)
  have hown : s.vm.findClass RX10 = some m.cls := findClass_of_methodNamed B.named
  subst hsz
  have hD := hD0.self (sz := s.heap.size)
  generalize hAe : va_A w0 s.heap.size = A at hD hSD ⊢
  have hA : ∀ q : Nat, s.heap.size ≤ q → A q := fun q h => by rw [← hAe]; exact Or.inr h
  have hl := lv_entry ([.ref p0, .int p1]) (n := 2) (Nat.le_of_ble_eq_true rfl)
  rw [lg_entry_eq]
  generalize (lg_sl ([.ref p0, .int p1]) ++ List.replicate (2 - (lg_sl ([.ref p0, .int p1])).length) Slot.unset).toArray = ls at hl ⊢
  have hl : lv_has ls 2 [(0, .ref p0), (1, .int p1)] := hl
  refine nameQ (fun Q hQ => ?_)
  have hw : WD D cy GG A s wr_X10_write__33 wa_X10_write__33 Ps w0 Ps w0 s.heap [] := ⟨hT, hP, hD, va_S.rf, FR.rf, hT.1, [], (List.append_nil _).symm⟩
  refine lv_aload_n hx hb dX10_write_0 rfl (lv_at hl 0 rfl) ?_
  refine tg_get (ci := 10) (ts := ty_MODEL) (C := RX10) (T := TX10) (N := 49) hx hb hts inX10 hown hK hw h_p0 rfl rfl 37 (by decide) (hts _ tw_1174) (fun _ h9 => h9) (ft := vR 51) rfl dX10_write_1 (fun u_1 hv_u_1 m_u_1 => ?_)
  obtain ⟨vu_1, rfl, h_vu_1⟩ := hv_u_1
  refine lv_aload_n hx hb dX10_write_4 rfl (lv_at hl 0 rfl) ?_
  refine tg_mem (ci := 10) (C := RX10) (T := TX10) (N := 49) hx hb hts inX10 hown hK hw 38 m_f0_38 rfl (by decide) (hts _ tw_1175) (fun _ h9 => h9) dX10_write_5 ?_
  refine lv_iload_n hx hb dX10_write_8 rfl (lv_at hl 1 rfl) ?_
  refine tg_iast hx hb hK hw h_vu_1 rfl 0 3 r_f0_38 (by decide) r_p1 (by exact fun _ _ _ => by decide) (fun _ _ _ _ _ => trivial) (by decide) dX10_write_9 (fun ws H locs hw hF9 hU9 => ?_)
  have m_f0_38 := FLD.over hF9 m_f0_38 (by decide)
  refine lv_aload_n hx hb dX10_write_10 rfl (lv_at hl 0 rfl) ?_
  refine lv_dup hx hb dX10_write_11 rfl ?_
  refine tg_mem (ci := 10) (C := RX10) (T := TX10) (N := 49) hx hb hts inX10 hown hK hw 38 m_f0_38 rfl (by decide) (hts _ tw_1175) (fun _ h9 => h9) dX10_write_12 ?_
  refine lv_iconst (v := 1) hx hb dX10_write_15 (by decide) ?_
  refine lv_iadd hx hb dX10_write_16 (lv_topi (fun v_2 e_v_2 => ?_))
  obtain ⟨t_v_2, r_v_2⟩ := tq_add (lo := 1) (hi := 4) r_f0_38 rl_1 (by decide +kernel) e_v_2
  have t_v_2 : v_2.toInt = f0_38.toInt + 1 := t_v_2
  refine tg_put (ci := 10) (ts := ty_MODEL) (v := .int v_2) (ty := .int) (C := RX10) (T := TX10) (N := 49) hx hb hts inX10 tyX10 tyX10_ok nmX10 hown hK hw h_p0 rfl rfl 38 (by decide) (hts _ tw_1175) (fun _ h9 => h9) rfl (by decide +kernel) rfl rfl (ft := vI 0 64) rfl ⟨_, rfl, (r_v_2.to (by decide))⟩ (by decide) dX10_write_17 (fun ws H locs hw n_k_3 hF9 => ?_)
  subst hQ
  exact W.vret hx hb hr (fun t ht hW => ⟨⟨ws, rfl, ⟨⟨⟨_, n_k_3, r_v_2⟩, trivial⟩, hw.1, hw.2.2.2.2.1⟩, by rw [ht]; exact hw.2.1, va_K.moved hW.alike hK, hw.2.2.1⟩, hw.2.2.2.1.F ht⟩) hw.2.2.2.1.2.2 dX10_write_20
abbrev wr_X10_write__34 : List (Nat × Nat) := [(10, 38)]
abbrev wa_X10_write__34 : List Nat := [51]
set_option maxHeartbeats 4000000 in
set_option maxRecDepth 100000 in
theorem c_X10_write__34 (l : Launch) (D : va_G) (cy : Nat → ClassId) (z : Nat → Nat) (sz : Nat) (Ps : PSI) (w0 : va_W) (hT : HT cy GG Ps w0) (p0 : Nat) (p1 : Int32) (f0_38 : Int32) (h_p0 : (p0, 55) ∈ Ps) (r_p1 : RI p1 (-2147483648) 2147483647) (r_f0_38 : RI f0_38 0 2) (m_f0_38 : FLD w0 p0 10 38 (.int f0_38)) : Met l yX10_write (Cond.code yX10_write cX10_write 2 none :: gT) ({ frames := 0, cells := 0, slots := 0, locals := 200 } : Room) (va_Pc [.ref p0, .int p1] (PRE D cy z w0 sz)) (va_Qv (fun (u : va_W) => ((∃ v9 : Int32, FLD u p0 10 38 (.int v9) ∧ RI v9 1 3) ∧ True) ∧ HT cy GG Ps u ∧ FR wr_X10_write__34 wa_X10_write__34 Ps w0 u) (BB D cy (va_A w0 sz) (fun (u : va_W) => u)) (va_A w0 sz)) 0 0 (va_A w0 sz) := by
  refine Met.ofW (cc := cX10_write) (maxL := 2) (ret := none) (by decide) rfl ?_
  intro p e s m args below meth c s₁ B hml hv
  obtain ⟨rfl, hsz, hP, hK, hD0, hSD⟩ := hv
  have hx := B.exec
  have hb := B.bytes
  have hr := B.returns
  have hlocks := B.notSynchronized
  have hts : ∀ w ∈ gT, w.before _ s = true := fun w h => atoms_spec (ws := Cond.code yX10_write cX10_write 2 none :: gT) B.pre w (List.mem_cons_of_mem _ h)
  have hown : s.vm.findClass RX10 = some m.cls := findClass_of_methodNamed B.named
  subst hsz
  have hD := hD0.self (sz := s.heap.size)
  generalize hAe : va_A w0 s.heap.size = A at hD hSD ⊢
  have hA : ∀ q : Nat, s.heap.size ≤ q → A q := fun q h => by rw [← hAe]; exact Or.inr h
  have hl := lv_entry ([.ref p0, .int p1]) (n := 2) (Nat.le_of_ble_eq_true rfl)
  rw [lg_entry_eq]
  generalize (lg_sl ([.ref p0, .int p1]) ++ List.replicate (2 - (lg_sl ([.ref p0, .int p1])).length) Slot.unset).toArray = ls at hl ⊢
  have hl : lv_has ls 2 [(0, .ref p0), (1, .int p1)] := hl
  refine nameQ (fun Q hQ => ?_)
  have hw : WD D cy GG A s wr_X10_write__34 wa_X10_write__34 Ps w0 Ps w0 s.heap [] := ⟨hT, hP, hD, va_S.rf, FR.rf, hT.1, [], (List.append_nil _).symm⟩
  refine lv_aload_n hx hb dX10_write_0 rfl (lv_at hl 0 rfl) ?_
  refine tg_get (ci := 10) (ts := ty_MODEL) (C := RX10) (T := TX10) (N := 49) hx hb hts inX10 hown hK hw h_p0 rfl rfl 37 (by decide) (hts _ tw_1174) (fun _ h9 => h9) (ft := vR 51) rfl dX10_write_1 (fun u_1 hv_u_1 m_u_1 => ?_)
  obtain ⟨vu_1, rfl, h_vu_1⟩ := hv_u_1
  refine lv_aload_n hx hb dX10_write_4 rfl (lv_at hl 0 rfl) ?_
  refine tg_mem (ci := 10) (C := RX10) (T := TX10) (N := 49) hx hb hts inX10 hown hK hw 38 m_f0_38 rfl (by decide) (hts _ tw_1175) (fun _ h9 => h9) dX10_write_5 ?_
  refine lv_iload_n hx hb dX10_write_8 rfl (lv_at hl 1 rfl) ?_
  refine tg_iast hx hb hK hw h_vu_1 rfl 0 2 r_f0_38 (by decide) r_p1 (by exact fun _ _ _ => by decide) (fun _ _ _ _ _ => trivial) (by decide) dX10_write_9 (fun ws H locs hw hF9 hU9 => ?_)
  have m_f0_38 := FLD.over hF9 m_f0_38 (by decide)
  refine lv_aload_n hx hb dX10_write_10 rfl (lv_at hl 0 rfl) ?_
  refine lv_dup hx hb dX10_write_11 rfl ?_
  refine tg_mem (ci := 10) (C := RX10) (T := TX10) (N := 49) hx hb hts inX10 hown hK hw 38 m_f0_38 rfl (by decide) (hts _ tw_1175) (fun _ h9 => h9) dX10_write_12 ?_
  refine lv_iconst (v := 1) hx hb dX10_write_15 (by decide) ?_
  refine lv_iadd hx hb dX10_write_16 (lv_topi (fun v_2 e_v_2 => ?_))
  obtain ⟨t_v_2, r_v_2⟩ := tq_add (lo := 1) (hi := 3) r_f0_38 rl_1 (by decide +kernel) e_v_2
  have t_v_2 : v_2.toInt = f0_38.toInt + 1 := t_v_2
  refine tg_put (ci := 10) (ts := ty_MODEL) (v := .int v_2) (ty := .int) (C := RX10) (T := TX10) (N := 49) hx hb hts inX10 tyX10 tyX10_ok nmX10 hown hK hw h_p0 rfl rfl 38 (by decide) (hts _ tw_1175) (fun _ h9 => h9) rfl (by decide +kernel) rfl rfl (ft := vI 0 64) rfl ⟨_, rfl, (r_v_2.to (by decide))⟩ (by decide) dX10_write_17 (fun ws H locs hw n_k_3 hF9 => ?_)
  subst hQ
  exact W.vret hx hb hr (fun t ht hW => ⟨⟨ws, rfl, ⟨⟨⟨_, n_k_3, r_v_2⟩, trivial⟩, hw.1, hw.2.2.2.2.1⟩, by rw [ht]; exact hw.2.1, va_K.moved hW.alike hK, hw.2.2.1⟩, hw.2.2.2.1.F ht⟩) hw.2.2.2.1.2.2 dX10_write_20
abbrev wr_X10_write__35 : List (Nat × Nat) := [(10, 38)]
abbrev wa_X10_write__35 : List Nat := [51]
set_option maxHeartbeats 4000000 in
set_option maxRecDepth 100000 in
theorem c_X10_write__35 (l : Launch) (D : va_G) (cy : Nat → ClassId) (z : Nat → Nat) (sz : Nat) (Ps : PSI) (w0 : va_W) (hT : HT cy GG Ps w0) (p0 : Nat) (p1 : Int32) (f0_38 : Int32) (h_p0 : (p0, 55) ∈ Ps) (r_p1 : RI p1 (-2147483648) 2147483647) (r_f0_38 : RI f0_38 0 1) (m_f0_38 : FLD w0 p0 10 38 (.int f0_38)) : Met l yX10_write (Cond.code yX10_write cX10_write 2 none :: gT) ({ frames := 0, cells := 0, slots := 0, locals := 200 } : Room) (va_Pc [.ref p0, .int p1] (PRE D cy z w0 sz)) (va_Qv (fun (u : va_W) => ((∃ v9 : Int32, FLD u p0 10 38 (.int v9) ∧ RI v9 1 2) ∧ True) ∧ HT cy GG Ps u ∧ FR wr_X10_write__35 wa_X10_write__35 Ps w0 u) (BB D cy (va_A w0 sz) (fun (u : va_W) => u)) (va_A w0 sz)) 0 0 (va_A w0 sz) := by
  refine Met.ofW (cc := cX10_write) (maxL := 2) (ret := none) (by decide) rfl ?_
  intro p e s m args below meth c s₁ B hml hv
  obtain ⟨rfl, hsz, hP, hK, hD0, hSD⟩ := hv
  have hx := B.exec
  have hb := B.bytes
  have hr := B.returns
  have hlocks := B.notSynchronized
  have hts : ∀ w ∈ gT, w.before _ s = true := fun w h => atoms_spec (ws := Cond.code yX10_write cX10_write 2 none :: gT) B.pre w (List.mem_cons_of_mem _ h)
  have hown : s.vm.findClass RX10 = some m.cls := findClass_of_methodNamed B.named
  subst hsz
  have hD := hD0.self (sz := s.heap.size)
  generalize hAe : va_A w0 s.heap.size = A at hD hSD ⊢
  have hA : ∀ q : Nat, s.heap.size ≤ q → A q := fun q h => by rw [← hAe]; exact Or.inr h
  have hl := lv_entry ([.ref p0, .int p1]) (n := 2) (Nat.le_of_ble_eq_true rfl)
  rw [lg_entry_eq]
  generalize (lg_sl ([.ref p0, .int p1]) ++ List.replicate (2 - (lg_sl ([.ref p0, .int p1])).length) Slot.unset).toArray = ls at hl ⊢
  have hl : lv_has ls 2 [(0, .ref p0), (1, .int p1)] := hl
  refine nameQ (fun Q hQ => ?_)
  have hw : WD D cy GG A s wr_X10_write__35 wa_X10_write__35 Ps w0 Ps w0 s.heap [] := ⟨hT, hP, hD, va_S.rf, FR.rf, hT.1, [], (List.append_nil _).symm⟩
  refine lv_aload_n hx hb dX10_write_0 rfl (lv_at hl 0 rfl) ?_
  refine tg_get (ci := 10) (ts := ty_MODEL) (C := RX10) (T := TX10) (N := 49) hx hb hts inX10 hown hK hw h_p0 rfl rfl 37 (by decide) (hts _ tw_1174) (fun _ h9 => h9) (ft := vR 51) rfl dX10_write_1 (fun u_1 hv_u_1 m_u_1 => ?_)
  obtain ⟨vu_1, rfl, h_vu_1⟩ := hv_u_1
  refine lv_aload_n hx hb dX10_write_4 rfl (lv_at hl 0 rfl) ?_
  refine tg_mem (ci := 10) (C := RX10) (T := TX10) (N := 49) hx hb hts inX10 hown hK hw 38 m_f0_38 rfl (by decide) (hts _ tw_1175) (fun _ h9 => h9) dX10_write_5 ?_
  refine lv_iload_n hx hb dX10_write_8 rfl (lv_at hl 1 rfl) ?_
  refine tg_iast hx hb hK hw h_vu_1 rfl 0 1 r_f0_38 (by decide) r_p1 (by exact fun _ _ _ => by decide) (fun _ _ _ _ _ => trivial) (by decide) dX10_write_9 (fun ws H locs hw hF9 hU9 => ?_)
  have m_f0_38 := FLD.over hF9 m_f0_38 (by decide)
  refine lv_aload_n hx hb dX10_write_10 rfl (lv_at hl 0 rfl) ?_
  refine lv_dup hx hb dX10_write_11 rfl ?_
  refine tg_mem (ci := 10) (C := RX10) (T := TX10) (N := 49) hx hb hts inX10 hown hK hw 38 m_f0_38 rfl (by decide) (hts _ tw_1175) (fun _ h9 => h9) dX10_write_12 ?_
  refine lv_iconst (v := 1) hx hb dX10_write_15 (by decide) ?_
  refine lv_iadd hx hb dX10_write_16 (lv_topi (fun v_2 e_v_2 => ?_))
  obtain ⟨t_v_2, r_v_2⟩ := tq_add (lo := 1) (hi := 2) r_f0_38 rl_1 (by decide +kernel) e_v_2
  have t_v_2 : v_2.toInt = f0_38.toInt + 1 := t_v_2
  refine tg_put (ci := 10) (ts := ty_MODEL) (v := .int v_2) (ty := .int) (C := RX10) (T := TX10) (N := 49) hx hb hts inX10 tyX10 tyX10_ok nmX10 hown hK hw h_p0 rfl rfl 38 (by decide) (hts _ tw_1175) (fun _ h9 => h9) rfl (by decide +kernel) rfl rfl (ft := vI 0 64) rfl ⟨_, rfl, (r_v_2.to (by decide))⟩ (by decide) dX10_write_17 (fun ws H locs hw n_k_3 hF9 => ?_)
  subst hQ
  exact W.vret hx hb hr (fun t ht hW => ⟨⟨ws, rfl, ⟨⟨⟨_, n_k_3, r_v_2⟩, trivial⟩, hw.1, hw.2.2.2.2.1⟩, by rw [ht]; exact hw.2.1, va_K.moved hW.alike hK, hw.2.2.1⟩, hw.2.2.2.1.F ht⟩) hw.2.2.2.1.2.2 dX10_write_20
abbrev wr_X10_write__36 : List (Nat × Nat) := [(10, 38)]
abbrev wa_X10_write__36 : List Nat := [51]
set_option maxHeartbeats 4000000 in
set_option maxRecDepth 100000 in
theorem c_X10_write__36 (l : Launch) (D : va_G) (cy : Nat → ClassId) (z : Nat → Nat) (sz : Nat) (Ps : PSI) (w0 : va_W) (hT : HT cy GG Ps w0) (p0 : Nat) (p1 : Int32) (f0_38 : Int32) (h_p0 : (p0, 55) ∈ Ps) (r_p1 : RI p1 (-2147483648) 2147483647) (r_f0_38 : RI f0_38 0 0) (m_f0_38 : FLD w0 p0 10 38 (.int f0_38)) : Met l yX10_write (Cond.code yX10_write cX10_write 2 none :: gT) ({ frames := 0, cells := 0, slots := 0, locals := 200 } : Room) (va_Pc [.ref p0, .int p1] (PRE D cy z w0 sz)) (va_Qv (fun (u : va_W) => ((∃ v9 : Int32, FLD u p0 10 38 (.int v9) ∧ RI v9 1 1) ∧ True) ∧ HT cy GG Ps u ∧ FR wr_X10_write__36 wa_X10_write__36 Ps w0 u) (BB D cy (va_A w0 sz) (fun (u : va_W) => u)) (va_A w0 sz)) 0 0 (va_A w0 sz) := by
  refine Met.ofW (cc := cX10_write) (maxL := 2) (ret := none) (by decide) rfl ?_
  intro p e s m args below meth c s₁ B hml hv
  obtain ⟨rfl, hsz, hP, hK, hD0, hSD⟩ := hv
  have hx := B.exec
  have hb := B.bytes
  have hr := B.returns
  have hlocks := B.notSynchronized
  have hts : ∀ w ∈ gT, w.before _ s = true := fun w h => atoms_spec (ws := Cond.code yX10_write cX10_write 2 none :: gT) B.pre w (List.mem_cons_of_mem _ h)
  have hown : s.vm.findClass RX10 = some m.cls := findClass_of_methodNamed B.named
  subst hsz
  have hD := hD0.self (sz := s.heap.size)
  generalize hAe : va_A w0 s.heap.size = A at hD hSD ⊢
  have hA : ∀ q : Nat, s.heap.size ≤ q → A q := fun q h => by rw [← hAe]; exact Or.inr h
  have hl := lv_entry ([.ref p0, .int p1]) (n := 2) (Nat.le_of_ble_eq_true rfl)
  rw [lg_entry_eq]
  generalize (lg_sl ([.ref p0, .int p1]) ++ List.replicate (2 - (lg_sl ([.ref p0, .int p1])).length) Slot.unset).toArray = ls at hl ⊢
  have hl : lv_has ls 2 [(0, .ref p0), (1, .int p1)] := hl
  refine nameQ (fun Q hQ => ?_)
  have hw : WD D cy GG A s wr_X10_write__36 wa_X10_write__36 Ps w0 Ps w0 s.heap [] := ⟨hT, hP, hD, va_S.rf, FR.rf, hT.1, [], (List.append_nil _).symm⟩
  refine lv_aload_n hx hb dX10_write_0 rfl (lv_at hl 0 rfl) ?_
  refine tg_get (ci := 10) (ts := ty_MODEL) (C := RX10) (T := TX10) (N := 49) hx hb hts inX10 hown hK hw h_p0 rfl rfl 37 (by decide) (hts _ tw_1174) (fun _ h9 => h9) (ft := vR 51) rfl dX10_write_1 (fun u_1 hv_u_1 m_u_1 => ?_)
  obtain ⟨vu_1, rfl, h_vu_1⟩ := hv_u_1
  refine lv_aload_n hx hb dX10_write_4 rfl (lv_at hl 0 rfl) ?_
  refine tg_mem (ci := 10) (C := RX10) (T := TX10) (N := 49) hx hb hts inX10 hown hK hw 38 m_f0_38 rfl (by decide) (hts _ tw_1175) (fun _ h9 => h9) dX10_write_5 ?_
  refine lv_iload_n hx hb dX10_write_8 rfl (lv_at hl 1 rfl) ?_
  refine tg_iast hx hb hK hw h_vu_1 rfl 0 0 r_f0_38 (by decide) r_p1 (by exact fun _ _ _ => by decide) (fun _ _ _ _ _ => trivial) (by decide) dX10_write_9 (fun ws H locs hw hF9 hU9 => ?_)
  have m_f0_38 := FLD.over hF9 m_f0_38 (by decide)
  refine lv_aload_n hx hb dX10_write_10 rfl (lv_at hl 0 rfl) ?_
  refine lv_dup hx hb dX10_write_11 rfl ?_
  refine tg_mem (ci := 10) (C := RX10) (T := TX10) (N := 49) hx hb hts inX10 hown hK hw 38 m_f0_38 rfl (by decide) (hts _ tw_1175) (fun _ h9 => h9) dX10_write_12 ?_
  refine lv_iconst (v := 1) hx hb dX10_write_15 (by decide) ?_
  refine lv_iadd hx hb dX10_write_16 (lv_topi (fun v_2 e_v_2 => ?_))
  obtain ⟨t_v_2, r_v_2⟩ := tq_add (lo := 1) (hi := 1) r_f0_38 rl_1 (by decide +kernel) e_v_2
  have t_v_2 : v_2.toInt = f0_38.toInt + 1 := t_v_2
  refine tg_put (ci := 10) (ts := ty_MODEL) (v := .int v_2) (ty := .int) (C := RX10) (T := TX10) (N := 49) hx hb hts inX10 tyX10 tyX10_ok nmX10 hown hK hw h_p0 rfl rfl 38 (by decide) (hts _ tw_1175) (fun _ h9 => h9) rfl (by decide +kernel) rfl rfl (ft := vI 0 64) rfl ⟨_, rfl, (r_v_2.to (by decide))⟩ (by decide) dX10_write_17 (fun ws H locs hw n_k_3 hF9 => ?_)
  subst hQ
  exact W.vret hx hb hr (fun t ht hW => ⟨⟨ws, rfl, ⟨⟨⟨_, n_k_3, r_v_2⟩, trivial⟩, hw.1, hw.2.2.2.2.1⟩, by rw [ht]; exact hw.2.1, va_K.moved hW.alike hK, hw.2.2.1⟩, hw.2.2.2.1.F ht⟩) hw.2.2.2.1.2.2 dX10_write_20
abbrev wr_X10_writeWord__33 : List (Nat × Nat) := [(10, 38)]
abbrev wa_X10_writeWord__33 : List Nat := [51]
set_option maxHeartbeats 4000000 in
set_option maxRecDepth 100000 in
theorem c_X10_writeWord__33 (l : Launch) (D : va_G) (cy : Nat → ClassId) (z : Nat → Nat) (sz : Nat) (Ps : PSI) (w0 : va_W) (hT : HT cy GG Ps w0) (p0 : Nat) (p1 : Int64) (f0_38 : Int32) (h_p0 : (p0, 55) ∈ Ps) (r_p1 : RJ p1 1 2) (r_f0_38 : RI f0_38 0 0) (m_f0_38 : FLD w0 p0 10 38 (.int f0_38)) : Met l yX10_writeWord (Cond.code yX10_writeWord cX10_writeWord 3 none :: gT) ({ frames := 2, cells := 0, slots := 0, locals := 400 } : Room) (va_Pc [.ref p0, .long p1] (PRE D cy z w0 sz)) (va_Qv (fun (u : va_W) => ((∃ v9 : Int32, FLD u p0 10 38 (.int v9) ∧ RI v9 1 1) ∧ True) ∧ HT cy GG Ps u ∧ FR wr_X10_writeWord__33 wa_X10_writeWord__33 Ps w0 u) (BB D cy (va_A w0 sz) (fun (u : va_W) => u)) (va_A w0 sz)) 0 0 (va_A w0 sz) := by
  refine Met.ofW (cc := cX10_writeWord) (maxL := 3) (ret := none) (by decide) rfl ?_
  intro p e s m args below meth c s₁ B hml hv
  obtain ⟨rfl, hsz, hP, hK, hD0, hSD⟩ := hv
  have hx := B.exec
  have hb := B.bytes
  have hr := B.returns
  have hlocks := B.notSynchronized
  have hts : ∀ w ∈ gT, w.before _ s = true := fun w h => atoms_spec (ws := Cond.code yX10_writeWord cX10_writeWord 3 none :: gT) B.pre w (List.mem_cons_of_mem _ h)
  have hown : s.vm.findClass RX10 = some m.cls := findClass_of_methodNamed B.named
  subst hsz
  have hD := hD0.self (sz := s.heap.size)
  generalize hAe : va_A w0 s.heap.size = A at hD hSD ⊢
  have hA : ∀ q : Nat, s.heap.size ≤ q → A q := fun q h => by rw [← hAe]; exact Or.inr h
  have hl := lv_entry ([.ref p0, .long p1]) (n := 3) (Nat.le_of_ble_eq_true rfl)
  rw [lg_entry_eq]
  generalize (lg_sl ([.ref p0, .long p1]) ++ List.replicate (3 - (lg_sl ([.ref p0, .long p1])).length) Slot.unset).toArray = ls at hl ⊢
  have hl : lv_has ls 3 [(0, .ref p0), (1, .long p1)] := hl
  refine nameQ (fun Q hQ => ?_)
  have hw : WD D cy GG A s wr_X10_writeWord__33 wa_X10_writeWord__33 Ps w0 Ps w0 s.heap [] := ⟨hT, hP, hD, va_S.rf, FR.rf, hT.1, [], (List.append_nil _).symm⟩
  have B17 : ∀ (z0_38 : Int32) (ws : va_W) (H : Heap) (locs : List Loc) (ls : Array Slot), RJ p1 1 2 → RI z0_38 0 0 → FLD ws p0 10 38 (.int z0_38) → WD D cy GG A s wr_X10_writeWord__33 wa_X10_writeWord__33 Ps w0 Ps ws H locs → lv_has ls 3 [(0, .ref p0), (1, .long p1)] → W p l e (headSpec (Cond.code yX10_writeWord cX10_writeWord 3 none :: gT) ({ frames := 2, cells := 0, slots := 0, locals := 400 } : Room)).room s m ([.ref p0, .long p1] : List Value).toArray below meth c H locs 0 0 Q (F0 m 17 ls []) := by
    intro z0_38 ws H locs ls r_p1 r_z0_38 m_z0_38 hw hl
    refine lv_aload_n hx hb dX10_writeWord_17 rfl (lv_at hl 0 rfl) ?_
    refine lv_bipush (v := 96) hx hb dX10_writeWord_18 (by decide) ?_
    refine lv_lload_n hx hb dX10_writeWord_20 rfl (lv_at hl 1 rfl) ?_
    refine lv_ldc2 (v := 27) hx hb hown (hts _ tw_1312) dX10_writeWord_21 ?_
    refine lv_lrem hx hb dX10_writeWord_24 (by decide) (lv_topl (fun w_1 e_w_1 => ?_))
    have r_w_1 := rj_any w_1
    obtain ⟨v_2, e_v_2⟩ : ∃ q9 : Int32, (w_1 : Int64).toInt32 = q9 := ⟨_, rfl⟩
    refine lv_l2i (v := v_2) hx hb dX10_writeWord_25 e_v_2 ?_
    have r_v_2 := ri_any v_2
    refine lv_iadd hx hb dX10_writeWord_26 (lv_topi (fun v_3 e_v_3 => ?_))
    have r_v_3 := ri_any v_3
    refine tk_v (va_runV (As := [.int v_3]) (rest := []) ⟨hx, hb, hml, hown, hts⟩ (c_X10_write__36 l D cy z H.size Ps ws hw.1 p0 v_3 z0_38 h_p0 r_v_3 r_z0_38 m_z0_38) (cwV 1 hts (gV tw_1674 tw_1676 ts_98 tw_15 tw_1677) rfl rfl rfl (by decide +kernel) ⟨Nat.le_of_ble_eq_true rfl, Nat.le_of_ble_eq_true rfl⟩) (tg_preV hw hK hSD hA (ci := 10) (q := (RX10, TX10, 49)) rfl h_p0 rfl) rfl rfl hl.1 rfl (lv_room (Nat.le_of_ble_eq_true rfl)) dX10_writeWord_27 ⟨Nat.le_of_ble_eq_true rfl, Nat.le_of_ble_eq_true rfl⟩) hw hA ⟨by decide, by decide⟩ (fun ws H locs hp_v_4 hw hF9 => ?_)
    obtain ⟨v_5, m_v_5, r_v_5⟩ := (hp_v_4.1)
    subst hQ
    exact W.vret hx hb hr (fun t ht hW => ⟨⟨ws, rfl, ⟨⟨⟨_, m_v_5, r_v_5⟩, trivial⟩, hw.1, hw.2.2.2.2.1⟩, by rw [ht]; exact hw.2.1, va_K.moved hW.alike hK, hw.2.2.1⟩, hw.2.2.2.1.F ht⟩) hw.2.2.2.1.2.2 dX10_writeWord_30
  refine lv_lload_n hx hb dX10_writeWord_0 rfl (lv_at hl 1 rfl) ?_
  refine lv_ldc2 (v := 27) hx hb hown (hts _ tw_1312) dX10_writeWord_1 ?_
  refine W.lcmp hx hb dX10_writeWord_4 (lv_topi (fun v_6 e_v_6 => ?_))
  have r_v_6 := ri_any v_6
  refine lv_if_lt (tgt := 17) hx hb dX10_writeWord_5 (by decide) (fun c_5 => ?_) (fun c_5 => ?_)
  · have r_v_6 : RI v_6 (-2147483648) (-1) := rc_lt1 r_v_6 rl_0 (ti_lt c_5) (by decide)
    exact B17 f0_38 w0 _ _ ls r_p1 r_f0_38 m_f0_38 hw hl
  · have r_v_6 : RI v_6 0 2147483647 := rc_le2 rl_0 r_v_6 (ti_nlt c_5) (by decide)
    have r_p1 : RJ p1 27 2 := tq_lc_nlt r_p1 rk_27 e_v_6 c_5 (by decide)
    exact (r_p1.no (by decide)).elim
abbrev wr_X10_writeWord__32 : List (Nat × Nat) := [(10, 38)]
abbrev wa_X10_writeWord__32 : List Nat := [51]
set_option maxHeartbeats 4000000 in
set_option maxRecDepth 100000 in
theorem c_X10_writeWord__32 (l : Launch) (D : va_G) (cy : Nat → ClassId) (z : Nat → Nat) (sz : Nat) (Ps : PSI) (w0 : va_W) (hT : HT cy GG Ps w0) (p0 : Nat) (p1 : Int64) (f0_38 : Int32) (h_p0 : (p0, 55) ∈ Ps) (r_p1 : RJ p1 1 61) (r_f0_38 : RI f0_38 0 0) (m_f0_38 : FLD w0 p0 10 38 (.int f0_38)) : Met l yX10_writeWord (Cond.code yX10_writeWord cX10_writeWord 3 none :: gT) ({ frames := 3, cells := 0, slots := 0, locals := 600 } : Room) (va_Pc [.ref p0, .long p1] (PRE D cy z w0 sz)) (va_Qv (fun (u : va_W) => ((∃ v9 : Int32, FLD u p0 10 38 (.int v9) ∧ RI v9 1 2) ∧ True) ∧ HT cy GG Ps u ∧ FR wr_X10_writeWord__32 wa_X10_writeWord__32 Ps w0 u) (BB D cy (va_A w0 sz) (fun (u : va_W) => u)) (va_A w0 sz)) 0 0 (va_A w0 sz) := by
  refine Met.ofW (cc := cX10_writeWord) (maxL := 3) (ret := none) (by decide) rfl ?_
  intro p e s m args below meth c s₁ B hml hv
  obtain ⟨rfl, hsz, hP, hK, hD0, hSD⟩ := hv
  have hx := B.exec
  have hb := B.bytes
  have hr := B.returns
  have hlocks := B.notSynchronized
  have hts : ∀ w ∈ gT, w.before _ s = true := fun w h => atoms_spec (ws := Cond.code yX10_writeWord cX10_writeWord 3 none :: gT) B.pre w (List.mem_cons_of_mem _ h)
  have hown : s.vm.findClass RX10 = some m.cls := findClass_of_methodNamed B.named
  subst hsz
  have hD := hD0.self (sz := s.heap.size)
  generalize hAe : va_A w0 s.heap.size = A at hD hSD ⊢
  have hA : ∀ q : Nat, s.heap.size ≤ q → A q := fun q h => by rw [← hAe]; exact Or.inr h
  have hl := lv_entry ([.ref p0, .long p1]) (n := 3) (Nat.le_of_ble_eq_true rfl)
  rw [lg_entry_eq]
  generalize (lg_sl ([.ref p0, .long p1]) ++ List.replicate (3 - (lg_sl ([.ref p0, .long p1])).length) Slot.unset).toArray = ls at hl ⊢
  have hl : lv_has ls 3 [(0, .ref p0), (1, .long p1)] := hl
  refine nameQ (fun Q hQ => ?_)
  have hw : WD D cy GG A s wr_X10_writeWord__32 wa_X10_writeWord__32 Ps w0 Ps w0 s.heap [] := ⟨hT, hP, hD, va_S.rf, FR.rf, hT.1, [], (List.append_nil _).symm⟩
  have B17 : ∀ (z0_38 : Int32) (ws : va_W) (H : Heap) (locs : List Loc) (ls : Array Slot), RJ p1 1 61 → RI z0_38 0 1 → FLD ws p0 10 38 (.int z0_38) → WD D cy GG A s wr_X10_writeWord__32 wa_X10_writeWord__32 Ps w0 Ps ws H locs → lv_has ls 3 [(0, .ref p0), (1, .long p1)] → W p l e (headSpec (Cond.code yX10_writeWord cX10_writeWord 3 none :: gT) ({ frames := 3, cells := 0, slots := 0, locals := 600 } : Room)).room s m ([.ref p0, .long p1] : List Value).toArray below meth c H locs 0 0 Q (F0 m 17 ls []) := by
    intro z0_38 ws H locs ls r_p1 r_z0_38 m_z0_38 hw hl
    refine lv_aload_n hx hb dX10_writeWord_17 rfl (lv_at hl 0 rfl) ?_
    refine lv_bipush (v := 96) hx hb dX10_writeWord_18 (by decide) ?_
    refine lv_lload_n hx hb dX10_writeWord_20 rfl (lv_at hl 1 rfl) ?_
    refine lv_ldc2 (v := 27) hx hb hown (hts _ tw_1312) dX10_writeWord_21 ?_
    refine lv_lrem hx hb dX10_writeWord_24 (by decide) (lv_topl (fun w_1 e_w_1 => ?_))
    have r_w_1 := rj_any w_1
    obtain ⟨v_2, e_v_2⟩ : ∃ q9 : Int32, (w_1 : Int64).toInt32 = q9 := ⟨_, rfl⟩
    refine lv_l2i (v := v_2) hx hb dX10_writeWord_25 e_v_2 ?_
    have r_v_2 := ri_any v_2
    refine lv_iadd hx hb dX10_writeWord_26 (lv_topi (fun v_3 e_v_3 => ?_))
    have r_v_3 := ri_any v_3
    refine tk_v (va_runV (As := [.int v_3]) (rest := []) ⟨hx, hb, hml, hown, hts⟩ (c_X10_write__35 l D cy z H.size Ps ws hw.1 p0 v_3 z0_38 h_p0 r_v_3 r_z0_38 m_z0_38) (cwV 1 hts (gV tw_1674 tw_1676 ts_98 tw_15 tw_1677) rfl rfl rfl (by decide +kernel) ⟨Nat.le_of_ble_eq_true rfl, Nat.le_of_ble_eq_true rfl⟩) (tg_preV hw hK hSD hA (ci := 10) (q := (RX10, TX10, 49)) rfl h_p0 rfl) rfl rfl hl.1 rfl (lv_room (Nat.le_of_ble_eq_true rfl)) dX10_writeWord_27 ⟨Nat.le_of_ble_eq_true rfl, Nat.le_of_ble_eq_true rfl⟩) hw hA ⟨by decide, by decide⟩ (fun ws H locs hp_v_4 hw hF9 => ?_)
    obtain ⟨v_5, m_v_5, r_v_5⟩ := (hp_v_4.1)
    subst hQ
    exact W.vret hx hb hr (fun t ht hW => ⟨⟨ws, rfl, ⟨⟨⟨_, m_v_5, r_v_5⟩, trivial⟩, hw.1, hw.2.2.2.2.1⟩, by rw [ht]; exact hw.2.1, va_K.moved hW.alike hK, hw.2.2.1⟩, hw.2.2.2.1.F ht⟩) hw.2.2.2.1.2.2 dX10_writeWord_30
  refine lv_lload_n hx hb dX10_writeWord_0 rfl (lv_at hl 1 rfl) ?_
  refine lv_ldc2 (v := 27) hx hb hown (hts _ tw_1312) dX10_writeWord_1 ?_
  refine W.lcmp hx hb dX10_writeWord_4 (lv_topi (fun v_6 e_v_6 => ?_))
  have r_v_6 := ri_any v_6
  refine lv_if_lt (tgt := 17) hx hb dX10_writeWord_5 (by decide) (fun c_5 => ?_) (fun c_5 => ?_)
  · have r_v_6 : RI v_6 (-2147483648) (-1) := rc_lt1 r_v_6 rl_0 (ti_lt c_5) (by decide)
    have r_p1 : RJ p1 1 26 := tq_lc_lt r_p1 rk_27 e_v_6 c_5 (by decide)
    exact B17 f0_38 w0 _ _ ls (r_p1.to (by decide)) (r_f0_38.to (by decide)) m_f0_38 hw hl
  · have r_v_6 : RI v_6 0 2147483647 := rc_le2 rl_0 r_v_6 (ti_nlt c_5) (by decide)
    have r_p1 : RJ p1 27 61 := tq_lc_nlt r_p1 rk_27 e_v_6 c_5 (by decide)
    refine lv_aload_n hx hb dX10_writeWord_8 rfl (lv_at hl 0 rfl) ?_
    refine lv_lload_n hx hb dX10_writeWord_9 rfl (lv_at hl 1 rfl) ?_
    refine lv_ldc2 (v := 27) hx hb hown (hts _ tw_1312) dX10_writeWord_10 ?_
    refine lv_ldiv hx hb dX10_writeWord_13 (by decide) (lv_topl (fun w_7 e_w_7 => ?_))
    have r_w_7 := tq_ldiv (lo := 1) (hi := 2) r_p1 (by decide) e_w_7
    refine tk_v (va_runV (As := [.long w_7]) (rest := []) ⟨hx, hb, hml, hown, hts⟩ (c_X10_writeWord__33 l D cy z s.heap.size Ps w0 hw.1 p0 w_7 f0_38 h_p0 r_w_7 r_f0_38 m_f0_38) (cwV 1 hts (gV tw_1670 tw_1672 ts_97 tw_15 tw_1673) rfl rfl rfl (by decide +kernel) ⟨Nat.le_of_ble_eq_true rfl, Nat.le_of_ble_eq_true rfl⟩) (tg_preV hw hK hSD hA (ci := 10) (q := (RX10, TX10, 49)) rfl h_p0 rfl) rfl rfl hl.1 rfl (lv_room (Nat.le_of_ble_eq_true rfl)) dX10_writeWord_14 ⟨Nat.le_of_ble_eq_true rfl, Nat.le_of_ble_eq_true rfl⟩) hw hA ⟨by decide, by decide⟩ (fun ws H locs hp_v_8 hw hF9 => ?_)
    obtain ⟨v_9, m_v_9, r_v_9⟩ := (hp_v_8.1)
    exact B17 v_9 ws _ _ ls (r_p1.to (by decide)) (r_v_9.to (by decide)) m_v_9 hw hl
abbrev wr_X10_writeWord__31 : List (Nat × Nat) := [(10, 38)]
abbrev wa_X10_writeWord__31 : List Nat := [51]
set_option maxHeartbeats 4000000 in
set_option maxRecDepth 100000 in
theorem c_X10_writeWord__31 (l : Launch) (D : va_G) (cy : Nat → ClassId) (z : Nat → Nat) (sz : Nat) (Ps : PSI) (w0 : va_W) (hT : HT cy GG Ps w0) (p0 : Nat) (p1 : Int64) (f0_38 : Int32) (h_p0 : (p0, 55) ∈ Ps) (r_p1 : RJ p1 1 1659) (r_f0_38 : RI f0_38 0 0) (m_f0_38 : FLD w0 p0 10 38 (.int f0_38)) : Met l yX10_writeWord (Cond.code yX10_writeWord cX10_writeWord 3 none :: gT) ({ frames := 4, cells := 0, slots := 0, locals := 800 } : Room) (va_Pc [.ref p0, .long p1] (PRE D cy z w0 sz)) (va_Qv (fun (u : va_W) => ((∃ v9 : Int32, FLD u p0 10 38 (.int v9) ∧ RI v9 1 3) ∧ True) ∧ HT cy GG Ps u ∧ FR wr_X10_writeWord__31 wa_X10_writeWord__31 Ps w0 u) (BB D cy (va_A w0 sz) (fun (u : va_W) => u)) (va_A w0 sz)) 0 0 (va_A w0 sz) := by
  refine Met.ofW (cc := cX10_writeWord) (maxL := 3) (ret := none) (by decide) rfl ?_
  intro p e s m args below meth c s₁ B hml hv
  obtain ⟨rfl, hsz, hP, hK, hD0, hSD⟩ := hv
  have hx := B.exec
  have hb := B.bytes
  have hr := B.returns
  have hlocks := B.notSynchronized
  have hts : ∀ w ∈ gT, w.before _ s = true := fun w h => atoms_spec (ws := Cond.code yX10_writeWord cX10_writeWord 3 none :: gT) B.pre w (List.mem_cons_of_mem _ h)
  have hown : s.vm.findClass RX10 = some m.cls := findClass_of_methodNamed B.named
  subst hsz
  have hD := hD0.self (sz := s.heap.size)
  generalize hAe : va_A w0 s.heap.size = A at hD hSD ⊢
  have hA : ∀ q : Nat, s.heap.size ≤ q → A q := fun q h => by rw [← hAe]; exact Or.inr h
  have hl := lv_entry ([.ref p0, .long p1]) (n := 3) (Nat.le_of_ble_eq_true rfl)
  rw [lg_entry_eq]
  generalize (lg_sl ([.ref p0, .long p1]) ++ List.replicate (3 - (lg_sl ([.ref p0, .long p1])).length) Slot.unset).toArray = ls at hl ⊢
  have hl : lv_has ls 3 [(0, .ref p0), (1, .long p1)] := hl
  refine nameQ (fun Q hQ => ?_)
  have hw : WD D cy GG A s wr_X10_writeWord__31 wa_X10_writeWord__31 Ps w0 Ps w0 s.heap [] := ⟨hT, hP, hD, va_S.rf, FR.rf, hT.1, [], (List.append_nil _).symm⟩
  have B17 : ∀ (z0_38 : Int32) (ws : va_W) (H : Heap) (locs : List Loc) (ls : Array Slot), RJ p1 1 1659 → RI z0_38 0 2 → FLD ws p0 10 38 (.int z0_38) → WD D cy GG A s wr_X10_writeWord__31 wa_X10_writeWord__31 Ps w0 Ps ws H locs → lv_has ls 3 [(0, .ref p0), (1, .long p1)] → W p l e (headSpec (Cond.code yX10_writeWord cX10_writeWord 3 none :: gT) ({ frames := 4, cells := 0, slots := 0, locals := 800 } : Room)).room s m ([.ref p0, .long p1] : List Value).toArray below meth c H locs 0 0 Q (F0 m 17 ls []) := by
    intro z0_38 ws H locs ls r_p1 r_z0_38 m_z0_38 hw hl
    refine lv_aload_n hx hb dX10_writeWord_17 rfl (lv_at hl 0 rfl) ?_
    refine lv_bipush (v := 96) hx hb dX10_writeWord_18 (by decide) ?_
    refine lv_lload_n hx hb dX10_writeWord_20 rfl (lv_at hl 1 rfl) ?_
    refine lv_ldc2 (v := 27) hx hb hown (hts _ tw_1312) dX10_writeWord_21 ?_
    refine lv_lrem hx hb dX10_writeWord_24 (by decide) (lv_topl (fun w_1 e_w_1 => ?_))
    have r_w_1 := rj_any w_1
    obtain ⟨v_2, e_v_2⟩ : ∃ q9 : Int32, (w_1 : Int64).toInt32 = q9 := ⟨_, rfl⟩
    refine lv_l2i (v := v_2) hx hb dX10_writeWord_25 e_v_2 ?_
    have r_v_2 := ri_any v_2
    refine lv_iadd hx hb dX10_writeWord_26 (lv_topi (fun v_3 e_v_3 => ?_))
    have r_v_3 := ri_any v_3
    refine tk_v (va_runV (As := [.int v_3]) (rest := []) ⟨hx, hb, hml, hown, hts⟩ (c_X10_write__34 l D cy z H.size Ps ws hw.1 p0 v_3 z0_38 h_p0 r_v_3 r_z0_38 m_z0_38) (cwV 1 hts (gV tw_1674 tw_1676 ts_98 tw_15 tw_1677) rfl rfl rfl (by decide +kernel) ⟨Nat.le_of_ble_eq_true rfl, Nat.le_of_ble_eq_true rfl⟩) (tg_preV hw hK hSD hA (ci := 10) (q := (RX10, TX10, 49)) rfl h_p0 rfl) rfl rfl hl.1 rfl (lv_room (Nat.le_of_ble_eq_true rfl)) dX10_writeWord_27 ⟨Nat.le_of_ble_eq_true rfl, Nat.le_of_ble_eq_true rfl⟩) hw hA ⟨by decide, by decide⟩ (fun ws H locs hp_v_4 hw hF9 => ?_)
    obtain ⟨v_5, m_v_5, r_v_5⟩ := (hp_v_4.1)
    subst hQ
    exact W.vret hx hb hr (fun t ht hW => ⟨⟨ws, rfl, ⟨⟨⟨_, m_v_5, r_v_5⟩, trivial⟩, hw.1, hw.2.2.2.2.1⟩, by rw [ht]; exact hw.2.1, va_K.moved hW.alike hK, hw.2.2.1⟩, hw.2.2.2.1.F ht⟩) hw.2.2.2.1.2.2 dX10_writeWord_30
  refine lv_lload_n hx hb dX10_writeWord_0 rfl (lv_at hl 1 rfl) ?_
  refine lv_ldc2 (v := 27) hx hb hown (hts _ tw_1312) dX10_writeWord_1 ?_
  refine W.lcmp hx hb dX10_writeWord_4 (lv_topi (fun v_6 e_v_6 => ?_))
  have r_v_6 := ri_any v_6
  refine lv_if_lt (tgt := 17) hx hb dX10_writeWord_5 (by decide) (fun c_5 => ?_) (fun c_5 => ?_)
  · have r_v_6 : RI v_6 (-2147483648) (-1) := rc_lt1 r_v_6 rl_0 (ti_lt c_5) (by decide)
    have r_p1 : RJ p1 1 26 := tq_lc_lt r_p1 rk_27 e_v_6 c_5 (by decide)
    exact B17 f0_38 w0 _ _ ls (r_p1.to (by decide)) (r_f0_38.to (by decide)) m_f0_38 hw hl
  · have r_v_6 : RI v_6 0 2147483647 := rc_le2 rl_0 r_v_6 (ti_nlt c_5) (by decide)
    have r_p1 : RJ p1 27 1659 := tq_lc_nlt r_p1 rk_27 e_v_6 c_5 (by decide)
    refine lv_aload_n hx hb dX10_writeWord_8 rfl (lv_at hl 0 rfl) ?_
    refine lv_lload_n hx hb dX10_writeWord_9 rfl (lv_at hl 1 rfl) ?_
    refine lv_ldc2 (v := 27) hx hb hown (hts _ tw_1312) dX10_writeWord_10 ?_
    refine lv_ldiv hx hb dX10_writeWord_13 (by decide) (lv_topl (fun w_7 e_w_7 => ?_))
    have r_w_7 := tq_ldiv (lo := 1) (hi := 61) r_p1 (by decide) e_w_7
    refine tk_v (va_runV (As := [.long w_7]) (rest := []) ⟨hx, hb, hml, hown, hts⟩ (c_X10_writeWord__32 l D cy z s.heap.size Ps w0 hw.1 p0 w_7 f0_38 h_p0 r_w_7 r_f0_38 m_f0_38) (cwV 1 hts (gV tw_1670 tw_1672 ts_97 tw_15 tw_1673) rfl rfl rfl (by decide +kernel) ⟨Nat.le_of_ble_eq_true rfl, Nat.le_of_ble_eq_true rfl⟩) (tg_preV hw hK hSD hA (ci := 10) (q := (RX10, TX10, 49)) rfl h_p0 rfl) rfl rfl hl.1 rfl (lv_room (Nat.le_of_ble_eq_true rfl)) dX10_writeWord_14 ⟨Nat.le_of_ble_eq_true rfl, Nat.le_of_ble_eq_true rfl⟩) hw hA ⟨by decide, by decide⟩ (fun ws H locs hp_v_8 hw hF9 => ?_)
    obtain ⟨v_9, m_v_9, r_v_9⟩ := (hp_v_8.1)
    exact B17 v_9 ws _ _ ls (r_p1.to (by decide)) (r_v_9.to (by decide)) m_v_9 hw hl
abbrev wr_X10_writeWord__30 : List (Nat × Nat) := [(10, 38)]
abbrev wa_X10_writeWord__30 : List Nat := [51]
set_option maxHeartbeats 4000000 in
set_option maxRecDepth 100000 in
theorem c_X10_writeWord__30 (l : Launch) (D : va_G) (cy : Nat → ClassId) (z : Nat → Nat) (sz : Nat) (Ps : PSI) (w0 : va_W) (hT : HT cy GG Ps w0) (p0 : Nat) (p1 : Int64) (f0_38 : Int32) (h_p0 : (p0, 55) ∈ Ps) (r_p1 : RJ p1 1 44797) (r_f0_38 : RI f0_38 0 0) (m_f0_38 : FLD w0 p0 10 38 (.int f0_38)) : Met l yX10_writeWord (Cond.code yX10_writeWord cX10_writeWord 3 none :: gT) ({ frames := 5, cells := 0, slots := 0, locals := 1000 } : Room) (va_Pc [.ref p0, .long p1] (PRE D cy z w0 sz)) (va_Qv (fun (u : va_W) => ((∃ v9 : Int32, FLD u p0 10 38 (.int v9) ∧ RI v9 1 4) ∧ True) ∧ HT cy GG Ps u ∧ FR wr_X10_writeWord__30 wa_X10_writeWord__30 Ps w0 u) (BB D cy (va_A w0 sz) (fun (u : va_W) => u)) (va_A w0 sz)) 0 0 (va_A w0 sz) := by
  refine Met.ofW (cc := cX10_writeWord) (maxL := 3) (ret := none) (by decide) rfl ?_
  intro p e s m args below meth c s₁ B hml hv
  obtain ⟨rfl, hsz, hP, hK, hD0, hSD⟩ := hv
  have hx := B.exec
  have hb := B.bytes
  have hr := B.returns
  have hlocks := B.notSynchronized
  have hts : ∀ w ∈ gT, w.before _ s = true := fun w h => atoms_spec (ws := Cond.code yX10_writeWord cX10_writeWord 3 none :: gT) B.pre w (List.mem_cons_of_mem _ h)
  have hown : s.vm.findClass RX10 = some m.cls := findClass_of_methodNamed B.named
  subst hsz
  have hD := hD0.self (sz := s.heap.size)
  generalize hAe : va_A w0 s.heap.size = A at hD hSD ⊢
  have hA : ∀ q : Nat, s.heap.size ≤ q → A q := fun q h => by rw [← hAe]; exact Or.inr h
  have hl := lv_entry ([.ref p0, .long p1]) (n := 3) (Nat.le_of_ble_eq_true rfl)
  rw [lg_entry_eq]
  generalize (lg_sl ([.ref p0, .long p1]) ++ List.replicate (3 - (lg_sl ([.ref p0, .long p1])).length) Slot.unset).toArray = ls at hl ⊢
  have hl : lv_has ls 3 [(0, .ref p0), (1, .long p1)] := hl
  refine nameQ (fun Q hQ => ?_)
  have hw : WD D cy GG A s wr_X10_writeWord__30 wa_X10_writeWord__30 Ps w0 Ps w0 s.heap [] := ⟨hT, hP, hD, va_S.rf, FR.rf, hT.1, [], (List.append_nil _).symm⟩
  have B17 : ∀ (z0_38 : Int32) (ws : va_W) (H : Heap) (locs : List Loc) (ls : Array Slot), RJ p1 1 44797 → RI z0_38 0 3 → FLD ws p0 10 38 (.int z0_38) → WD D cy GG A s wr_X10_writeWord__30 wa_X10_writeWord__30 Ps w0 Ps ws H locs → lv_has ls 3 [(0, .ref p0), (1, .long p1)] → W p l e (headSpec (Cond.code yX10_writeWord cX10_writeWord 3 none :: gT) ({ frames := 5, cells := 0, slots := 0, locals := 1000 } : Room)).room s m ([.ref p0, .long p1] : List Value).toArray below meth c H locs 0 0 Q (F0 m 17 ls []) := by
    intro z0_38 ws H locs ls r_p1 r_z0_38 m_z0_38 hw hl
    refine lv_aload_n hx hb dX10_writeWord_17 rfl (lv_at hl 0 rfl) ?_
    refine lv_bipush (v := 96) hx hb dX10_writeWord_18 (by decide) ?_
    refine lv_lload_n hx hb dX10_writeWord_20 rfl (lv_at hl 1 rfl) ?_
    refine lv_ldc2 (v := 27) hx hb hown (hts _ tw_1312) dX10_writeWord_21 ?_
    refine lv_lrem hx hb dX10_writeWord_24 (by decide) (lv_topl (fun w_1 e_w_1 => ?_))
    have r_w_1 := rj_any w_1
    obtain ⟨v_2, e_v_2⟩ : ∃ q9 : Int32, (w_1 : Int64).toInt32 = q9 := ⟨_, rfl⟩
    refine lv_l2i (v := v_2) hx hb dX10_writeWord_25 e_v_2 ?_
    have r_v_2 := ri_any v_2
    refine lv_iadd hx hb dX10_writeWord_26 (lv_topi (fun v_3 e_v_3 => ?_))
    have r_v_3 := ri_any v_3
    refine tk_v (va_runV (As := [.int v_3]) (rest := []) ⟨hx, hb, hml, hown, hts⟩ (c_X10_write__33 l D cy z H.size Ps ws hw.1 p0 v_3 z0_38 h_p0 r_v_3 r_z0_38 m_z0_38) (cwV 1 hts (gV tw_1674 tw_1676 ts_98 tw_15 tw_1677) rfl rfl rfl (by decide +kernel) ⟨Nat.le_of_ble_eq_true rfl, Nat.le_of_ble_eq_true rfl⟩) (tg_preV hw hK hSD hA (ci := 10) (q := (RX10, TX10, 49)) rfl h_p0 rfl) rfl rfl hl.1 rfl (lv_room (Nat.le_of_ble_eq_true rfl)) dX10_writeWord_27 ⟨Nat.le_of_ble_eq_true rfl, Nat.le_of_ble_eq_true rfl⟩) hw hA ⟨by decide, by decide⟩ (fun ws H locs hp_v_4 hw hF9 => ?_)
    obtain ⟨v_5, m_v_5, r_v_5⟩ := (hp_v_4.1)
    subst hQ
    exact W.vret hx hb hr (fun t ht hW => ⟨⟨ws, rfl, ⟨⟨⟨_, m_v_5, r_v_5⟩, trivial⟩, hw.1, hw.2.2.2.2.1⟩, by rw [ht]; exact hw.2.1, va_K.moved hW.alike hK, hw.2.2.1⟩, hw.2.2.2.1.F ht⟩) hw.2.2.2.1.2.2 dX10_writeWord_30
  refine lv_lload_n hx hb dX10_writeWord_0 rfl (lv_at hl 1 rfl) ?_
  refine lv_ldc2 (v := 27) hx hb hown (hts _ tw_1312) dX10_writeWord_1 ?_
  refine W.lcmp hx hb dX10_writeWord_4 (lv_topi (fun v_6 e_v_6 => ?_))
  have r_v_6 := ri_any v_6
  refine lv_if_lt (tgt := 17) hx hb dX10_writeWord_5 (by decide) (fun c_5 => ?_) (fun c_5 => ?_)
  · have r_v_6 : RI v_6 (-2147483648) (-1) := rc_lt1 r_v_6 rl_0 (ti_lt c_5) (by decide)
    have r_p1 : RJ p1 1 26 := tq_lc_lt r_p1 rk_27 e_v_6 c_5 (by decide)
    exact B17 f0_38 w0 _ _ ls (r_p1.to (by decide)) (r_f0_38.to (by decide)) m_f0_38 hw hl
  · have r_v_6 : RI v_6 0 2147483647 := rc_le2 rl_0 r_v_6 (ti_nlt c_5) (by decide)
    have r_p1 : RJ p1 27 44797 := tq_lc_nlt r_p1 rk_27 e_v_6 c_5 (by decide)
    refine lv_aload_n hx hb dX10_writeWord_8 rfl (lv_at hl 0 rfl) ?_
    refine lv_lload_n hx hb dX10_writeWord_9 rfl (lv_at hl 1 rfl) ?_
    refine lv_ldc2 (v := 27) hx hb hown (hts _ tw_1312) dX10_writeWord_10 ?_
    refine lv_ldiv hx hb dX10_writeWord_13 (by decide) (lv_topl (fun w_7 e_w_7 => ?_))
    have r_w_7 := tq_ldiv (lo := 1) (hi := 1659) r_p1 (by decide) e_w_7
    refine tk_v (va_runV (As := [.long w_7]) (rest := []) ⟨hx, hb, hml, hown, hts⟩ (c_X10_writeWord__31 l D cy z s.heap.size Ps w0 hw.1 p0 w_7 f0_38 h_p0 r_w_7 r_f0_38 m_f0_38) (cwV 1 hts (gV tw_1670 tw_1672 ts_97 tw_15 tw_1673) rfl rfl rfl (by decide +kernel) ⟨Nat.le_of_ble_eq_true rfl, Nat.le_of_ble_eq_true rfl⟩) (tg_preV hw hK hSD hA (ci := 10) (q := (RX10, TX10, 49)) rfl h_p0 rfl) rfl rfl hl.1 rfl (lv_room (Nat.le_of_ble_eq_true rfl)) dX10_writeWord_14 ⟨Nat.le_of_ble_eq_true rfl, Nat.le_of_ble_eq_true rfl⟩) hw hA ⟨by decide, by decide⟩ (fun ws H locs hp_v_8 hw hF9 => ?_)
    obtain ⟨v_9, m_v_9, r_v_9⟩ := (hp_v_8.1)
    exact B17 v_9 ws _ _ ls (r_p1.to (by decide)) (r_v_9.to (by decide)) m_v_9 hw hl
abbrev wr_X10_writeWord__29 : List (Nat × Nat) := [(10, 38)]
abbrev wa_X10_writeWord__29 : List Nat := [51]
set_option maxHeartbeats 4000000 in
set_option maxRecDepth 100000 in
theorem c_X10_writeWord__29 (l : Launch) (D : va_G) (cy : Nat → ClassId) (z : Nat → Nat) (sz : Nat) (Ps : PSI) (w0 : va_W) (hT : HT cy GG Ps w0) (p0 : Nat) (p1 : Int64) (f0_38 : Int32) (h_p0 : (p0, 55) ∈ Ps) (r_p1 : RJ p1 1 1209527) (r_f0_38 : RI f0_38 0 0) (m_f0_38 : FLD w0 p0 10 38 (.int f0_38)) : Met l yX10_writeWord (Cond.code yX10_writeWord cX10_writeWord 3 none :: gT) ({ frames := 6, cells := 0, slots := 0, locals := 1200 } : Room) (va_Pc [.ref p0, .long p1] (PRE D cy z w0 sz)) (va_Qv (fun (u : va_W) => ((∃ v9 : Int32, FLD u p0 10 38 (.int v9) ∧ RI v9 1 5) ∧ True) ∧ HT cy GG Ps u ∧ FR wr_X10_writeWord__29 wa_X10_writeWord__29 Ps w0 u) (BB D cy (va_A w0 sz) (fun (u : va_W) => u)) (va_A w0 sz)) 0 0 (va_A w0 sz) := by
  refine Met.ofW (cc := cX10_writeWord) (maxL := 3) (ret := none) (by decide) rfl ?_
  intro p e s m args below meth c s₁ B hml hv
  obtain ⟨rfl, hsz, hP, hK, hD0, hSD⟩ := hv
  have hx := B.exec
  have hb := B.bytes
  have hr := B.returns
  have hlocks := B.notSynchronized
  have hts : ∀ w ∈ gT, w.before _ s = true := fun w h => atoms_spec (ws := Cond.code yX10_writeWord cX10_writeWord 3 none :: gT) B.pre w (List.mem_cons_of_mem _ h)
  have hown : s.vm.findClass RX10 = some m.cls := findClass_of_methodNamed B.named
  subst hsz
  have hD := hD0.self (sz := s.heap.size)
  generalize hAe : va_A w0 s.heap.size = A at hD hSD ⊢
  have hA : ∀ q : Nat, s.heap.size ≤ q → A q := fun q h => by rw [← hAe]; exact Or.inr h
  have hl := lv_entry ([.ref p0, .long p1]) (n := 3) (Nat.le_of_ble_eq_true rfl)
  rw [lg_entry_eq]
  generalize (lg_sl ([.ref p0, .long p1]) ++ List.replicate (3 - (lg_sl ([.ref p0, .long p1])).length) Slot.unset).toArray = ls at hl ⊢
  have hl : lv_has ls 3 [(0, .ref p0), (1, .long p1)] := hl
  refine nameQ (fun Q hQ => ?_)
  have hw : WD D cy GG A s wr_X10_writeWord__29 wa_X10_writeWord__29 Ps w0 Ps w0 s.heap [] := ⟨hT, hP, hD, va_S.rf, FR.rf, hT.1, [], (List.append_nil _).symm⟩
  have B17 : ∀ (z0_38 : Int32) (ws : va_W) (H : Heap) (locs : List Loc) (ls : Array Slot), RJ p1 1 1209527 → RI z0_38 0 4 → FLD ws p0 10 38 (.int z0_38) → WD D cy GG A s wr_X10_writeWord__29 wa_X10_writeWord__29 Ps w0 Ps ws H locs → lv_has ls 3 [(0, .ref p0), (1, .long p1)] → W p l e (headSpec (Cond.code yX10_writeWord cX10_writeWord 3 none :: gT) ({ frames := 6, cells := 0, slots := 0, locals := 1200 } : Room)).room s m ([.ref p0, .long p1] : List Value).toArray below meth c H locs 0 0 Q (F0 m 17 ls []) := by
    intro z0_38 ws H locs ls r_p1 r_z0_38 m_z0_38 hw hl
    refine lv_aload_n hx hb dX10_writeWord_17 rfl (lv_at hl 0 rfl) ?_
    refine lv_bipush (v := 96) hx hb dX10_writeWord_18 (by decide) ?_
    refine lv_lload_n hx hb dX10_writeWord_20 rfl (lv_at hl 1 rfl) ?_
    refine lv_ldc2 (v := 27) hx hb hown (hts _ tw_1312) dX10_writeWord_21 ?_
    refine lv_lrem hx hb dX10_writeWord_24 (by decide) (lv_topl (fun w_1 e_w_1 => ?_))
    have r_w_1 := rj_any w_1
    obtain ⟨v_2, e_v_2⟩ : ∃ q9 : Int32, (w_1 : Int64).toInt32 = q9 := ⟨_, rfl⟩
    refine lv_l2i (v := v_2) hx hb dX10_writeWord_25 e_v_2 ?_
    have r_v_2 := ri_any v_2
    refine lv_iadd hx hb dX10_writeWord_26 (lv_topi (fun v_3 e_v_3 => ?_))
    have r_v_3 := ri_any v_3
    refine tk_v (va_runV (As := [.int v_3]) (rest := []) ⟨hx, hb, hml, hown, hts⟩ (c_X10_write__32 l D cy z H.size Ps ws hw.1 p0 v_3 z0_38 h_p0 r_v_3 r_z0_38 m_z0_38) (cwV 1 hts (gV tw_1674 tw_1676 ts_98 tw_15 tw_1677) rfl rfl rfl (by decide +kernel) ⟨Nat.le_of_ble_eq_true rfl, Nat.le_of_ble_eq_true rfl⟩) (tg_preV hw hK hSD hA (ci := 10) (q := (RX10, TX10, 49)) rfl h_p0 rfl) rfl rfl hl.1 rfl (lv_room (Nat.le_of_ble_eq_true rfl)) dX10_writeWord_27 ⟨Nat.le_of_ble_eq_true rfl, Nat.le_of_ble_eq_true rfl⟩) hw hA ⟨by decide, by decide⟩ (fun ws H locs hp_v_4 hw hF9 => ?_)
    obtain ⟨v_5, m_v_5, r_v_5⟩ := (hp_v_4.1)
    subst hQ
    exact W.vret hx hb hr (fun t ht hW => ⟨⟨ws, rfl, ⟨⟨⟨_, m_v_5, r_v_5⟩, trivial⟩, hw.1, hw.2.2.2.2.1⟩, by rw [ht]; exact hw.2.1, va_K.moved hW.alike hK, hw.2.2.1⟩, hw.2.2.2.1.F ht⟩) hw.2.2.2.1.2.2 dX10_writeWord_30
  refine lv_lload_n hx hb dX10_writeWord_0 rfl (lv_at hl 1 rfl) ?_
  refine lv_ldc2 (v := 27) hx hb hown (hts _ tw_1312) dX10_writeWord_1 ?_
  refine W.lcmp hx hb dX10_writeWord_4 (lv_topi (fun v_6 e_v_6 => ?_))
  have r_v_6 := ri_any v_6
  refine lv_if_lt (tgt := 17) hx hb dX10_writeWord_5 (by decide) (fun c_5 => ?_) (fun c_5 => ?_)
  · have r_v_6 : RI v_6 (-2147483648) (-1) := rc_lt1 r_v_6 rl_0 (ti_lt c_5) (by decide)
    have r_p1 : RJ p1 1 26 := tq_lc_lt r_p1 rk_27 e_v_6 c_5 (by decide)
    exact B17 f0_38 w0 _ _ ls (r_p1.to (by decide)) (r_f0_38.to (by decide)) m_f0_38 hw hl
  · have r_v_6 : RI v_6 0 2147483647 := rc_le2 rl_0 r_v_6 (ti_nlt c_5) (by decide)
    have r_p1 : RJ p1 27 1209527 := tq_lc_nlt r_p1 rk_27 e_v_6 c_5 (by decide)
    refine lv_aload_n hx hb dX10_writeWord_8 rfl (lv_at hl 0 rfl) ?_
    refine lv_lload_n hx hb dX10_writeWord_9 rfl (lv_at hl 1 rfl) ?_
    refine lv_ldc2 (v := 27) hx hb hown (hts _ tw_1312) dX10_writeWord_10 ?_
    refine lv_ldiv hx hb dX10_writeWord_13 (by decide) (lv_topl (fun w_7 e_w_7 => ?_))
    have r_w_7 := tq_ldiv (lo := 1) (hi := 44797) r_p1 (by decide) e_w_7
    refine tk_v (va_runV (As := [.long w_7]) (rest := []) ⟨hx, hb, hml, hown, hts⟩ (c_X10_writeWord__30 l D cy z s.heap.size Ps w0 hw.1 p0 w_7 f0_38 h_p0 r_w_7 r_f0_38 m_f0_38) (cwV 1 hts (gV tw_1670 tw_1672 ts_97 tw_15 tw_1673) rfl rfl rfl (by decide +kernel) ⟨Nat.le_of_ble_eq_true rfl, Nat.le_of_ble_eq_true rfl⟩) (tg_preV hw hK hSD hA (ci := 10) (q := (RX10, TX10, 49)) rfl h_p0 rfl) rfl rfl hl.1 rfl (lv_room (Nat.le_of_ble_eq_true rfl)) dX10_writeWord_14 ⟨Nat.le_of_ble_eq_true rfl, Nat.le_of_ble_eq_true rfl⟩) hw hA ⟨by decide, by decide⟩ (fun ws H locs hp_v_8 hw hF9 => ?_)
    obtain ⟨v_9, m_v_9, r_v_9⟩ := (hp_v_8.1)
    exact B17 v_9 ws _ _ ls (r_p1.to (by decide)) (r_v_9.to (by decide)) m_v_9 hw hl
abbrev wr_X10_writeWord__28 : List (Nat × Nat) := [(10, 38)]
abbrev wa_X10_writeWord__28 : List Nat := [51]
set_option maxHeartbeats 4000000 in
set_option maxRecDepth 100000 in
theorem c_X10_writeWord__28 (l : Launch) (D : va_G) (cy : Nat → ClassId) (z : Nat → Nat) (sz : Nat) (Ps : PSI) (w0 : va_W) (hT : HT cy GG Ps w0) (p0 : Nat) (p1 : Int64) (f0_38 : Int32) (h_p0 : (p0, 55) ∈ Ps) (r_p1 : RJ p1 1 32657250) (r_f0_38 : RI f0_38 0 0) (m_f0_38 : FLD w0 p0 10 38 (.int f0_38)) : Met l yX10_writeWord (Cond.code yX10_writeWord cX10_writeWord 3 none :: gT) ({ frames := 7, cells := 0, slots := 0, locals := 1400 } : Room) (va_Pc [.ref p0, .long p1] (PRE D cy z w0 sz)) (va_Qv (fun (u : va_W) => ((∃ v9 : Int32, FLD u p0 10 38 (.int v9) ∧ RI v9 1 6) ∧ True) ∧ HT cy GG Ps u ∧ FR wr_X10_writeWord__28 wa_X10_writeWord__28 Ps w0 u) (BB D cy (va_A w0 sz) (fun (u : va_W) => u)) (va_A w0 sz)) 0 0 (va_A w0 sz) := by
  refine Met.ofW (cc := cX10_writeWord) (maxL := 3) (ret := none) (by decide) rfl ?_
  intro p e s m args below meth c s₁ B hml hv
  obtain ⟨rfl, hsz, hP, hK, hD0, hSD⟩ := hv
  have hx := B.exec
  have hb := B.bytes
  have hr := B.returns
  have hlocks := B.notSynchronized
  have hts : ∀ w ∈ gT, w.before _ s = true := fun w h => atoms_spec (ws := Cond.code yX10_writeWord cX10_writeWord 3 none :: gT) B.pre w (List.mem_cons_of_mem _ h)
  have hown : s.vm.findClass RX10 = some m.cls := findClass_of_methodNamed B.named
  subst hsz
  have hD := hD0.self (sz := s.heap.size)
  generalize hAe : va_A w0 s.heap.size = A at hD hSD ⊢
  have hA : ∀ q : Nat, s.heap.size ≤ q → A q := fun q h => by rw [← hAe]; exact Or.inr h
  have hl := lv_entry ([.ref p0, .long p1]) (n := 3) (Nat.le_of_ble_eq_true rfl)
  rw [lg_entry_eq]
  generalize (lg_sl ([.ref p0, .long p1]) ++ List.replicate (3 - (lg_sl ([.ref p0, .long p1])).length) Slot.unset).toArray = ls at hl ⊢
  have hl : lv_has ls 3 [(0, .ref p0), (1, .long p1)] := hl
  refine nameQ (fun Q hQ => ?_)
  have hw : WD D cy GG A s wr_X10_writeWord__28 wa_X10_writeWord__28 Ps w0 Ps w0 s.heap [] := ⟨hT, hP, hD, va_S.rf, FR.rf, hT.1, [], (List.append_nil _).symm⟩
  have B17 : ∀ (z0_38 : Int32) (ws : va_W) (H : Heap) (locs : List Loc) (ls : Array Slot), RJ p1 1 32657250 → RI z0_38 0 5 → FLD ws p0 10 38 (.int z0_38) → WD D cy GG A s wr_X10_writeWord__28 wa_X10_writeWord__28 Ps w0 Ps ws H locs → lv_has ls 3 [(0, .ref p0), (1, .long p1)] → W p l e (headSpec (Cond.code yX10_writeWord cX10_writeWord 3 none :: gT) ({ frames := 7, cells := 0, slots := 0, locals := 1400 } : Room)).room s m ([.ref p0, .long p1] : List Value).toArray below meth c H locs 0 0 Q (F0 m 17 ls []) := by
    intro z0_38 ws H locs ls r_p1 r_z0_38 m_z0_38 hw hl
    refine lv_aload_n hx hb dX10_writeWord_17 rfl (lv_at hl 0 rfl) ?_
    refine lv_bipush (v := 96) hx hb dX10_writeWord_18 (by decide) ?_
    refine lv_lload_n hx hb dX10_writeWord_20 rfl (lv_at hl 1 rfl) ?_
    refine lv_ldc2 (v := 27) hx hb hown (hts _ tw_1312) dX10_writeWord_21 ?_
    refine lv_lrem hx hb dX10_writeWord_24 (by decide) (lv_topl (fun w_1 e_w_1 => ?_))
    have r_w_1 := rj_any w_1
    obtain ⟨v_2, e_v_2⟩ : ∃ q9 : Int32, (w_1 : Int64).toInt32 = q9 := ⟨_, rfl⟩
    refine lv_l2i (v := v_2) hx hb dX10_writeWord_25 e_v_2 ?_
    have r_v_2 := ri_any v_2
    refine lv_iadd hx hb dX10_writeWord_26 (lv_topi (fun v_3 e_v_3 => ?_))
    have r_v_3 := ri_any v_3
    refine tk_v (va_runV (As := [.int v_3]) (rest := []) ⟨hx, hb, hml, hown, hts⟩ (c_X10_write__31 l D cy z H.size Ps ws hw.1 p0 v_3 z0_38 h_p0 r_v_3 r_z0_38 m_z0_38) (cwV 1 hts (gV tw_1674 tw_1676 ts_98 tw_15 tw_1677) rfl rfl rfl (by decide +kernel) ⟨Nat.le_of_ble_eq_true rfl, Nat.le_of_ble_eq_true rfl⟩) (tg_preV hw hK hSD hA (ci := 10) (q := (RX10, TX10, 49)) rfl h_p0 rfl) rfl rfl hl.1 rfl (lv_room (Nat.le_of_ble_eq_true rfl)) dX10_writeWord_27 ⟨Nat.le_of_ble_eq_true rfl, Nat.le_of_ble_eq_true rfl⟩) hw hA ⟨by decide, by decide⟩ (fun ws H locs hp_v_4 hw hF9 => ?_)
    obtain ⟨v_5, m_v_5, r_v_5⟩ := (hp_v_4.1)
    subst hQ
    exact W.vret hx hb hr (fun t ht hW => ⟨⟨ws, rfl, ⟨⟨⟨_, m_v_5, r_v_5⟩, trivial⟩, hw.1, hw.2.2.2.2.1⟩, by rw [ht]; exact hw.2.1, va_K.moved hW.alike hK, hw.2.2.1⟩, hw.2.2.2.1.F ht⟩) hw.2.2.2.1.2.2 dX10_writeWord_30
  refine lv_lload_n hx hb dX10_writeWord_0 rfl (lv_at hl 1 rfl) ?_
  refine lv_ldc2 (v := 27) hx hb hown (hts _ tw_1312) dX10_writeWord_1 ?_
  refine W.lcmp hx hb dX10_writeWord_4 (lv_topi (fun v_6 e_v_6 => ?_))
  have r_v_6 := ri_any v_6
  refine lv_if_lt (tgt := 17) hx hb dX10_writeWord_5 (by decide) (fun c_5 => ?_) (fun c_5 => ?_)
  · have r_v_6 : RI v_6 (-2147483648) (-1) := rc_lt1 r_v_6 rl_0 (ti_lt c_5) (by decide)
    have r_p1 : RJ p1 1 26 := tq_lc_lt r_p1 rk_27 e_v_6 c_5 (by decide)
    exact B17 f0_38 w0 _ _ ls (r_p1.to (by decide)) (r_f0_38.to (by decide)) m_f0_38 hw hl
  · have r_v_6 : RI v_6 0 2147483647 := rc_le2 rl_0 r_v_6 (ti_nlt c_5) (by decide)
    have r_p1 : RJ p1 27 32657250 := tq_lc_nlt r_p1 rk_27 e_v_6 c_5 (by decide)
    refine lv_aload_n hx hb dX10_writeWord_8 rfl (lv_at hl 0 rfl) ?_
    refine lv_lload_n hx hb dX10_writeWord_9 rfl (lv_at hl 1 rfl) ?_
    refine lv_ldc2 (v := 27) hx hb hown (hts _ tw_1312) dX10_writeWord_10 ?_
    refine lv_ldiv hx hb dX10_writeWord_13 (by decide) (lv_topl (fun w_7 e_w_7 => ?_))
    have r_w_7 := tq_ldiv (lo := 1) (hi := 1209527) r_p1 (by decide) e_w_7
    refine tk_v (va_runV (As := [.long w_7]) (rest := []) ⟨hx, hb, hml, hown, hts⟩ (c_X10_writeWord__29 l D cy z s.heap.size Ps w0 hw.1 p0 w_7 f0_38 h_p0 r_w_7 r_f0_38 m_f0_38) (cwV 1 hts (gV tw_1670 tw_1672 ts_97 tw_15 tw_1673) rfl rfl rfl (by decide +kernel) ⟨Nat.le_of_ble_eq_true rfl, Nat.le_of_ble_eq_true rfl⟩) (tg_preV hw hK hSD hA (ci := 10) (q := (RX10, TX10, 49)) rfl h_p0 rfl) rfl rfl hl.1 rfl (lv_room (Nat.le_of_ble_eq_true rfl)) dX10_writeWord_14 ⟨Nat.le_of_ble_eq_true rfl, Nat.le_of_ble_eq_true rfl⟩) hw hA ⟨by decide, by decide⟩ (fun ws H locs hp_v_8 hw hF9 => ?_)
    obtain ⟨v_9, m_v_9, r_v_9⟩ := (hp_v_8.1)
    exact B17 v_9 ws _ _ ls (r_p1.to (by decide)) (r_v_9.to (by decide)) m_v_9 hw hl
abbrev wr_X10_writeWord__27 : List (Nat × Nat) := [(10, 38)]
abbrev wa_X10_writeWord__27 : List Nat := [51]
set_option maxHeartbeats 4000000 in
set_option maxRecDepth 100000 in
theorem c_X10_writeWord__27 (l : Launch) (D : va_G) (cy : Nat → ClassId) (z : Nat → Nat) (sz : Nat) (Ps : PSI) (w0 : va_W) (hT : HT cy GG Ps w0) (p0 : Nat) (p1 : Int64) (f0_38 : Int32) (h_p0 : (p0, 55) ∈ Ps) (r_p1 : RJ p1 1 881745755) (r_f0_38 : RI f0_38 0 0) (m_f0_38 : FLD w0 p0 10 38 (.int f0_38)) : Met l yX10_writeWord (Cond.code yX10_writeWord cX10_writeWord 3 none :: gT) ({ frames := 8, cells := 0, slots := 0, locals := 1600 } : Room) (va_Pc [.ref p0, .long p1] (PRE D cy z w0 sz)) (va_Qv (fun (u : va_W) => ((∃ v9 : Int32, FLD u p0 10 38 (.int v9) ∧ RI v9 1 7) ∧ True) ∧ HT cy GG Ps u ∧ FR wr_X10_writeWord__27 wa_X10_writeWord__27 Ps w0 u) (BB D cy (va_A w0 sz) (fun (u : va_W) => u)) (va_A w0 sz)) 0 0 (va_A w0 sz) := by
  refine Met.ofW (cc := cX10_writeWord) (maxL := 3) (ret := none) (by decide) rfl ?_
  intro p e s m args below meth c s₁ B hml hv
  obtain ⟨rfl, hsz, hP, hK, hD0, hSD⟩ := hv
  have hx := B.exec
  have hb := B.bytes
  have hr := B.returns
  have hlocks := B.notSynchronized
  have hts : ∀ w ∈ gT, w.before _ s = true := fun w h => atoms_spec (ws := Cond.code yX10_writeWord cX10_writeWord 3 none :: gT) B.pre w (List.mem_cons_of_mem _ h)
  have hown : s.vm.findClass RX10 = some m.cls := findClass_of_methodNamed B.named
  subst hsz
  have hD := hD0.self (sz := s.heap.size)
  generalize hAe : va_A w0 s.heap.size = A at hD hSD ⊢
  have hA : ∀ q : Nat, s.heap.size ≤ q → A q := fun q h => by rw [← hAe]; exact Or.inr h
  have hl := lv_entry ([.ref p0, .long p1]) (n := 3) (Nat.le_of_ble_eq_true rfl)
  rw [lg_entry_eq]
  generalize (lg_sl ([.ref p0, .long p1]) ++ List.replicate (3 - (lg_sl ([.ref p0, .long p1])).length) Slot.unset).toArray = ls at hl ⊢
  have hl : lv_has ls 3 [(0, .ref p0), (1, .long p1)] := hl
  refine nameQ (fun Q hQ => ?_)
  have hw : WD D cy GG A s wr_X10_writeWord__27 wa_X10_writeWord__27 Ps w0 Ps w0 s.heap [] := ⟨hT, hP, hD, va_S.rf, FR.rf, hT.1, [], (List.append_nil _).symm⟩
  have B17 : ∀ (z0_38 : Int32) (ws : va_W) (H : Heap) (locs : List Loc) (ls : Array Slot), RJ p1 1 881745755 → RI z0_38 0 6 → FLD ws p0 10 38 (.int z0_38) → WD D cy GG A s wr_X10_writeWord__27 wa_X10_writeWord__27 Ps w0 Ps ws H locs → lv_has ls 3 [(0, .ref p0), (1, .long p1)] → W p l e (headSpec (Cond.code yX10_writeWord cX10_writeWord 3 none :: gT) ({ frames := 8, cells := 0, slots := 0, locals := 1600 } : Room)).room s m ([.ref p0, .long p1] : List Value).toArray below meth c H locs 0 0 Q (F0 m 17 ls []) := by
    intro z0_38 ws H locs ls r_p1 r_z0_38 m_z0_38 hw hl
    refine lv_aload_n hx hb dX10_writeWord_17 rfl (lv_at hl 0 rfl) ?_
    refine lv_bipush (v := 96) hx hb dX10_writeWord_18 (by decide) ?_
    refine lv_lload_n hx hb dX10_writeWord_20 rfl (lv_at hl 1 rfl) ?_
    refine lv_ldc2 (v := 27) hx hb hown (hts _ tw_1312) dX10_writeWord_21 ?_
    refine lv_lrem hx hb dX10_writeWord_24 (by decide) (lv_topl (fun w_1 e_w_1 => ?_))
    have r_w_1 := rj_any w_1
    obtain ⟨v_2, e_v_2⟩ : ∃ q9 : Int32, (w_1 : Int64).toInt32 = q9 := ⟨_, rfl⟩
    refine lv_l2i (v := v_2) hx hb dX10_writeWord_25 e_v_2 ?_
    have r_v_2 := ri_any v_2
    refine lv_iadd hx hb dX10_writeWord_26 (lv_topi (fun v_3 e_v_3 => ?_))
    have r_v_3 := ri_any v_3
    refine tk_v (va_runV (As := [.int v_3]) (rest := []) ⟨hx, hb, hml, hown, hts⟩ (c_X10_write__30 l D cy z H.size Ps ws hw.1 p0 v_3 z0_38 h_p0 r_v_3 r_z0_38 m_z0_38) (cwV 1 hts (gV tw_1674 tw_1676 ts_98 tw_15 tw_1677) rfl rfl rfl (by decide +kernel) ⟨Nat.le_of_ble_eq_true rfl, Nat.le_of_ble_eq_true rfl⟩) (tg_preV hw hK hSD hA (ci := 10) (q := (RX10, TX10, 49)) rfl h_p0 rfl) rfl rfl hl.1 rfl (lv_room (Nat.le_of_ble_eq_true rfl)) dX10_writeWord_27 ⟨Nat.le_of_ble_eq_true rfl, Nat.le_of_ble_eq_true rfl⟩) hw hA ⟨by decide, by decide⟩ (fun ws H locs hp_v_4 hw hF9 => ?_)
    obtain ⟨v_5, m_v_5, r_v_5⟩ := (hp_v_4.1)
    subst hQ
    exact W.vret hx hb hr (fun t ht hW => ⟨⟨ws, rfl, ⟨⟨⟨_, m_v_5, r_v_5⟩, trivial⟩, hw.1, hw.2.2.2.2.1⟩, by rw [ht]; exact hw.2.1, va_K.moved hW.alike hK, hw.2.2.1⟩, hw.2.2.2.1.F ht⟩) hw.2.2.2.1.2.2 dX10_writeWord_30
  refine lv_lload_n hx hb dX10_writeWord_0 rfl (lv_at hl 1 rfl) ?_
  refine lv_ldc2 (v := 27) hx hb hown (hts _ tw_1312) dX10_writeWord_1 ?_
  refine W.lcmp hx hb dX10_writeWord_4 (lv_topi (fun v_6 e_v_6 => ?_))
  have r_v_6 := ri_any v_6
  refine lv_if_lt (tgt := 17) hx hb dX10_writeWord_5 (by decide) (fun c_5 => ?_) (fun c_5 => ?_)
  · have r_v_6 : RI v_6 (-2147483648) (-1) := rc_lt1 r_v_6 rl_0 (ti_lt c_5) (by decide)
    have r_p1 : RJ p1 1 26 := tq_lc_lt r_p1 rk_27 e_v_6 c_5 (by decide)
    exact B17 f0_38 w0 _ _ ls (r_p1.to (by decide)) (r_f0_38.to (by decide)) m_f0_38 hw hl
  · have r_v_6 : RI v_6 0 2147483647 := rc_le2 rl_0 r_v_6 (ti_nlt c_5) (by decide)
    have r_p1 : RJ p1 27 881745755 := tq_lc_nlt r_p1 rk_27 e_v_6 c_5 (by decide)
    refine lv_aload_n hx hb dX10_writeWord_8 rfl (lv_at hl 0 rfl) ?_
    refine lv_lload_n hx hb dX10_writeWord_9 rfl (lv_at hl 1 rfl) ?_
    refine lv_ldc2 (v := 27) hx hb hown (hts _ tw_1312) dX10_writeWord_10 ?_
    refine lv_ldiv hx hb dX10_writeWord_13 (by decide) (lv_topl (fun w_7 e_w_7 => ?_))
    have r_w_7 := tq_ldiv (lo := 1) (hi := 32657250) r_p1 (by decide) e_w_7
    refine tk_v (va_runV (As := [.long w_7]) (rest := []) ⟨hx, hb, hml, hown, hts⟩ (c_X10_writeWord__28 l D cy z s.heap.size Ps w0 hw.1 p0 w_7 f0_38 h_p0 r_w_7 r_f0_38 m_f0_38) (cwV 1 hts (gV tw_1670 tw_1672 ts_97 tw_15 tw_1673) rfl rfl rfl (by decide +kernel) ⟨Nat.le_of_ble_eq_true rfl, Nat.le_of_ble_eq_true rfl⟩) (tg_preV hw hK hSD hA (ci := 10) (q := (RX10, TX10, 49)) rfl h_p0 rfl) rfl rfl hl.1 rfl (lv_room (Nat.le_of_ble_eq_true rfl)) dX10_writeWord_14 ⟨Nat.le_of_ble_eq_true rfl, Nat.le_of_ble_eq_true rfl⟩) hw hA ⟨by decide, by decide⟩ (fun ws H locs hp_v_8 hw hF9 => ?_)
    obtain ⟨v_9, m_v_9, r_v_9⟩ := (hp_v_8.1)
    exact B17 v_9 ws _ _ ls (r_p1.to (by decide)) (r_v_9.to (by decide)) m_v_9 hw hl
abbrev wr_X10_writeWord__26 : List (Nat × Nat) := [(10, 38)]
abbrev wa_X10_writeWord__26 : List Nat := [51]
set_option maxHeartbeats 4000000 in
set_option maxRecDepth 100000 in
theorem c_X10_writeWord__26 (l : Launch) (D : va_G) (cy : Nat → ClassId) (z : Nat → Nat) (sz : Nat) (Ps : PSI) (w0 : va_W) (hT : HT cy GG Ps w0) (p0 : Nat) (p1 : Int64) (f0_38 : Int32) (h_p0 : (p0, 55) ∈ Ps) (r_p1 : RJ p1 1 23807135396) (r_f0_38 : RI f0_38 0 0) (m_f0_38 : FLD w0 p0 10 38 (.int f0_38)) : Met l yX10_writeWord (Cond.code yX10_writeWord cX10_writeWord 3 none :: gT) ({ frames := 9, cells := 0, slots := 0, locals := 1800 } : Room) (va_Pc [.ref p0, .long p1] (PRE D cy z w0 sz)) (va_Qv (fun (u : va_W) => ((∃ v9 : Int32, FLD u p0 10 38 (.int v9) ∧ RI v9 1 8) ∧ True) ∧ HT cy GG Ps u ∧ FR wr_X10_writeWord__26 wa_X10_writeWord__26 Ps w0 u) (BB D cy (va_A w0 sz) (fun (u : va_W) => u)) (va_A w0 sz)) 0 0 (va_A w0 sz) := by
  refine Met.ofW (cc := cX10_writeWord) (maxL := 3) (ret := none) (by decide) rfl ?_
  intro p e s m args below meth c s₁ B hml hv
  obtain ⟨rfl, hsz, hP, hK, hD0, hSD⟩ := hv
  have hx := B.exec
  have hb := B.bytes
  have hr := B.returns
  have hlocks := B.notSynchronized
  have hts : ∀ w ∈ gT, w.before _ s = true := fun w h => atoms_spec (ws := Cond.code yX10_writeWord cX10_writeWord 3 none :: gT) B.pre w (List.mem_cons_of_mem _ h)
  have hown : s.vm.findClass RX10 = some m.cls := findClass_of_methodNamed B.named
  subst hsz
  have hD := hD0.self (sz := s.heap.size)
  generalize hAe : va_A w0 s.heap.size = A at hD hSD ⊢
  have hA : ∀ q : Nat, s.heap.size ≤ q → A q := fun q h => by rw [← hAe]; exact Or.inr h
  have hl := lv_entry ([.ref p0, .long p1]) (n := 3) (Nat.le_of_ble_eq_true rfl)
  rw [lg_entry_eq]
  generalize (lg_sl ([.ref p0, .long p1]) ++ List.replicate (3 - (lg_sl ([.ref p0, .long p1])).length) Slot.unset).toArray = ls at hl ⊢
  have hl : lv_has ls 3 [(0, .ref p0), (1, .long p1)] := hl
  refine nameQ (fun Q hQ => ?_)
  have hw : WD D cy GG A s wr_X10_writeWord__26 wa_X10_writeWord__26 Ps w0 Ps w0 s.heap [] := ⟨hT, hP, hD, va_S.rf, FR.rf, hT.1, [], (List.append_nil _).symm⟩
  have B17 : ∀ (z0_38 : Int32) (ws : va_W) (H : Heap) (locs : List Loc) (ls : Array Slot), RJ p1 1 23807135396 → RI z0_38 0 7 → FLD ws p0 10 38 (.int z0_38) → WD D cy GG A s wr_X10_writeWord__26 wa_X10_writeWord__26 Ps w0 Ps ws H locs → lv_has ls 3 [(0, .ref p0), (1, .long p1)] → W p l e (headSpec (Cond.code yX10_writeWord cX10_writeWord 3 none :: gT) ({ frames := 9, cells := 0, slots := 0, locals := 1800 } : Room)).room s m ([.ref p0, .long p1] : List Value).toArray below meth c H locs 0 0 Q (F0 m 17 ls []) := by
    intro z0_38 ws H locs ls r_p1 r_z0_38 m_z0_38 hw hl
    refine lv_aload_n hx hb dX10_writeWord_17 rfl (lv_at hl 0 rfl) ?_
    refine lv_bipush (v := 96) hx hb dX10_writeWord_18 (by decide) ?_
    refine lv_lload_n hx hb dX10_writeWord_20 rfl (lv_at hl 1 rfl) ?_
    refine lv_ldc2 (v := 27) hx hb hown (hts _ tw_1312) dX10_writeWord_21 ?_
    refine lv_lrem hx hb dX10_writeWord_24 (by decide) (lv_topl (fun w_1 e_w_1 => ?_))
    have r_w_1 := rj_any w_1
    obtain ⟨v_2, e_v_2⟩ : ∃ q9 : Int32, (w_1 : Int64).toInt32 = q9 := ⟨_, rfl⟩
    refine lv_l2i (v := v_2) hx hb dX10_writeWord_25 e_v_2 ?_
    have r_v_2 := ri_any v_2
    refine lv_iadd hx hb dX10_writeWord_26 (lv_topi (fun v_3 e_v_3 => ?_))
    have r_v_3 := ri_any v_3
    refine tk_v (va_runV (As := [.int v_3]) (rest := []) ⟨hx, hb, hml, hown, hts⟩ (c_X10_write__29 l D cy z H.size Ps ws hw.1 p0 v_3 z0_38 h_p0 r_v_3 r_z0_38 m_z0_38) (cwV 1 hts (gV tw_1674 tw_1676 ts_98 tw_15 tw_1677) rfl rfl rfl (by decide +kernel) ⟨Nat.le_of_ble_eq_true rfl, Nat.le_of_ble_eq_true rfl⟩) (tg_preV hw hK hSD hA (ci := 10) (q := (RX10, TX10, 49)) rfl h_p0 rfl) rfl rfl hl.1 rfl (lv_room (Nat.le_of_ble_eq_true rfl)) dX10_writeWord_27 ⟨Nat.le_of_ble_eq_true rfl, Nat.le_of_ble_eq_true rfl⟩) hw hA ⟨by decide, by decide⟩ (fun ws H locs hp_v_4 hw hF9 => ?_)
    obtain ⟨v_5, m_v_5, r_v_5⟩ := (hp_v_4.1)
    subst hQ
    exact W.vret hx hb hr (fun t ht hW => ⟨⟨ws, rfl, ⟨⟨⟨_, m_v_5, r_v_5⟩, trivial⟩, hw.1, hw.2.2.2.2.1⟩, by rw [ht]; exact hw.2.1, va_K.moved hW.alike hK, hw.2.2.1⟩, hw.2.2.2.1.F ht⟩) hw.2.2.2.1.2.2 dX10_writeWord_30
  refine lv_lload_n hx hb dX10_writeWord_0 rfl (lv_at hl 1 rfl) ?_
  refine lv_ldc2 (v := 27) hx hb hown (hts _ tw_1312) dX10_writeWord_1 ?_
  refine W.lcmp hx hb dX10_writeWord_4 (lv_topi (fun v_6 e_v_6 => ?_))
  have r_v_6 := ri_any v_6
  refine lv_if_lt (tgt := 17) hx hb dX10_writeWord_5 (by decide) (fun c_5 => ?_) (fun c_5 => ?_)
  · have r_v_6 : RI v_6 (-2147483648) (-1) := rc_lt1 r_v_6 rl_0 (ti_lt c_5) (by decide)
    have r_p1 : RJ p1 1 26 := tq_lc_lt r_p1 rk_27 e_v_6 c_5 (by decide)
    exact B17 f0_38 w0 _ _ ls (r_p1.to (by decide)) (r_f0_38.to (by decide)) m_f0_38 hw hl
  · have r_v_6 : RI v_6 0 2147483647 := rc_le2 rl_0 r_v_6 (ti_nlt c_5) (by decide)
    have r_p1 : RJ p1 27 23807135396 := tq_lc_nlt r_p1 rk_27 e_v_6 c_5 (by decide)
    refine lv_aload_n hx hb dX10_writeWord_8 rfl (lv_at hl 0 rfl) ?_
    refine lv_lload_n hx hb dX10_writeWord_9 rfl (lv_at hl 1 rfl) ?_
    refine lv_ldc2 (v := 27) hx hb hown (hts _ tw_1312) dX10_writeWord_10 ?_
    refine lv_ldiv hx hb dX10_writeWord_13 (by decide) (lv_topl (fun w_7 e_w_7 => ?_))
    have r_w_7 := tq_ldiv (lo := 1) (hi := 881745755) r_p1 (by decide) e_w_7
    refine tk_v (va_runV (As := [.long w_7]) (rest := []) ⟨hx, hb, hml, hown, hts⟩ (c_X10_writeWord__27 l D cy z s.heap.size Ps w0 hw.1 p0 w_7 f0_38 h_p0 r_w_7 r_f0_38 m_f0_38) (cwV 1 hts (gV tw_1670 tw_1672 ts_97 tw_15 tw_1673) rfl rfl rfl (by decide +kernel) ⟨Nat.le_of_ble_eq_true rfl, Nat.le_of_ble_eq_true rfl⟩) (tg_preV hw hK hSD hA (ci := 10) (q := (RX10, TX10, 49)) rfl h_p0 rfl) rfl rfl hl.1 rfl (lv_room (Nat.le_of_ble_eq_true rfl)) dX10_writeWord_14 ⟨Nat.le_of_ble_eq_true rfl, Nat.le_of_ble_eq_true rfl⟩) hw hA ⟨by decide, by decide⟩ (fun ws H locs hp_v_8 hw hF9 => ?_)
    obtain ⟨v_9, m_v_9, r_v_9⟩ := (hp_v_8.1)
    exact B17 v_9 ws _ _ ls (r_p1.to (by decide)) (r_v_9.to (by decide)) m_v_9 hw hl
abbrev wr_X10_writeWord__25 : List (Nat × Nat) := [(10, 38)]
abbrev wa_X10_writeWord__25 : List Nat := [51]
set_option maxHeartbeats 4000000 in
set_option maxRecDepth 100000 in
theorem c_X10_writeWord__25 (l : Launch) (D : va_G) (cy : Nat → ClassId) (z : Nat → Nat) (sz : Nat) (Ps : PSI) (w0 : va_W) (hT : HT cy GG Ps w0) (p0 : Nat) (p1 : Int64) (f0_38 : Int32) (h_p0 : (p0, 55) ∈ Ps) (r_p1 : RJ p1 1 642792655695) (r_f0_38 : RI f0_38 0 0) (m_f0_38 : FLD w0 p0 10 38 (.int f0_38)) : Met l yX10_writeWord (Cond.code yX10_writeWord cX10_writeWord 3 none :: gT) ({ frames := 10, cells := 0, slots := 0, locals := 2000 } : Room) (va_Pc [.ref p0, .long p1] (PRE D cy z w0 sz)) (va_Qv (fun (u : va_W) => ((∃ v9 : Int32, FLD u p0 10 38 (.int v9) ∧ RI v9 1 9) ∧ True) ∧ HT cy GG Ps u ∧ FR wr_X10_writeWord__25 wa_X10_writeWord__25 Ps w0 u) (BB D cy (va_A w0 sz) (fun (u : va_W) => u)) (va_A w0 sz)) 0 0 (va_A w0 sz) := by
  refine Met.ofW (cc := cX10_writeWord) (maxL := 3) (ret := none) (by decide) rfl ?_
  intro p e s m args below meth c s₁ B hml hv
  obtain ⟨rfl, hsz, hP, hK, hD0, hSD⟩ := hv
  have hx := B.exec
  have hb := B.bytes
  have hr := B.returns
  have hlocks := B.notSynchronized
  have hts : ∀ w ∈ gT, w.before _ s = true := fun w h => atoms_spec (ws := Cond.code yX10_writeWord cX10_writeWord 3 none :: gT) B.pre w (List.mem_cons_of_mem _ h)
  have hown : s.vm.findClass RX10 = some m.cls := findClass_of_methodNamed B.named
  subst hsz
  have hD := hD0.self (sz := s.heap.size)
  generalize hAe : va_A w0 s.heap.size = A at hD hSD ⊢
  have hA : ∀ q : Nat, s.heap.size ≤ q → A q := fun q h => by rw [← hAe]; exact Or.inr h
  have hl := lv_entry ([.ref p0, .long p1]) (n := 3) (Nat.le_of_ble_eq_true rfl)
  rw [lg_entry_eq]
  generalize (lg_sl ([.ref p0, .long p1]) ++ List.replicate (3 - (lg_sl ([.ref p0, .long p1])).length) Slot.unset).toArray = ls at hl ⊢
  have hl : lv_has ls 3 [(0, .ref p0), (1, .long p1)] := hl
  refine nameQ (fun Q hQ => ?_)
  have hw : WD D cy GG A s wr_X10_writeWord__25 wa_X10_writeWord__25 Ps w0 Ps w0 s.heap [] := ⟨hT, hP, hD, va_S.rf, FR.rf, hT.1, [], (List.append_nil _).symm⟩
  have B17 : ∀ (z0_38 : Int32) (ws : va_W) (H : Heap) (locs : List Loc) (ls : Array Slot), RJ p1 1 642792655695 → RI z0_38 0 8 → FLD ws p0 10 38 (.int z0_38) → WD D cy GG A s wr_X10_writeWord__25 wa_X10_writeWord__25 Ps w0 Ps ws H locs → lv_has ls 3 [(0, .ref p0), (1, .long p1)] → W p l e (headSpec (Cond.code yX10_writeWord cX10_writeWord 3 none :: gT) ({ frames := 10, cells := 0, slots := 0, locals := 2000 } : Room)).room s m ([.ref p0, .long p1] : List Value).toArray below meth c H locs 0 0 Q (F0 m 17 ls []) := by
    intro z0_38 ws H locs ls r_p1 r_z0_38 m_z0_38 hw hl
    refine lv_aload_n hx hb dX10_writeWord_17 rfl (lv_at hl 0 rfl) ?_
    refine lv_bipush (v := 96) hx hb dX10_writeWord_18 (by decide) ?_
    refine lv_lload_n hx hb dX10_writeWord_20 rfl (lv_at hl 1 rfl) ?_
    refine lv_ldc2 (v := 27) hx hb hown (hts _ tw_1312) dX10_writeWord_21 ?_
    refine lv_lrem hx hb dX10_writeWord_24 (by decide) (lv_topl (fun w_1 e_w_1 => ?_))
    have r_w_1 := rj_any w_1
    obtain ⟨v_2, e_v_2⟩ : ∃ q9 : Int32, (w_1 : Int64).toInt32 = q9 := ⟨_, rfl⟩
    refine lv_l2i (v := v_2) hx hb dX10_writeWord_25 e_v_2 ?_
    have r_v_2 := ri_any v_2
    refine lv_iadd hx hb dX10_writeWord_26 (lv_topi (fun v_3 e_v_3 => ?_))
    have r_v_3 := ri_any v_3
    refine tk_v (va_runV (As := [.int v_3]) (rest := []) ⟨hx, hb, hml, hown, hts⟩ (c_X10_write__28 l D cy z H.size Ps ws hw.1 p0 v_3 z0_38 h_p0 r_v_3 r_z0_38 m_z0_38) (cwV 1 hts (gV tw_1674 tw_1676 ts_98 tw_15 tw_1677) rfl rfl rfl (by decide +kernel) ⟨Nat.le_of_ble_eq_true rfl, Nat.le_of_ble_eq_true rfl⟩) (tg_preV hw hK hSD hA (ci := 10) (q := (RX10, TX10, 49)) rfl h_p0 rfl) rfl rfl hl.1 rfl (lv_room (Nat.le_of_ble_eq_true rfl)) dX10_writeWord_27 ⟨Nat.le_of_ble_eq_true rfl, Nat.le_of_ble_eq_true rfl⟩) hw hA ⟨by decide, by decide⟩ (fun ws H locs hp_v_4 hw hF9 => ?_)
    obtain ⟨v_5, m_v_5, r_v_5⟩ := (hp_v_4.1)
    subst hQ
    exact W.vret hx hb hr (fun t ht hW => ⟨⟨ws, rfl, ⟨⟨⟨_, m_v_5, r_v_5⟩, trivial⟩, hw.1, hw.2.2.2.2.1⟩, by rw [ht]; exact hw.2.1, va_K.moved hW.alike hK, hw.2.2.1⟩, hw.2.2.2.1.F ht⟩) hw.2.2.2.1.2.2 dX10_writeWord_30
  refine lv_lload_n hx hb dX10_writeWord_0 rfl (lv_at hl 1 rfl) ?_
  refine lv_ldc2 (v := 27) hx hb hown (hts _ tw_1312) dX10_writeWord_1 ?_
  refine W.lcmp hx hb dX10_writeWord_4 (lv_topi (fun v_6 e_v_6 => ?_))
  have r_v_6 := ri_any v_6
  refine lv_if_lt (tgt := 17) hx hb dX10_writeWord_5 (by decide) (fun c_5 => ?_) (fun c_5 => ?_)
  · have r_v_6 : RI v_6 (-2147483648) (-1) := rc_lt1 r_v_6 rl_0 (ti_lt c_5) (by decide)
    have r_p1 : RJ p1 1 26 := tq_lc_lt r_p1 rk_27 e_v_6 c_5 (by decide)
    exact B17 f0_38 w0 _ _ ls (r_p1.to (by decide)) (r_f0_38.to (by decide)) m_f0_38 hw hl
  · have r_v_6 : RI v_6 0 2147483647 := rc_le2 rl_0 r_v_6 (ti_nlt c_5) (by decide)
    have r_p1 : RJ p1 27 642792655695 := tq_lc_nlt r_p1 rk_27 e_v_6 c_5 (by decide)
    refine lv_aload_n hx hb dX10_writeWord_8 rfl (lv_at hl 0 rfl) ?_
    refine lv_lload_n hx hb dX10_writeWord_9 rfl (lv_at hl 1 rfl) ?_
    refine lv_ldc2 (v := 27) hx hb hown (hts _ tw_1312) dX10_writeWord_10 ?_
    refine lv_ldiv hx hb dX10_writeWord_13 (by decide) (lv_topl (fun w_7 e_w_7 => ?_))
    have r_w_7 := tq_ldiv (lo := 1) (hi := 23807135396) r_p1 (by decide) e_w_7
    refine tk_v (va_runV (As := [.long w_7]) (rest := []) ⟨hx, hb, hml, hown, hts⟩ (c_X10_writeWord__26 l D cy z s.heap.size Ps w0 hw.1 p0 w_7 f0_38 h_p0 r_w_7 r_f0_38 m_f0_38) (cwV 1 hts (gV tw_1670 tw_1672 ts_97 tw_15 tw_1673) rfl rfl rfl (by decide +kernel) ⟨Nat.le_of_ble_eq_true rfl, Nat.le_of_ble_eq_true rfl⟩) (tg_preV hw hK hSD hA (ci := 10) (q := (RX10, TX10, 49)) rfl h_p0 rfl) rfl rfl hl.1 rfl (lv_room (Nat.le_of_ble_eq_true rfl)) dX10_writeWord_14 ⟨Nat.le_of_ble_eq_true rfl, Nat.le_of_ble_eq_true rfl⟩) hw hA ⟨by decide, by decide⟩ (fun ws H locs hp_v_8 hw hF9 => ?_)
    obtain ⟨v_9, m_v_9, r_v_9⟩ := (hp_v_8.1)
    exact B17 v_9 ws _ _ ls (r_p1.to (by decide)) (r_v_9.to (by decide)) m_v_9 hw hl
abbrev wr_X10_writeWord__24 : List (Nat × Nat) := [(10, 38)]
abbrev wa_X10_writeWord__24 : List Nat := [51]
set_option maxHeartbeats 4000000 in
set_option maxRecDepth 100000 in
theorem c_X10_writeWord__24 (l : Launch) (D : va_G) (cy : Nat → ClassId) (z : Nat → Nat) (sz : Nat) (Ps : PSI) (w0 : va_W) (hT : HT cy GG Ps w0) (p0 : Nat) (p1 : Int64) (f0_38 : Int32) (h_p0 : (p0, 55) ∈ Ps) (r_p1 : RJ p1 1 17355401703772) (r_f0_38 : RI f0_38 0 0) (m_f0_38 : FLD w0 p0 10 38 (.int f0_38)) : Met l yX10_writeWord (Cond.code yX10_writeWord cX10_writeWord 3 none :: gT) ({ frames := 11, cells := 0, slots := 0, locals := 2200 } : Room) (va_Pc [.ref p0, .long p1] (PRE D cy z w0 sz)) (va_Qv (fun (u : va_W) => ((∃ v9 : Int32, FLD u p0 10 38 (.int v9) ∧ RI v9 1 10) ∧ True) ∧ HT cy GG Ps u ∧ FR wr_X10_writeWord__24 wa_X10_writeWord__24 Ps w0 u) (BB D cy (va_A w0 sz) (fun (u : va_W) => u)) (va_A w0 sz)) 0 0 (va_A w0 sz) := by
  refine Met.ofW (cc := cX10_writeWord) (maxL := 3) (ret := none) (by decide) rfl ?_
  intro p e s m args below meth c s₁ B hml hv
  obtain ⟨rfl, hsz, hP, hK, hD0, hSD⟩ := hv
  have hx := B.exec
  have hb := B.bytes
  have hr := B.returns
  have hlocks := B.notSynchronized
  have hts : ∀ w ∈ gT, w.before _ s = true := fun w h => atoms_spec (ws := Cond.code yX10_writeWord cX10_writeWord 3 none :: gT) B.pre w (List.mem_cons_of_mem _ h)
  have hown : s.vm.findClass RX10 = some m.cls := findClass_of_methodNamed B.named
  subst hsz
  have hD := hD0.self (sz := s.heap.size)
  generalize hAe : va_A w0 s.heap.size = A at hD hSD ⊢
  have hA : ∀ q : Nat, s.heap.size ≤ q → A q := fun q h => by rw [← hAe]; exact Or.inr h
  have hl := lv_entry ([.ref p0, .long p1]) (n := 3) (Nat.le_of_ble_eq_true rfl)
  rw [lg_entry_eq]
  generalize (lg_sl ([.ref p0, .long p1]) ++ List.replicate (3 - (lg_sl ([.ref p0, .long p1])).length) Slot.unset).toArray = ls at hl ⊢
  have hl : lv_has ls 3 [(0, .ref p0), (1, .long p1)] := hl
  refine nameQ (fun Q hQ => ?_)
  have hw : WD D cy GG A s wr_X10_writeWord__24 wa_X10_writeWord__24 Ps w0 Ps w0 s.heap [] := ⟨hT, hP, hD, va_S.rf, FR.rf, hT.1, [], (List.append_nil _).symm⟩
  have B17 : ∀ (z0_38 : Int32) (ws : va_W) (H : Heap) (locs : List Loc) (ls : Array Slot), RJ p1 1 17355401703772 → RI z0_38 0 9 → FLD ws p0 10 38 (.int z0_38) → WD D cy GG A s wr_X10_writeWord__24 wa_X10_writeWord__24 Ps w0 Ps ws H locs → lv_has ls 3 [(0, .ref p0), (1, .long p1)] → W p l e (headSpec (Cond.code yX10_writeWord cX10_writeWord 3 none :: gT) ({ frames := 11, cells := 0, slots := 0, locals := 2200 } : Room)).room s m ([.ref p0, .long p1] : List Value).toArray below meth c H locs 0 0 Q (F0 m 17 ls []) := by
    intro z0_38 ws H locs ls r_p1 r_z0_38 m_z0_38 hw hl
    refine lv_aload_n hx hb dX10_writeWord_17 rfl (lv_at hl 0 rfl) ?_
    refine lv_bipush (v := 96) hx hb dX10_writeWord_18 (by decide) ?_
    refine lv_lload_n hx hb dX10_writeWord_20 rfl (lv_at hl 1 rfl) ?_
    refine lv_ldc2 (v := 27) hx hb hown (hts _ tw_1312) dX10_writeWord_21 ?_
    refine lv_lrem hx hb dX10_writeWord_24 (by decide) (lv_topl (fun w_1 e_w_1 => ?_))
    have r_w_1 := rj_any w_1
    obtain ⟨v_2, e_v_2⟩ : ∃ q9 : Int32, (w_1 : Int64).toInt32 = q9 := ⟨_, rfl⟩
    refine lv_l2i (v := v_2) hx hb dX10_writeWord_25 e_v_2 ?_
    have r_v_2 := ri_any v_2
    refine lv_iadd hx hb dX10_writeWord_26 (lv_topi (fun v_3 e_v_3 => ?_))
    have r_v_3 := ri_any v_3
    refine tk_v (va_runV (As := [.int v_3]) (rest := []) ⟨hx, hb, hml, hown, hts⟩ (c_X10_write__27 l D cy z H.size Ps ws hw.1 p0 v_3 z0_38 h_p0 r_v_3 r_z0_38 m_z0_38) (cwV 1 hts (gV tw_1674 tw_1676 ts_98 tw_15 tw_1677) rfl rfl rfl (by decide +kernel) ⟨Nat.le_of_ble_eq_true rfl, Nat.le_of_ble_eq_true rfl⟩) (tg_preV hw hK hSD hA (ci := 10) (q := (RX10, TX10, 49)) rfl h_p0 rfl) rfl rfl hl.1 rfl (lv_room (Nat.le_of_ble_eq_true rfl)) dX10_writeWord_27 ⟨Nat.le_of_ble_eq_true rfl, Nat.le_of_ble_eq_true rfl⟩) hw hA ⟨by decide, by decide⟩ (fun ws H locs hp_v_4 hw hF9 => ?_)
    obtain ⟨v_5, m_v_5, r_v_5⟩ := (hp_v_4.1)
    subst hQ
    exact W.vret hx hb hr (fun t ht hW => ⟨⟨ws, rfl, ⟨⟨⟨_, m_v_5, r_v_5⟩, trivial⟩, hw.1, hw.2.2.2.2.1⟩, by rw [ht]; exact hw.2.1, va_K.moved hW.alike hK, hw.2.2.1⟩, hw.2.2.2.1.F ht⟩) hw.2.2.2.1.2.2 dX10_writeWord_30
  refine lv_lload_n hx hb dX10_writeWord_0 rfl (lv_at hl 1 rfl) ?_
  refine lv_ldc2 (v := 27) hx hb hown (hts _ tw_1312) dX10_writeWord_1 ?_
  refine W.lcmp hx hb dX10_writeWord_4 (lv_topi (fun v_6 e_v_6 => ?_))
  have r_v_6 := ri_any v_6
  refine lv_if_lt (tgt := 17) hx hb dX10_writeWord_5 (by decide) (fun c_5 => ?_) (fun c_5 => ?_)
  · have r_v_6 : RI v_6 (-2147483648) (-1) := rc_lt1 r_v_6 rl_0 (ti_lt c_5) (by decide)
    have r_p1 : RJ p1 1 26 := tq_lc_lt r_p1 rk_27 e_v_6 c_5 (by decide)
    exact B17 f0_38 w0 _ _ ls (r_p1.to (by decide)) (r_f0_38.to (by decide)) m_f0_38 hw hl
  · have r_v_6 : RI v_6 0 2147483647 := rc_le2 rl_0 r_v_6 (ti_nlt c_5) (by decide)
    have r_p1 : RJ p1 27 17355401703772 := tq_lc_nlt r_p1 rk_27 e_v_6 c_5 (by decide)
    refine lv_aload_n hx hb dX10_writeWord_8 rfl (lv_at hl 0 rfl) ?_
    refine lv_lload_n hx hb dX10_writeWord_9 rfl (lv_at hl 1 rfl) ?_
    refine lv_ldc2 (v := 27) hx hb hown (hts _ tw_1312) dX10_writeWord_10 ?_
    refine lv_ldiv hx hb dX10_writeWord_13 (by decide) (lv_topl (fun w_7 e_w_7 => ?_))
    have r_w_7 := tq_ldiv (lo := 1) (hi := 642792655695) r_p1 (by decide) e_w_7
    refine tk_v (va_runV (As := [.long w_7]) (rest := []) ⟨hx, hb, hml, hown, hts⟩ (c_X10_writeWord__25 l D cy z s.heap.size Ps w0 hw.1 p0 w_7 f0_38 h_p0 r_w_7 r_f0_38 m_f0_38) (cwV 1 hts (gV tw_1670 tw_1672 ts_97 tw_15 tw_1673) rfl rfl rfl (by decide +kernel) ⟨Nat.le_of_ble_eq_true rfl, Nat.le_of_ble_eq_true rfl⟩) (tg_preV hw hK hSD hA (ci := 10) (q := (RX10, TX10, 49)) rfl h_p0 rfl) rfl rfl hl.1 rfl (lv_room (Nat.le_of_ble_eq_true rfl)) dX10_writeWord_14 ⟨Nat.le_of_ble_eq_true rfl, Nat.le_of_ble_eq_true rfl⟩) hw hA ⟨by decide, by decide⟩ (fun ws H locs hp_v_8 hw hF9 => ?_)
    obtain ⟨v_9, m_v_9, r_v_9⟩ := (hp_v_8.1)
    exact B17 v_9 ws _ _ ls (r_p1.to (by decide)) (r_v_9.to (by decide)) m_v_9 hw hl
abbrev wr_X10_writeWord__23 : List (Nat × Nat) := [(10, 38)]
abbrev wa_X10_writeWord__23 : List Nat := [51]
set_option maxHeartbeats 4000000 in
set_option maxRecDepth 100000 in
theorem c_X10_writeWord__23 (l : Launch) (D : va_G) (cy : Nat → ClassId) (z : Nat → Nat) (sz : Nat) (Ps : PSI) (w0 : va_W) (hT : HT cy GG Ps w0) (p0 : Nat) (p1 : Int64) (f0_38 : Int32) (h_p0 : (p0, 55) ∈ Ps) (r_p1 : RJ p1 1 468595846001868) (r_f0_38 : RI f0_38 0 0) (m_f0_38 : FLD w0 p0 10 38 (.int f0_38)) : Met l yX10_writeWord (Cond.code yX10_writeWord cX10_writeWord 3 none :: gT) ({ frames := 12, cells := 0, slots := 0, locals := 2400 } : Room) (va_Pc [.ref p0, .long p1] (PRE D cy z w0 sz)) (va_Qv (fun (u : va_W) => ((∃ v9 : Int32, FLD u p0 10 38 (.int v9) ∧ RI v9 1 11) ∧ True) ∧ HT cy GG Ps u ∧ FR wr_X10_writeWord__23 wa_X10_writeWord__23 Ps w0 u) (BB D cy (va_A w0 sz) (fun (u : va_W) => u)) (va_A w0 sz)) 0 0 (va_A w0 sz) := by
  refine Met.ofW (cc := cX10_writeWord) (maxL := 3) (ret := none) (by decide) rfl ?_
  intro p e s m args below meth c s₁ B hml hv
  obtain ⟨rfl, hsz, hP, hK, hD0, hSD⟩ := hv
  have hx := B.exec
  have hb := B.bytes
  have hr := B.returns
  have hlocks := B.notSynchronized
  have hts : ∀ w ∈ gT, w.before _ s = true := fun w h => atoms_spec (ws := Cond.code yX10_writeWord cX10_writeWord 3 none :: gT) B.pre w (List.mem_cons_of_mem _ h)
  have hown : s.vm.findClass RX10 = some m.cls := findClass_of_methodNamed B.named
  subst hsz
  have hD := hD0.self (sz := s.heap.size)
  generalize hAe : va_A w0 s.heap.size = A at hD hSD ⊢
  have hA : ∀ q : Nat, s.heap.size ≤ q → A q := fun q h => by rw [← hAe]; exact Or.inr h
  have hl := lv_entry ([.ref p0, .long p1]) (n := 3) (Nat.le_of_ble_eq_true rfl)
  rw [lg_entry_eq]
  generalize (lg_sl ([.ref p0, .long p1]) ++ List.replicate (3 - (lg_sl ([.ref p0, .long p1])).length) Slot.unset).toArray = ls at hl ⊢
  have hl : lv_has ls 3 [(0, .ref p0), (1, .long p1)] := hl
  refine nameQ (fun Q hQ => ?_)
  have hw : WD D cy GG A s wr_X10_writeWord__23 wa_X10_writeWord__23 Ps w0 Ps w0 s.heap [] := ⟨hT, hP, hD, va_S.rf, FR.rf, hT.1, [], (List.append_nil _).symm⟩
  have B17 : ∀ (z0_38 : Int32) (ws : va_W) (H : Heap) (locs : List Loc) (ls : Array Slot), RJ p1 1 468595846001868 → RI z0_38 0 10 → FLD ws p0 10 38 (.int z0_38) → WD D cy GG A s wr_X10_writeWord__23 wa_X10_writeWord__23 Ps w0 Ps ws H locs → lv_has ls 3 [(0, .ref p0), (1, .long p1)] → W p l e (headSpec (Cond.code yX10_writeWord cX10_writeWord 3 none :: gT) ({ frames := 12, cells := 0, slots := 0, locals := 2400 } : Room)).room s m ([.ref p0, .long p1] : List Value).toArray below meth c H locs 0 0 Q (F0 m 17 ls []) := by
    intro z0_38 ws H locs ls r_p1 r_z0_38 m_z0_38 hw hl
    refine lv_aload_n hx hb dX10_writeWord_17 rfl (lv_at hl 0 rfl) ?_
    refine lv_bipush (v := 96) hx hb dX10_writeWord_18 (by decide) ?_
    refine lv_lload_n hx hb dX10_writeWord_20 rfl (lv_at hl 1 rfl) ?_
    refine lv_ldc2 (v := 27) hx hb hown (hts _ tw_1312) dX10_writeWord_21 ?_
    refine lv_lrem hx hb dX10_writeWord_24 (by decide) (lv_topl (fun w_1 e_w_1 => ?_))
    have r_w_1 := rj_any w_1
    obtain ⟨v_2, e_v_2⟩ : ∃ q9 : Int32, (w_1 : Int64).toInt32 = q9 := ⟨_, rfl⟩
    refine lv_l2i (v := v_2) hx hb dX10_writeWord_25 e_v_2 ?_
    have r_v_2 := ri_any v_2
    refine lv_iadd hx hb dX10_writeWord_26 (lv_topi (fun v_3 e_v_3 => ?_))
    have r_v_3 := ri_any v_3
    refine tk_v (va_runV (As := [.int v_3]) (rest := []) ⟨hx, hb, hml, hown, hts⟩ (c_X10_write__26 l D cy z H.size Ps ws hw.1 p0 v_3 z0_38 h_p0 r_v_3 r_z0_38 m_z0_38) (cwV 1 hts (gV tw_1674 tw_1676 ts_98 tw_15 tw_1677) rfl rfl rfl (by decide +kernel) ⟨Nat.le_of_ble_eq_true rfl, Nat.le_of_ble_eq_true rfl⟩) (tg_preV hw hK hSD hA (ci := 10) (q := (RX10, TX10, 49)) rfl h_p0 rfl) rfl rfl hl.1 rfl (lv_room (Nat.le_of_ble_eq_true rfl)) dX10_writeWord_27 ⟨Nat.le_of_ble_eq_true rfl, Nat.le_of_ble_eq_true rfl⟩) hw hA ⟨by decide, by decide⟩ (fun ws H locs hp_v_4 hw hF9 => ?_)
    obtain ⟨v_5, m_v_5, r_v_5⟩ := (hp_v_4.1)
    subst hQ
    exact W.vret hx hb hr (fun t ht hW => ⟨⟨ws, rfl, ⟨⟨⟨_, m_v_5, r_v_5⟩, trivial⟩, hw.1, hw.2.2.2.2.1⟩, by rw [ht]; exact hw.2.1, va_K.moved hW.alike hK, hw.2.2.1⟩, hw.2.2.2.1.F ht⟩) hw.2.2.2.1.2.2 dX10_writeWord_30
  refine lv_lload_n hx hb dX10_writeWord_0 rfl (lv_at hl 1 rfl) ?_
  refine lv_ldc2 (v := 27) hx hb hown (hts _ tw_1312) dX10_writeWord_1 ?_
  refine W.lcmp hx hb dX10_writeWord_4 (lv_topi (fun v_6 e_v_6 => ?_))
  have r_v_6 := ri_any v_6
  refine lv_if_lt (tgt := 17) hx hb dX10_writeWord_5 (by decide) (fun c_5 => ?_) (fun c_5 => ?_)
  · have r_v_6 : RI v_6 (-2147483648) (-1) := rc_lt1 r_v_6 rl_0 (ti_lt c_5) (by decide)
    have r_p1 : RJ p1 1 26 := tq_lc_lt r_p1 rk_27 e_v_6 c_5 (by decide)
    exact B17 f0_38 w0 _ _ ls (r_p1.to (by decide)) (r_f0_38.to (by decide)) m_f0_38 hw hl
  · have r_v_6 : RI v_6 0 2147483647 := rc_le2 rl_0 r_v_6 (ti_nlt c_5) (by decide)
    have r_p1 : RJ p1 27 468595846001868 := tq_lc_nlt r_p1 rk_27 e_v_6 c_5 (by decide)
    refine lv_aload_n hx hb dX10_writeWord_8 rfl (lv_at hl 0 rfl) ?_
    refine lv_lload_n hx hb dX10_writeWord_9 rfl (lv_at hl 1 rfl) ?_
    refine lv_ldc2 (v := 27) hx hb hown (hts _ tw_1312) dX10_writeWord_10 ?_
    refine lv_ldiv hx hb dX10_writeWord_13 (by decide) (lv_topl (fun w_7 e_w_7 => ?_))
    have r_w_7 := tq_ldiv (lo := 1) (hi := 17355401703772) r_p1 (by decide) e_w_7
    refine tk_v (va_runV (As := [.long w_7]) (rest := []) ⟨hx, hb, hml, hown, hts⟩ (c_X10_writeWord__24 l D cy z s.heap.size Ps w0 hw.1 p0 w_7 f0_38 h_p0 r_w_7 r_f0_38 m_f0_38) (cwV 1 hts (gV tw_1670 tw_1672 ts_97 tw_15 tw_1673) rfl rfl rfl (by decide +kernel) ⟨Nat.le_of_ble_eq_true rfl, Nat.le_of_ble_eq_true rfl⟩) (tg_preV hw hK hSD hA (ci := 10) (q := (RX10, TX10, 49)) rfl h_p0 rfl) rfl rfl hl.1 rfl (lv_room (Nat.le_of_ble_eq_true rfl)) dX10_writeWord_14 ⟨Nat.le_of_ble_eq_true rfl, Nat.le_of_ble_eq_true rfl⟩) hw hA ⟨by decide, by decide⟩ (fun ws H locs hp_v_8 hw hF9 => ?_)
    obtain ⟨v_9, m_v_9, r_v_9⟩ := (hp_v_8.1)
    exact B17 v_9 ws _ _ ls (r_p1.to (by decide)) (r_v_9.to (by decide)) m_v_9 hw hl
abbrev wr_X10_writeWord__22 : List (Nat × Nat) := [(10, 38)]
abbrev wa_X10_writeWord__22 : List Nat := [51]
set_option maxHeartbeats 4000000 in
set_option maxRecDepth 100000 in
theorem c_X10_writeWord__22 (l : Launch) (D : va_G) (cy : Nat → ClassId) (z : Nat → Nat) (sz : Nat) (Ps : PSI) (w0 : va_W) (hT : HT cy GG Ps w0) (p0 : Nat) (p1 : Int64) (f0_38 : Int32) (h_p0 : (p0, 55) ∈ Ps) (r_p1 : RJ p1 1 12652087842050446) (r_f0_38 : RI f0_38 0 0) (m_f0_38 : FLD w0 p0 10 38 (.int f0_38)) : Met l yX10_writeWord (Cond.code yX10_writeWord cX10_writeWord 3 none :: gT) ({ frames := 13, cells := 0, slots := 0, locals := 2600 } : Room) (va_Pc [.ref p0, .long p1] (PRE D cy z w0 sz)) (va_Qv (fun (u : va_W) => ((∃ v9 : Int32, FLD u p0 10 38 (.int v9) ∧ RI v9 1 12) ∧ True) ∧ HT cy GG Ps u ∧ FR wr_X10_writeWord__22 wa_X10_writeWord__22 Ps w0 u) (BB D cy (va_A w0 sz) (fun (u : va_W) => u)) (va_A w0 sz)) 0 0 (va_A w0 sz) := by
  refine Met.ofW (cc := cX10_writeWord) (maxL := 3) (ret := none) (by decide) rfl ?_
  intro p e s m args below meth c s₁ B hml hv
  obtain ⟨rfl, hsz, hP, hK, hD0, hSD⟩ := hv
  have hx := B.exec
  have hb := B.bytes
  have hr := B.returns
  have hlocks := B.notSynchronized
  have hts : ∀ w ∈ gT, w.before _ s = true := fun w h => atoms_spec (ws := Cond.code yX10_writeWord cX10_writeWord 3 none :: gT) B.pre w (List.mem_cons_of_mem _ h)
  have hown : s.vm.findClass RX10 = some m.cls := findClass_of_methodNamed B.named
  subst hsz
  have hD := hD0.self (sz := s.heap.size)
  generalize hAe : va_A w0 s.heap.size = A at hD hSD ⊢
  have hA : ∀ q : Nat, s.heap.size ≤ q → A q := fun q h => by rw [← hAe]; exact Or.inr h
  have hl := lv_entry ([.ref p0, .long p1]) (n := 3) (Nat.le_of_ble_eq_true rfl)
  rw [lg_entry_eq]
  generalize (lg_sl ([.ref p0, .long p1]) ++ List.replicate (3 - (lg_sl ([.ref p0, .long p1])).length) Slot.unset).toArray = ls at hl ⊢
  have hl : lv_has ls 3 [(0, .ref p0), (1, .long p1)] := hl
  refine nameQ (fun Q hQ => ?_)
  have hw : WD D cy GG A s wr_X10_writeWord__22 wa_X10_writeWord__22 Ps w0 Ps w0 s.heap [] := ⟨hT, hP, hD, va_S.rf, FR.rf, hT.1, [], (List.append_nil _).symm⟩
  have B17 : ∀ (z0_38 : Int32) (ws : va_W) (H : Heap) (locs : List Loc) (ls : Array Slot), RJ p1 1 12652087842050446 → RI z0_38 0 11 → FLD ws p0 10 38 (.int z0_38) → WD D cy GG A s wr_X10_writeWord__22 wa_X10_writeWord__22 Ps w0 Ps ws H locs → lv_has ls 3 [(0, .ref p0), (1, .long p1)] → W p l e (headSpec (Cond.code yX10_writeWord cX10_writeWord 3 none :: gT) ({ frames := 13, cells := 0, slots := 0, locals := 2600 } : Room)).room s m ([.ref p0, .long p1] : List Value).toArray below meth c H locs 0 0 Q (F0 m 17 ls []) := by
    intro z0_38 ws H locs ls r_p1 r_z0_38 m_z0_38 hw hl
    refine lv_aload_n hx hb dX10_writeWord_17 rfl (lv_at hl 0 rfl) ?_
    refine lv_bipush (v := 96) hx hb dX10_writeWord_18 (by decide) ?_
    refine lv_lload_n hx hb dX10_writeWord_20 rfl (lv_at hl 1 rfl) ?_
    refine lv_ldc2 (v := 27) hx hb hown (hts _ tw_1312) dX10_writeWord_21 ?_
    refine lv_lrem hx hb dX10_writeWord_24 (by decide) (lv_topl (fun w_1 e_w_1 => ?_))
    have r_w_1 := rj_any w_1
    obtain ⟨v_2, e_v_2⟩ : ∃ q9 : Int32, (w_1 : Int64).toInt32 = q9 := ⟨_, rfl⟩
    refine lv_l2i (v := v_2) hx hb dX10_writeWord_25 e_v_2 ?_
    have r_v_2 := ri_any v_2
    refine lv_iadd hx hb dX10_writeWord_26 (lv_topi (fun v_3 e_v_3 => ?_))
    have r_v_3 := ri_any v_3
    refine tk_v (va_runV (As := [.int v_3]) (rest := []) ⟨hx, hb, hml, hown, hts⟩ (c_X10_write__25 l D cy z H.size Ps ws hw.1 p0 v_3 z0_38 h_p0 r_v_3 r_z0_38 m_z0_38) (cwV 1 hts (gV tw_1674 tw_1676 ts_98 tw_15 tw_1677) rfl rfl rfl (by decide +kernel) ⟨Nat.le_of_ble_eq_true rfl, Nat.le_of_ble_eq_true rfl⟩) (tg_preV hw hK hSD hA (ci := 10) (q := (RX10, TX10, 49)) rfl h_p0 rfl) rfl rfl hl.1 rfl (lv_room (Nat.le_of_ble_eq_true rfl)) dX10_writeWord_27 ⟨Nat.le_of_ble_eq_true rfl, Nat.le_of_ble_eq_true rfl⟩) hw hA ⟨by decide, by decide⟩ (fun ws H locs hp_v_4 hw hF9 => ?_)
    obtain ⟨v_5, m_v_5, r_v_5⟩ := (hp_v_4.1)
    subst hQ
    exact W.vret hx hb hr (fun t ht hW => ⟨⟨ws, rfl, ⟨⟨⟨_, m_v_5, r_v_5⟩, trivial⟩, hw.1, hw.2.2.2.2.1⟩, by rw [ht]; exact hw.2.1, va_K.moved hW.alike hK, hw.2.2.1⟩, hw.2.2.2.1.F ht⟩) hw.2.2.2.1.2.2 dX10_writeWord_30
  refine lv_lload_n hx hb dX10_writeWord_0 rfl (lv_at hl 1 rfl) ?_
  refine lv_ldc2 (v := 27) hx hb hown (hts _ tw_1312) dX10_writeWord_1 ?_
  refine W.lcmp hx hb dX10_writeWord_4 (lv_topi (fun v_6 e_v_6 => ?_))
  have r_v_6 := ri_any v_6
  refine lv_if_lt (tgt := 17) hx hb dX10_writeWord_5 (by decide) (fun c_5 => ?_) (fun c_5 => ?_)
  · have r_v_6 : RI v_6 (-2147483648) (-1) := rc_lt1 r_v_6 rl_0 (ti_lt c_5) (by decide)
    have r_p1 : RJ p1 1 26 := tq_lc_lt r_p1 rk_27 e_v_6 c_5 (by decide)
    exact B17 f0_38 w0 _ _ ls (r_p1.to (by decide)) (r_f0_38.to (by decide)) m_f0_38 hw hl
  · have r_v_6 : RI v_6 0 2147483647 := rc_le2 rl_0 r_v_6 (ti_nlt c_5) (by decide)
    have r_p1 : RJ p1 27 12652087842050446 := tq_lc_nlt r_p1 rk_27 e_v_6 c_5 (by decide)
    refine lv_aload_n hx hb dX10_writeWord_8 rfl (lv_at hl 0 rfl) ?_
    refine lv_lload_n hx hb dX10_writeWord_9 rfl (lv_at hl 1 rfl) ?_
    refine lv_ldc2 (v := 27) hx hb hown (hts _ tw_1312) dX10_writeWord_10 ?_
    refine lv_ldiv hx hb dX10_writeWord_13 (by decide) (lv_topl (fun w_7 e_w_7 => ?_))
    have r_w_7 := tq_ldiv (lo := 1) (hi := 468595846001868) r_p1 (by decide) e_w_7
    refine tk_v (va_runV (As := [.long w_7]) (rest := []) ⟨hx, hb, hml, hown, hts⟩ (c_X10_writeWord__23 l D cy z s.heap.size Ps w0 hw.1 p0 w_7 f0_38 h_p0 r_w_7 r_f0_38 m_f0_38) (cwV 1 hts (gV tw_1670 tw_1672 ts_97 tw_15 tw_1673) rfl rfl rfl (by decide +kernel) ⟨Nat.le_of_ble_eq_true rfl, Nat.le_of_ble_eq_true rfl⟩) (tg_preV hw hK hSD hA (ci := 10) (q := (RX10, TX10, 49)) rfl h_p0 rfl) rfl rfl hl.1 rfl (lv_room (Nat.le_of_ble_eq_true rfl)) dX10_writeWord_14 ⟨Nat.le_of_ble_eq_true rfl, Nat.le_of_ble_eq_true rfl⟩) hw hA ⟨by decide, by decide⟩ (fun ws H locs hp_v_8 hw hF9 => ?_)
    obtain ⟨v_9, m_v_9, r_v_9⟩ := (hp_v_8.1)
    exact B17 v_9 ws _ _ ls (r_p1.to (by decide)) (r_v_9.to (by decide)) m_v_9 hw hl
abbrev wr_X10_writeWord__21 : List (Nat × Nat) := [(10, 38)]
abbrev wa_X10_writeWord__21 : List Nat := [51]
set_option maxHeartbeats 4000000 in
set_option maxRecDepth 100000 in
theorem c_X10_writeWord__21 (l : Launch) (D : va_G) (cy : Nat → ClassId) (z : Nat → Nat) (sz : Nat) (Ps : PSI) (w0 : va_W) (hT : HT cy GG Ps w0) (p0 : Nat) (p1 : Int64) (f0_38 : Int32) (h_p0 : (p0, 55) ∈ Ps) (r_p1 : RJ p1 1 341606371735362066) (r_f0_38 : RI f0_38 0 0) (m_f0_38 : FLD w0 p0 10 38 (.int f0_38)) : Met l yX10_writeWord (Cond.code yX10_writeWord cX10_writeWord 3 none :: gT) ({ frames := 14, cells := 0, slots := 0, locals := 2800 } : Room) (va_Pc [.ref p0, .long p1] (PRE D cy z w0 sz)) (va_Qv (fun (u : va_W) => ((∃ v9 : Int32, FLD u p0 10 38 (.int v9) ∧ RI v9 1 13) ∧ True) ∧ HT cy GG Ps u ∧ FR wr_X10_writeWord__21 wa_X10_writeWord__21 Ps w0 u) (BB D cy (va_A w0 sz) (fun (u : va_W) => u)) (va_A w0 sz)) 0 0 (va_A w0 sz) := by
  refine Met.ofW (cc := cX10_writeWord) (maxL := 3) (ret := none) (by decide) rfl ?_
  intro p e s m args below meth c s₁ B hml hv
  obtain ⟨rfl, hsz, hP, hK, hD0, hSD⟩ := hv
  have hx := B.exec
  have hb := B.bytes
  have hr := B.returns
  have hlocks := B.notSynchronized
  have hts : ∀ w ∈ gT, w.before _ s = true := fun w h => atoms_spec (ws := Cond.code yX10_writeWord cX10_writeWord 3 none :: gT) B.pre w (List.mem_cons_of_mem _ h)
  have hown : s.vm.findClass RX10 = some m.cls := findClass_of_methodNamed B.named
  subst hsz
  have hD := hD0.self (sz := s.heap.size)
  generalize hAe : va_A w0 s.heap.size = A at hD hSD ⊢
  have hA : ∀ q : Nat, s.heap.size ≤ q → A q := fun q h => by rw [← hAe]; exact Or.inr h
  have hl := lv_entry ([.ref p0, .long p1]) (n := 3) (Nat.le_of_ble_eq_true rfl)
  rw [lg_entry_eq]
  generalize (lg_sl ([.ref p0, .long p1]) ++ List.replicate (3 - (lg_sl ([.ref p0, .long p1])).length) Slot.unset).toArray = ls at hl ⊢
  have hl : lv_has ls 3 [(0, .ref p0), (1, .long p1)] := hl
  refine nameQ (fun Q hQ => ?_)
  have hw : WD D cy GG A s wr_X10_writeWord__21 wa_X10_writeWord__21 Ps w0 Ps w0 s.heap [] := ⟨hT, hP, hD, va_S.rf, FR.rf, hT.1, [], (List.append_nil _).symm⟩
  have B17 : ∀ (z0_38 : Int32) (ws : va_W) (H : Heap) (locs : List Loc) (ls : Array Slot), RJ p1 1 341606371735362066 → RI z0_38 0 12 → FLD ws p0 10 38 (.int z0_38) → WD D cy GG A s wr_X10_writeWord__21 wa_X10_writeWord__21 Ps w0 Ps ws H locs → lv_has ls 3 [(0, .ref p0), (1, .long p1)] → W p l e (headSpec (Cond.code yX10_writeWord cX10_writeWord 3 none :: gT) ({ frames := 14, cells := 0, slots := 0, locals := 2800 } : Room)).room s m ([.ref p0, .long p1] : List Value).toArray below meth c H locs 0 0 Q (F0 m 17 ls []) := by
    intro z0_38 ws H locs ls r_p1 r_z0_38 m_z0_38 hw hl
    refine lv_aload_n hx hb dX10_writeWord_17 rfl (lv_at hl 0 rfl) ?_
    refine lv_bipush (v := 96) hx hb dX10_writeWord_18 (by decide) ?_
    refine lv_lload_n hx hb dX10_writeWord_20 rfl (lv_at hl 1 rfl) ?_
    refine lv_ldc2 (v := 27) hx hb hown (hts _ tw_1312) dX10_writeWord_21 ?_
    refine lv_lrem hx hb dX10_writeWord_24 (by decide) (lv_topl (fun w_1 e_w_1 => ?_))
    have r_w_1 := rj_any w_1
    obtain ⟨v_2, e_v_2⟩ : ∃ q9 : Int32, (w_1 : Int64).toInt32 = q9 := ⟨_, rfl⟩
    refine lv_l2i (v := v_2) hx hb dX10_writeWord_25 e_v_2 ?_
    have r_v_2 := ri_any v_2
    refine lv_iadd hx hb dX10_writeWord_26 (lv_topi (fun v_3 e_v_3 => ?_))
    have r_v_3 := ri_any v_3
    refine tk_v (va_runV (As := [.int v_3]) (rest := []) ⟨hx, hb, hml, hown, hts⟩ (c_X10_write__24 l D cy z H.size Ps ws hw.1 p0 v_3 z0_38 h_p0 r_v_3 r_z0_38 m_z0_38) (cwV 1 hts (gV tw_1674 tw_1676 ts_98 tw_15 tw_1677) rfl rfl rfl (by decide +kernel) ⟨Nat.le_of_ble_eq_true rfl, Nat.le_of_ble_eq_true rfl⟩) (tg_preV hw hK hSD hA (ci := 10) (q := (RX10, TX10, 49)) rfl h_p0 rfl) rfl rfl hl.1 rfl (lv_room (Nat.le_of_ble_eq_true rfl)) dX10_writeWord_27 ⟨Nat.le_of_ble_eq_true rfl, Nat.le_of_ble_eq_true rfl⟩) hw hA ⟨by decide, by decide⟩ (fun ws H locs hp_v_4 hw hF9 => ?_)
    obtain ⟨v_5, m_v_5, r_v_5⟩ := (hp_v_4.1)
    subst hQ
    exact W.vret hx hb hr (fun t ht hW => ⟨⟨ws, rfl, ⟨⟨⟨_, m_v_5, r_v_5⟩, trivial⟩, hw.1, hw.2.2.2.2.1⟩, by rw [ht]; exact hw.2.1, va_K.moved hW.alike hK, hw.2.2.1⟩, hw.2.2.2.1.F ht⟩) hw.2.2.2.1.2.2 dX10_writeWord_30
  refine lv_lload_n hx hb dX10_writeWord_0 rfl (lv_at hl 1 rfl) ?_
  refine lv_ldc2 (v := 27) hx hb hown (hts _ tw_1312) dX10_writeWord_1 ?_
  refine W.lcmp hx hb dX10_writeWord_4 (lv_topi (fun v_6 e_v_6 => ?_))
  have r_v_6 := ri_any v_6
  refine lv_if_lt (tgt := 17) hx hb dX10_writeWord_5 (by decide) (fun c_5 => ?_) (fun c_5 => ?_)
  · have r_v_6 : RI v_6 (-2147483648) (-1) := rc_lt1 r_v_6 rl_0 (ti_lt c_5) (by decide)
    have r_p1 : RJ p1 1 26 := tq_lc_lt r_p1 rk_27 e_v_6 c_5 (by decide)
    exact B17 f0_38 w0 _ _ ls (r_p1.to (by decide)) (r_f0_38.to (by decide)) m_f0_38 hw hl
  · have r_v_6 : RI v_6 0 2147483647 := rc_le2 rl_0 r_v_6 (ti_nlt c_5) (by decide)
    have r_p1 : RJ p1 27 341606371735362066 := tq_lc_nlt r_p1 rk_27 e_v_6 c_5 (by decide)
    refine lv_aload_n hx hb dX10_writeWord_8 rfl (lv_at hl 0 rfl) ?_
    refine lv_lload_n hx hb dX10_writeWord_9 rfl (lv_at hl 1 rfl) ?_
    refine lv_ldc2 (v := 27) hx hb hown (hts _ tw_1312) dX10_writeWord_10 ?_
    refine lv_ldiv hx hb dX10_writeWord_13 (by decide) (lv_topl (fun w_7 e_w_7 => ?_))
    have r_w_7 := tq_ldiv (lo := 1) (hi := 12652087842050446) r_p1 (by decide) e_w_7
    refine tk_v (va_runV (As := [.long w_7]) (rest := []) ⟨hx, hb, hml, hown, hts⟩ (c_X10_writeWord__22 l D cy z s.heap.size Ps w0 hw.1 p0 w_7 f0_38 h_p0 r_w_7 r_f0_38 m_f0_38) (cwV 1 hts (gV tw_1670 tw_1672 ts_97 tw_15 tw_1673) rfl rfl rfl (by decide +kernel) ⟨Nat.le_of_ble_eq_true rfl, Nat.le_of_ble_eq_true rfl⟩) (tg_preV hw hK hSD hA (ci := 10) (q := (RX10, TX10, 49)) rfl h_p0 rfl) rfl rfl hl.1 rfl (lv_room (Nat.le_of_ble_eq_true rfl)) dX10_writeWord_14 ⟨Nat.le_of_ble_eq_true rfl, Nat.le_of_ble_eq_true rfl⟩) hw hA ⟨by decide, by decide⟩ (fun ws H locs hp_v_8 hw hF9 => ?_)
    obtain ⟨v_9, m_v_9, r_v_9⟩ := (hp_v_8.1)
    exact B17 v_9 ws _ _ ls (r_p1.to (by decide)) (r_v_9.to (by decide)) m_v_9 hw hl
abbrev wr_X10_writeWord__20 : List (Nat × Nat) := [(10, 38)]
abbrev wa_X10_writeWord__20 : List Nat := [51]
set_option maxHeartbeats 4000000 in
set_option maxRecDepth 100000 in
theorem c_X10_writeWord__20 (l : Launch) (D : va_G) (cy : Nat → ClassId) (z : Nat → Nat) (sz : Nat) (Ps : PSI) (w0 : va_W) (hT : HT cy GG Ps w0) (p0 : Nat) (p1 : Int64) (f0_38 : Int32) (h_p0 : (p0, 55) ∈ Ps) (r_p1 : RJ p1 (-9223372036854775808) 9223372036854775807) (r_f0_38 : RI f0_38 0 0) (m_f0_38 : FLD w0 p0 10 38 (.int f0_38)) : Met l yX10_writeWord (Cond.code yX10_writeWord cX10_writeWord 3 none :: gT) ({ frames := 15, cells := 0, slots := 0, locals := 3000 } : Room) (va_Pc [.ref p0, .long p1] (PRE D cy z w0 sz)) (va_Qv (fun (u : va_W) => ((∃ v9 : Int32, FLD u p0 10 38 (.int v9) ∧ RI v9 1 14) ∧ True) ∧ HT cy GG Ps u ∧ FR wr_X10_writeWord__20 wa_X10_writeWord__20 Ps w0 u) (BB D cy (va_A w0 sz) (fun (u : va_W) => u)) (va_A w0 sz)) 0 0 (va_A w0 sz) := by
  refine Met.ofW (cc := cX10_writeWord) (maxL := 3) (ret := none) (by decide) rfl ?_
  intro p e s m args below meth c s₁ B hml hv
  obtain ⟨rfl, hsz, hP, hK, hD0, hSD⟩ := hv
  have hx := B.exec
  have hb := B.bytes
  have hr := B.returns
  have hlocks := B.notSynchronized
  have hts : ∀ w ∈ gT, w.before _ s = true := fun w h => atoms_spec (ws := Cond.code yX10_writeWord cX10_writeWord 3 none :: gT) B.pre w (List.mem_cons_of_mem _ h)
  have hown : s.vm.findClass RX10 = some m.cls := findClass_of_methodNamed B.named
  subst hsz
  have hD := hD0.self (sz := s.heap.size)
  generalize hAe : va_A w0 s.heap.size = A at hD hSD ⊢
  have hA : ∀ q : Nat, s.heap.size ≤ q → A q := fun q h => by rw [← hAe]; exact Or.inr h
  have hl := lv_entry ([.ref p0, .long p1]) (n := 3) (Nat.le_of_ble_eq_true rfl)
  rw [lg_entry_eq]
  generalize (lg_sl ([.ref p0, .long p1]) ++ List.replicate (3 - (lg_sl ([.ref p0, .long p1])).length) Slot.unset).toArray = ls at hl ⊢
  have hl : lv_has ls 3 [(0, .ref p0), (1, .long p1)] := hl
  refine nameQ (fun Q hQ => ?_)
  have hw : WD D cy GG A s wr_X10_writeWord__20 wa_X10_writeWord__20 Ps w0 Ps w0 s.heap [] := ⟨hT, hP, hD, va_S.rf, FR.rf, hT.1, [], (List.append_nil _).symm⟩
  have B17 : ∀ (z0_38 : Int32) (ws : va_W) (H : Heap) (locs : List Loc) (ls : Array Slot), RJ p1 (-9223372036854775808) 9223372036854775807 → RI z0_38 0 13 → FLD ws p0 10 38 (.int z0_38) → WD D cy GG A s wr_X10_writeWord__20 wa_X10_writeWord__20 Ps w0 Ps ws H locs → lv_has ls 3 [(0, .ref p0), (1, .long p1)] → W p l e (headSpec (Cond.code yX10_writeWord cX10_writeWord 3 none :: gT) ({ frames := 15, cells := 0, slots := 0, locals := 3000 } : Room)).room s m ([.ref p0, .long p1] : List Value).toArray below meth c H locs 0 0 Q (F0 m 17 ls []) := by
    intro z0_38 ws H locs ls r_p1 r_z0_38 m_z0_38 hw hl
    refine lv_aload_n hx hb dX10_writeWord_17 rfl (lv_at hl 0 rfl) ?_
    refine lv_bipush (v := 96) hx hb dX10_writeWord_18 (by decide) ?_
    refine lv_lload_n hx hb dX10_writeWord_20 rfl (lv_at hl 1 rfl) ?_
    refine lv_ldc2 (v := 27) hx hb hown (hts _ tw_1312) dX10_writeWord_21 ?_
    refine lv_lrem hx hb dX10_writeWord_24 (by decide) (lv_topl (fun w_1 e_w_1 => ?_))
    have r_w_1 := rj_any w_1
    obtain ⟨v_2, e_v_2⟩ : ∃ q9 : Int32, (w_1 : Int64).toInt32 = q9 := ⟨_, rfl⟩
    refine lv_l2i (v := v_2) hx hb dX10_writeWord_25 e_v_2 ?_
    have r_v_2 := ri_any v_2
    refine lv_iadd hx hb dX10_writeWord_26 (lv_topi (fun v_3 e_v_3 => ?_))
    have r_v_3 := ri_any v_3
    refine tk_v (va_runV (As := [.int v_3]) (rest := []) ⟨hx, hb, hml, hown, hts⟩ (c_X10_write__23 l D cy z H.size Ps ws hw.1 p0 v_3 z0_38 h_p0 r_v_3 r_z0_38 m_z0_38) (cwV 1 hts (gV tw_1674 tw_1676 ts_98 tw_15 tw_1677) rfl rfl rfl (by decide +kernel) ⟨Nat.le_of_ble_eq_true rfl, Nat.le_of_ble_eq_true rfl⟩) (tg_preV hw hK hSD hA (ci := 10) (q := (RX10, TX10, 49)) rfl h_p0 rfl) rfl rfl hl.1 rfl (lv_room (Nat.le_of_ble_eq_true rfl)) dX10_writeWord_27 ⟨Nat.le_of_ble_eq_true rfl, Nat.le_of_ble_eq_true rfl⟩) hw hA ⟨by decide, by decide⟩ (fun ws H locs hp_v_4 hw hF9 => ?_)
    obtain ⟨v_5, m_v_5, r_v_5⟩ := (hp_v_4.1)
    subst hQ
    exact W.vret hx hb hr (fun t ht hW => ⟨⟨ws, rfl, ⟨⟨⟨_, m_v_5, r_v_5⟩, trivial⟩, hw.1, hw.2.2.2.2.1⟩, by rw [ht]; exact hw.2.1, va_K.moved hW.alike hK, hw.2.2.1⟩, hw.2.2.2.1.F ht⟩) hw.2.2.2.1.2.2 dX10_writeWord_30
  refine lv_lload_n hx hb dX10_writeWord_0 rfl (lv_at hl 1 rfl) ?_
  refine lv_ldc2 (v := 27) hx hb hown (hts _ tw_1312) dX10_writeWord_1 ?_
  refine W.lcmp hx hb dX10_writeWord_4 (lv_topi (fun v_6 e_v_6 => ?_))
  have r_v_6 := ri_any v_6
  refine lv_if_lt (tgt := 17) hx hb dX10_writeWord_5 (by decide) (fun c_5 => ?_) (fun c_5 => ?_)
  · have r_v_6 : RI v_6 (-2147483648) (-1) := rc_lt1 r_v_6 rl_0 (ti_lt c_5) (by decide)
    have r_p1 : RJ p1 (-9223372036854775808) 26 := tq_lc_lt r_p1 rk_27 e_v_6 c_5 (by decide)
    exact B17 f0_38 w0 _ _ ls (r_p1.to (by decide)) (r_f0_38.to (by decide)) m_f0_38 hw hl
  · have r_v_6 : RI v_6 0 2147483647 := rc_le2 rl_0 r_v_6 (ti_nlt c_5) (by decide)
    have r_p1 : RJ p1 27 9223372036854775807 := tq_lc_nlt r_p1 rk_27 e_v_6 c_5 (by decide)
    refine lv_aload_n hx hb dX10_writeWord_8 rfl (lv_at hl 0 rfl) ?_
    refine lv_lload_n hx hb dX10_writeWord_9 rfl (lv_at hl 1 rfl) ?_
    refine lv_ldc2 (v := 27) hx hb hown (hts _ tw_1312) dX10_writeWord_10 ?_
    refine lv_ldiv hx hb dX10_writeWord_13 (by decide) (lv_topl (fun w_7 e_w_7 => ?_))
    have r_w_7 := tq_ldiv (lo := 1) (hi := 341606371735362066) r_p1 (by decide) e_w_7
    refine tk_v (va_runV (As := [.long w_7]) (rest := []) ⟨hx, hb, hml, hown, hts⟩ (c_X10_writeWord__21 l D cy z s.heap.size Ps w0 hw.1 p0 w_7 f0_38 h_p0 r_w_7 r_f0_38 m_f0_38) (cwV 1 hts (gV tw_1670 tw_1672 ts_97 tw_15 tw_1673) rfl rfl rfl (by decide +kernel) ⟨Nat.le_of_ble_eq_true rfl, Nat.le_of_ble_eq_true rfl⟩) (tg_preV hw hK hSD hA (ci := 10) (q := (RX10, TX10, 49)) rfl h_p0 rfl) rfl rfl hl.1 rfl (lv_room (Nat.le_of_ble_eq_true rfl)) dX10_writeWord_14 ⟨Nat.le_of_ble_eq_true rfl, Nat.le_of_ble_eq_true rfl⟩) hw hA ⟨by decide, by decide⟩ (fun ws H locs hp_v_8 hw hF9 => ?_)
    obtain ⟨v_9, m_v_9, r_v_9⟩ := (hp_v_8.1)
    exact B17 v_9 ws _ _ ls (r_p1.to (by decide)) (r_v_9.to (by decide)) m_v_9 hw hl
abbrev wr_X10_wordOf__2 : List (Nat × Nat) := []
abbrev wa_X10_wordOf__2 : List Nat := []
set_option maxHeartbeats 4000000 in
set_option maxRecDepth 100000 in
theorem c_X10_wordOf__2 (l : Launch) (D : va_G) (cy : Nat → ClassId) (z : Nat → Nat) (sz : Nat) (Ps : PSI) (w0 : va_W) (hT : HT cy GG Ps w0) (p0 : Int32) (r_p0 : RI p0 22 22) : Met l yX10_wordOf (Cond.code yX10_wordOf cX10_wordOf 1 (some .long) :: gT) ({ frames := 2, cells := 0, slots := 0, locals := 400 } : Room) (va_Pc [.int p0] (PRE D cy z w0 sz)) (va_Ql (fun (r : Int64) (u : Unit) => RJ r 262 262) (BB D cy (va_A w0 sz) (fun (u : Unit) => w0)) (va_A w0 sz)) 0 0 (va_A w0 sz) := by
  refine Met.ofW (cc := cX10_wordOf) (maxL := 1) (ret := (some .long)) (by decide) rfl ?_
  intro p e s m args below meth c s₁ B hml hv
  obtain ⟨rfl, hsz, hP, hK, hD0, hSD⟩ := hv
  have hx := B.exec
  have hb := B.bytes
  have hr := B.returns
  have hlocks := B.notSynchronized
  have hts : ∀ w ∈ gT, w.before _ s = true := fun w h => atoms_spec (ws := Cond.code yX10_wordOf cX10_wordOf 1 (some .long) :: gT) B.pre w (List.mem_cons_of_mem _ h)
  have hown : s.vm.findClass RX10 = some m.cls := findClass_of_methodNamed B.named
  subst hsz
  have hD := hD0.self (sz := s.heap.size)
  generalize hAe : va_A w0 s.heap.size = A at hD hSD ⊢
  have hA : ∀ q : Nat, s.heap.size ≤ q → A q := fun q h => by rw [← hAe]; exact Or.inr h
  have hl := lv_entry ([.int p0]) (n := 1) (Nat.le_of_ble_eq_true rfl)
  rw [lg_entry_eq]
  generalize (lg_sl ([.int p0]) ++ List.replicate (1 - (lg_sl ([.int p0])).length) Slot.unset).toArray = ls at hl ⊢
  have hl : lv_has ls 1 [(0, .int p0)] := hl
  refine nameQ (fun Q hQ => ?_)
  have hw : WD D cy GG A s wr_X10_wordOf__2 wa_X10_wordOf__2 Ps w0 Ps w0 s.heap [] := ⟨hT, hP, hD, va_S.rf, FR.rf, hT.1, [], (List.append_nil _).symm⟩
  refine lv_iload_n hx hb dX10_wordOf_0 rfl (lv_at hl 0 rfl) ?_
  have w_1 := r_p0
  by_cases cl_1 : p0.toInt < 0 ∨ 26 < p0.toInt
  · refine lv_tableOut (tgt := 547) hx hb dX10_wordOf_1 cl_1 (by decide) ?_
    exact absurd cl_1 (by unfold RI at w_1; omega)
  · have e_1 : p0.toInt = 0 ∨ p0.toInt = 1 ∨ p0.toInt = 2 ∨ p0.toInt = 3 ∨ p0.toInt = 4 ∨ p0.toInt = 5 ∨ p0.toInt = 6 ∨ p0.toInt = 7 ∨ p0.toInt = 8 ∨ p0.toInt = 9 ∨ p0.toInt = 10 ∨ p0.toInt = 11 ∨ p0.toInt = 12 ∨ p0.toInt = 13 ∨ p0.toInt = 14 ∨ p0.toInt = 15 ∨ p0.toInt = 16 ∨ p0.toInt = 17 ∨ p0.toInt = 18 ∨ p0.toInt = 19 ∨ p0.toInt = 20 ∨ p0.toInt = 21 ∨ p0.toInt = 22 ∨ p0.toInt = 23 ∨ p0.toInt = 24 ∨ p0.toInt = 25 ∨ p0.toInt = 26 := by omega
    rcases e_1 with h_1 | h_1 | h_1 | h_1 | h_1 | h_1 | h_1 | h_1 | h_1 | h_1 | h_1 | h_1 | h_1 | h_1 | h_1 | h_1 | h_1 | h_1 | h_1 | h_1 | h_1 | h_1 | h_1 | h_1 | h_1 | h_1 | h_1
    · exact absurd h_1 (by unfold RI at w_1; omega)
    · exact absurd h_1 (by unfold RI at w_1; omega)
    · exact absurd h_1 (by unfold RI at w_1; omega)
    · exact absurd h_1 (by unfold RI at w_1; omega)
    · exact absurd h_1 (by unfold RI at w_1; omega)
    · exact absurd h_1 (by unfold RI at w_1; omega)
    · exact absurd h_1 (by unfold RI at w_1; omega)
    · exact absurd h_1 (by unfold RI at w_1; omega)
    · exact absurd h_1 (by unfold RI at w_1; omega)
    · exact absurd h_1 (by unfold RI at w_1; omega)
    · exact absurd h_1 (by unfold RI at w_1; omega)
    · exact absurd h_1 (by unfold RI at w_1; omega)
    · exact absurd h_1 (by unfold RI at w_1; omega)
    · exact absurd h_1 (by unfold RI at w_1; omega)
    · exact absurd h_1 (by unfold RI at w_1; omega)
    · exact absurd h_1 (by unfold RI at w_1; omega)
    · exact absurd h_1 (by unfold RI at w_1; omega)
    · exact absurd h_1 (by unfold RI at w_1; omega)
    · exact absurd h_1 (by unfold RI at w_1; omega)
    · exact absurd h_1 (by unfold RI at w_1; omega)
    · exact absurd h_1 (by unfold RI at w_1; omega)
    · exact absurd h_1 (by unfold RI at w_1; omega)
    · refine lv_tableIn (tgt := 473) (off := 472) hx hb dX10_wordOf_1 (by omega) (by omega) (by rw [h_1]; rfl) (by decide) ?_
      have r_p0 : RI p0 22 22 := ⟨by omega, by omega⟩
      refine lv_bipush (v := 105) hx hb dX10_wordOf_473 (by decide) ?_
      refine lv_bipush (v := 115) hx hb dX10_wordOf_475 (by decide) ?_
      refine lv_iconst (v := 0) hx hb dX10_wordOf_477 (by decide) ?_
      refine lv_iconst (v := 0) hx hb dX10_wordOf_478 (by decide) ?_
      refine lv_iconst (v := 0) hx hb dX10_wordOf_479 (by decide) ?_
      refine lv_iconst (v := 0) hx hb dX10_wordOf_480 (by decide) ?_
      refine lv_iconst (v := 0) hx hb dX10_wordOf_481 (by decide) ?_
      refine tk_lr (va_runS (As := [.int 105, .int 115, .int 0, .int 0, .int 0, .int 0, .int 0]) (rest := []) ⟨hx, hb, hml, hown, hts⟩ (c_X10_spelt__23 l D cy z s.heap.size Ps w0 hw.1 105 115 0 0 0 0 0 rl_105 rl_115 rl_0 rl_0 rl_0 rl_0 rl_0) (va_cwS 7 hts (gS tw_1325 tw_1326 tw_15 tw_1327) rfl rfl rfl (by decide +kernel) ⟨Nat.le_of_ble_eq_true rfl, Nat.le_of_ble_eq_true rfl⟩) (tg_preS hw hK hSD hA) rfl rfl hl.1 rfl (lv_room (Nat.le_of_ble_eq_true rfl)) dX10_wordOf_482 ⟨Nat.le_of_ble_eq_true rfl, Nat.le_of_ble_eq_true rfl⟩) hw hA (fun v_1  H locs hp_v_1 hw => ?_)
      have r_v_1 : RJ v_1 262 262 := hp_v_1
      subst hQ
      exact W.lret (v := v_1) hx hb hr (fun t ht hW => ⟨⟨v_1, (), rfl, r_v_1.to (by decide), by rw [ht]; exact hw.2.1, va_K.moved hW.alike hK, hw.2.2.1⟩, hw.2.2.2.1.F ht⟩) hw.2.2.2.1.2.2 dX10_wordOf_485
    · exact absurd h_1 (by unfold RI at w_1; omega)
    · exact absurd h_1 (by unfold RI at w_1; omega)
    · exact absurd h_1 (by unfold RI at w_1; omega)
    · exact absurd h_1 (by unfold RI at w_1; omega)
abbrev wr_X10_write__37 : List (Nat × Nat) := [(10, 38)]
abbrev wa_X10_write__37 : List Nat := [51]
set_option maxHeartbeats 4000000 in
set_option maxRecDepth 100000 in
theorem c_X10_write__37 (l : Launch) (D : va_G) (cy : Nat → ClassId) (z : Nat → Nat) (sz : Nat) (Ps : PSI) (w0 : va_W) (hT : HT cy GG Ps w0) (p0 : Nat) (p1 : Int32) (f0_38 : Int32) (h_p0 : (p0, 55) ∈ Ps) (r_p1 : RI p1 (-2147483648) 2147483647) (r_f0_38 : RI f0_38 1 14) (m_f0_38 : FLD w0 p0 10 38 (.int f0_38)) : Met l yX10_write (Cond.code yX10_write cX10_write 2 none :: gT) ({ frames := 0, cells := 0, slots := 0, locals := 200 } : Room) (va_Pc [.ref p0, .int p1] (PRE D cy z w0 sz)) (va_Qv (fun (u : va_W) => ((∃ v9 : Int32, FLD u p0 10 38 (.int v9) ∧ RI v9 2 15) ∧ True) ∧ HT cy GG Ps u ∧ FR wr_X10_write__37 wa_X10_write__37 Ps w0 u) (BB D cy (va_A w0 sz) (fun (u : va_W) => u)) (va_A w0 sz)) 0 0 (va_A w0 sz) := by
  refine Met.ofW (cc := cX10_write) (maxL := 2) (ret := none) (by decide) rfl ?_
  intro p e s m args below meth c s₁ B hml hv
  obtain ⟨rfl, hsz, hP, hK, hD0, hSD⟩ := hv
  have hx := B.exec
  have hb := B.bytes
  have hr := B.returns
  have hlocks := B.notSynchronized
  have hts : ∀ w ∈ gT, w.before _ s = true := fun w h => atoms_spec (ws := Cond.code yX10_write cX10_write 2 none :: gT) B.pre w (List.mem_cons_of_mem _ h)
  have hown : s.vm.findClass RX10 = some m.cls := findClass_of_methodNamed B.named
  subst hsz
  have hD := hD0.self (sz := s.heap.size)
  generalize hAe : va_A w0 s.heap.size = A at hD hSD ⊢
  have hA : ∀ q : Nat, s.heap.size ≤ q → A q := fun q h => by rw [← hAe]; exact Or.inr h
  have hl := lv_entry ([.ref p0, .int p1]) (n := 2) (Nat.le_of_ble_eq_true rfl)
  rw [lg_entry_eq]
  generalize (lg_sl ([.ref p0, .int p1]) ++ List.replicate (2 - (lg_sl ([.ref p0, .int p1])).length) Slot.unset).toArray = ls at hl ⊢
  have hl : lv_has ls 2 [(0, .ref p0), (1, .int p1)] := hl
  refine nameQ (fun Q hQ => ?_)
  have hw : WD D cy GG A s wr_X10_write__37 wa_X10_write__37 Ps w0 Ps w0 s.heap [] := ⟨hT, hP, hD, va_S.rf, FR.rf, hT.1, [], (List.append_nil _).symm⟩
  refine lv_aload_n hx hb dX10_write_0 rfl (lv_at hl 0 rfl) ?_
  refine tg_get (ci := 10) (ts := ty_MODEL) (C := RX10) (T := TX10) (N := 49) hx hb hts inX10 hown hK hw h_p0 rfl rfl 37 (by decide) (hts _ tw_1174) (fun _ h9 => h9) (ft := vR 51) rfl dX10_write_1 (fun u_1 hv_u_1 m_u_1 => ?_)
  obtain ⟨vu_1, rfl, h_vu_1⟩ := hv_u_1
  refine lv_aload_n hx hb dX10_write_4 rfl (lv_at hl 0 rfl) ?_
  refine tg_mem (ci := 10) (C := RX10) (T := TX10) (N := 49) hx hb hts inX10 hown hK hw 38 m_f0_38 rfl (by decide) (hts _ tw_1175) (fun _ h9 => h9) dX10_write_5 ?_
  refine lv_iload_n hx hb dX10_write_8 rfl (lv_at hl 1 rfl) ?_
  refine tg_iast hx hb hK hw h_vu_1 rfl 1 14 r_f0_38 (by decide) r_p1 (by exact fun _ _ _ => by decide) (fun _ _ _ _ _ => trivial) (by decide) dX10_write_9 (fun ws H locs hw hF9 hU9 => ?_)
  have m_f0_38 := FLD.over hF9 m_f0_38 (by decide)
  refine lv_aload_n hx hb dX10_write_10 rfl (lv_at hl 0 rfl) ?_
  refine lv_dup hx hb dX10_write_11 rfl ?_
  refine tg_mem (ci := 10) (C := RX10) (T := TX10) (N := 49) hx hb hts inX10 hown hK hw 38 m_f0_38 rfl (by decide) (hts _ tw_1175) (fun _ h9 => h9) dX10_write_12 ?_
  refine lv_iconst (v := 1) hx hb dX10_write_15 (by decide) ?_
  refine lv_iadd hx hb dX10_write_16 (lv_topi (fun v_2 e_v_2 => ?_))
  obtain ⟨t_v_2, r_v_2⟩ := tq_add (lo := 2) (hi := 15) r_f0_38 rl_1 (by decide +kernel) e_v_2
  have t_v_2 : v_2.toInt = f0_38.toInt + 1 := t_v_2
  refine tg_put (ci := 10) (ts := ty_MODEL) (v := .int v_2) (ty := .int) (C := RX10) (T := TX10) (N := 49) hx hb hts inX10 tyX10 tyX10_ok nmX10 hown hK hw h_p0 rfl rfl 38 (by decide) (hts _ tw_1175) (fun _ h9 => h9) rfl (by decide +kernel) rfl rfl (ft := vI 0 64) rfl ⟨_, rfl, (r_v_2.to (by decide))⟩ (by decide) dX10_write_17 (fun ws H locs hw n_k_3 hF9 => ?_)
  subst hQ
  exact W.vret hx hb hr (fun t ht hW => ⟨⟨ws, rfl, ⟨⟨⟨_, n_k_3, r_v_2⟩, trivial⟩, hw.1, hw.2.2.2.2.1⟩, by rw [ht]; exact hw.2.1, va_K.moved hW.alike hK, hw.2.2.1⟩, hw.2.2.2.1.F ht⟩) hw.2.2.2.1.2.2 dX10_write_20
abbrev wr_X10_write__38 : List (Nat × Nat) := [(10, 38)]
abbrev wa_X10_write__38 : List Nat := [51]
set_option maxHeartbeats 4000000 in
set_option maxRecDepth 100000 in
theorem c_X10_write__38 (l : Launch) (D : va_G) (cy : Nat → ClassId) (z : Nat → Nat) (sz : Nat) (Ps : PSI) (w0 : va_W) (hT : HT cy GG Ps w0) (p0 : Nat) (p1 : Int32) (f0_38 : Int32) (h_p0 : (p0, 55) ∈ Ps) (r_p1 : RI p1 (-2147483648) 2147483647) (r_f0_38 : RI f0_38 3 16) (m_f0_38 : FLD w0 p0 10 38 (.int f0_38)) : Met l yX10_write (Cond.code yX10_write cX10_write 2 none :: gT) ({ frames := 0, cells := 0, slots := 0, locals := 200 } : Room) (va_Pc [.ref p0, .int p1] (PRE D cy z w0 sz)) (va_Qv (fun (u : va_W) => ((∃ v9 : Int32, FLD u p0 10 38 (.int v9) ∧ RI v9 4 17) ∧ True) ∧ HT cy GG Ps u ∧ FR wr_X10_write__38 wa_X10_write__38 Ps w0 u) (BB D cy (va_A w0 sz) (fun (u : va_W) => u)) (va_A w0 sz)) 0 0 (va_A w0 sz) := by
  refine Met.ofW (cc := cX10_write) (maxL := 2) (ret := none) (by decide) rfl ?_
  intro p e s m args below meth c s₁ B hml hv
  obtain ⟨rfl, hsz, hP, hK, hD0, hSD⟩ := hv
  have hx := B.exec
  have hb := B.bytes
  have hr := B.returns
  have hlocks := B.notSynchronized
  have hts : ∀ w ∈ gT, w.before _ s = true := fun w h => atoms_spec (ws := Cond.code yX10_write cX10_write 2 none :: gT) B.pre w (List.mem_cons_of_mem _ h)
  have hown : s.vm.findClass RX10 = some m.cls := findClass_of_methodNamed B.named
  subst hsz
  have hD := hD0.self (sz := s.heap.size)
  generalize hAe : va_A w0 s.heap.size = A at hD hSD ⊢
  have hA : ∀ q : Nat, s.heap.size ≤ q → A q := fun q h => by rw [← hAe]; exact Or.inr h
  have hl := lv_entry ([.ref p0, .int p1]) (n := 2) (Nat.le_of_ble_eq_true rfl)
  rw [lg_entry_eq]
  generalize (lg_sl ([.ref p0, .int p1]) ++ List.replicate (2 - (lg_sl ([.ref p0, .int p1])).length) Slot.unset).toArray = ls at hl ⊢
  have hl : lv_has ls 2 [(0, .ref p0), (1, .int p1)] := hl
  refine nameQ (fun Q hQ => ?_)
  have hw : WD D cy GG A s wr_X10_write__38 wa_X10_write__38 Ps w0 Ps w0 s.heap [] := ⟨hT, hP, hD, va_S.rf, FR.rf, hT.1, [], (List.append_nil _).symm⟩
  refine lv_aload_n hx hb dX10_write_0 rfl (lv_at hl 0 rfl) ?_
  refine tg_get (ci := 10) (ts := ty_MODEL) (C := RX10) (T := TX10) (N := 49) hx hb hts inX10 hown hK hw h_p0 rfl rfl 37 (by decide) (hts _ tw_1174) (fun _ h9 => h9) (ft := vR 51) rfl dX10_write_1 (fun u_1 hv_u_1 m_u_1 => ?_)
  obtain ⟨vu_1, rfl, h_vu_1⟩ := hv_u_1
  refine lv_aload_n hx hb dX10_write_4 rfl (lv_at hl 0 rfl) ?_
  refine tg_mem (ci := 10) (C := RX10) (T := TX10) (N := 49) hx hb hts inX10 hown hK hw 38 m_f0_38 rfl (by decide) (hts _ tw_1175) (fun _ h9 => h9) dX10_write_5 ?_
  refine lv_iload_n hx hb dX10_write_8 rfl (lv_at hl 1 rfl) ?_
  refine tg_iast hx hb hK hw h_vu_1 rfl 3 16 r_f0_38 (by decide) r_p1 (by exact fun _ _ _ => by decide) (fun _ _ _ _ _ => trivial) (by decide) dX10_write_9 (fun ws H locs hw hF9 hU9 => ?_)
  have m_f0_38 := FLD.over hF9 m_f0_38 (by decide)
  refine lv_aload_n hx hb dX10_write_10 rfl (lv_at hl 0 rfl) ?_
  refine lv_dup hx hb dX10_write_11 rfl ?_
  refine tg_mem (ci := 10) (C := RX10) (T := TX10) (N := 49) hx hb hts inX10 hown hK hw 38 m_f0_38 rfl (by decide) (hts _ tw_1175) (fun _ h9 => h9) dX10_write_12 ?_
  refine lv_iconst (v := 1) hx hb dX10_write_15 (by decide) ?_
  refine lv_iadd hx hb dX10_write_16 (lv_topi (fun v_2 e_v_2 => ?_))
  obtain ⟨t_v_2, r_v_2⟩ := tq_add (lo := 4) (hi := 17) r_f0_38 rl_1 (by decide +kernel) e_v_2
  have t_v_2 : v_2.toInt = f0_38.toInt + 1 := t_v_2
  refine tg_put (ci := 10) (ts := ty_MODEL) (v := .int v_2) (ty := .int) (C := RX10) (T := TX10) (N := 49) hx hb hts inX10 tyX10 tyX10_ok nmX10 hown hK hw h_p0 rfl rfl 38 (by decide) (hts _ tw_1175) (fun _ h9 => h9) rfl (by decide +kernel) rfl rfl (ft := vI 0 64) rfl ⟨_, rfl, (r_v_2.to (by decide))⟩ (by decide) dX10_write_17 (fun ws H locs hw n_k_3 hF9 => ?_)
  subst hQ
  exact W.vret hx hb hr (fun t ht hW => ⟨⟨ws, rfl, ⟨⟨⟨_, n_k_3, r_v_2⟩, trivial⟩, hw.1, hw.2.2.2.2.1⟩, by rw [ht]; exact hw.2.1, va_K.moved hW.alike hK, hw.2.2.1⟩, hw.2.2.2.1.F ht⟩) hw.2.2.2.1.2.2 dX10_write_20
abbrev wr_X10_write__39 : List (Nat × Nat) := [(10, 38)]
abbrev wa_X10_write__39 : List Nat := [51]
set_option maxHeartbeats 4000000 in
set_option maxRecDepth 100000 in
theorem c_X10_write__39 (l : Launch) (D : va_G) (cy : Nat → ClassId) (z : Nat → Nat) (sz : Nat) (Ps : PSI) (w0 : va_W) (hT : HT cy GG Ps w0) (p0 : Nat) (p1 : Int32) (f0_38 : Int32) (h_p0 : (p0, 55) ∈ Ps) (r_p1 : RI p1 (-2147483648) 2147483647) (r_f0_38 : RI f0_38 2 15) (m_f0_38 : FLD w0 p0 10 38 (.int f0_38)) : Met l yX10_write (Cond.code yX10_write cX10_write 2 none :: gT) ({ frames := 0, cells := 0, slots := 0, locals := 200 } : Room) (va_Pc [.ref p0, .int p1] (PRE D cy z w0 sz)) (va_Qv (fun (u : va_W) => ((∃ v9 : Int32, FLD u p0 10 38 (.int v9) ∧ RI v9 3 16) ∧ True) ∧ HT cy GG Ps u ∧ FR wr_X10_write__39 wa_X10_write__39 Ps w0 u) (BB D cy (va_A w0 sz) (fun (u : va_W) => u)) (va_A w0 sz)) 0 0 (va_A w0 sz) := by
  refine Met.ofW (cc := cX10_write) (maxL := 2) (ret := none) (by decide) rfl ?_
  intro p e s m args below meth c s₁ B hml hv
  obtain ⟨rfl, hsz, hP, hK, hD0, hSD⟩ := hv
  have hx := B.exec
  have hb := B.bytes
  have hr := B.returns
  have hlocks := B.notSynchronized
  have hts : ∀ w ∈ gT, w.before _ s = true := fun w h => atoms_spec (ws := Cond.code yX10_write cX10_write 2 none :: gT) B.pre w (List.mem_cons_of_mem _ h)
  have hown : s.vm.findClass RX10 = some m.cls := findClass_of_methodNamed B.named
  subst hsz
  have hD := hD0.self (sz := s.heap.size)
  generalize hAe : va_A w0 s.heap.size = A at hD hSD ⊢
  have hA : ∀ q : Nat, s.heap.size ≤ q → A q := fun q h => by rw [← hAe]; exact Or.inr h
  have hl := lv_entry ([.ref p0, .int p1]) (n := 2) (Nat.le_of_ble_eq_true rfl)
  rw [lg_entry_eq]
  generalize (lg_sl ([.ref p0, .int p1]) ++ List.replicate (2 - (lg_sl ([.ref p0, .int p1])).length) Slot.unset).toArray = ls at hl ⊢
  have hl : lv_has ls 2 [(0, .ref p0), (1, .int p1)] := hl
  refine nameQ (fun Q hQ => ?_)
  have hw : WD D cy GG A s wr_X10_write__39 wa_X10_write__39 Ps w0 Ps w0 s.heap [] := ⟨hT, hP, hD, va_S.rf, FR.rf, hT.1, [], (List.append_nil _).symm⟩
  refine lv_aload_n hx hb dX10_write_0 rfl (lv_at hl 0 rfl) ?_
  refine tg_get (ci := 10) (ts := ty_MODEL) (C := RX10) (T := TX10) (N := 49) hx hb hts inX10 hown hK hw h_p0 rfl rfl 37 (by decide) (hts _ tw_1174) (fun _ h9 => h9) (ft := vR 51) rfl dX10_write_1 (fun u_1 hv_u_1 m_u_1 => ?_)
  obtain ⟨vu_1, rfl, h_vu_1⟩ := hv_u_1
  refine lv_aload_n hx hb dX10_write_4 rfl (lv_at hl 0 rfl) ?_
  refine tg_mem (ci := 10) (C := RX10) (T := TX10) (N := 49) hx hb hts inX10 hown hK hw 38 m_f0_38 rfl (by decide) (hts _ tw_1175) (fun _ h9 => h9) dX10_write_5 ?_
  refine lv_iload_n hx hb dX10_write_8 rfl (lv_at hl 1 rfl) ?_
  refine tg_iast hx hb hK hw h_vu_1 rfl 2 15 r_f0_38 (by decide) r_p1 (by exact fun _ _ _ => by decide) (fun _ _ _ _ _ => trivial) (by decide) dX10_write_9 (fun ws H locs hw hF9 hU9 => ?_)
  have m_f0_38 := FLD.over hF9 m_f0_38 (by decide)
  refine lv_aload_n hx hb dX10_write_10 rfl (lv_at hl 0 rfl) ?_
  refine lv_dup hx hb dX10_write_11 rfl ?_
  refine tg_mem (ci := 10) (C := RX10) (T := TX10) (N := 49) hx hb hts inX10 hown hK hw 38 m_f0_38 rfl (by decide) (hts _ tw_1175) (fun _ h9 => h9) dX10_write_12 ?_
  refine lv_iconst (v := 1) hx hb dX10_write_15 (by decide) ?_
  refine lv_iadd hx hb dX10_write_16 (lv_topi (fun v_2 e_v_2 => ?_))
  obtain ⟨t_v_2, r_v_2⟩ := tq_add (lo := 3) (hi := 16) r_f0_38 rl_1 (by decide +kernel) e_v_2
  have t_v_2 : v_2.toInt = f0_38.toInt + 1 := t_v_2
  refine tg_put (ci := 10) (ts := ty_MODEL) (v := .int v_2) (ty := .int) (C := RX10) (T := TX10) (N := 49) hx hb hts inX10 tyX10 tyX10_ok nmX10 hown hK hw h_p0 rfl rfl 38 (by decide) (hts _ tw_1175) (fun _ h9 => h9) rfl (by decide +kernel) rfl rfl (ft := vI 0 64) rfl ⟨_, rfl, (r_v_2.to (by decide))⟩ (by decide) dX10_write_17 (fun ws H locs hw n_k_3 hF9 => ?_)
  subst hQ
  exact W.vret hx hb hr (fun t ht hW => ⟨⟨ws, rfl, ⟨⟨⟨_, n_k_3, r_v_2⟩, trivial⟩, hw.1, hw.2.2.2.2.1⟩, by rw [ht]; exact hw.2.1, va_K.moved hW.alike hK, hw.2.2.1⟩, hw.2.2.2.1.F ht⟩) hw.2.2.2.1.2.2 dX10_write_20
abbrev wr_X10_writeWord__35 : List (Nat × Nat) := [(10, 38)]
abbrev wa_X10_writeWord__35 : List Nat := [51]
set_option maxHeartbeats 4000000 in
set_option maxRecDepth 100000 in
theorem c_X10_writeWord__35 (l : Launch) (D : va_G) (cy : Nat → ClassId) (z : Nat → Nat) (sz : Nat) (Ps : PSI) (w0 : va_W) (hT : HT cy GG Ps w0) (p0 : Nat) (p1 : Int64) (f0_38 : Int32) (h_p0 : (p0, 55) ∈ Ps) (r_p1 : RJ p1 9 9) (r_f0_38 : RI f0_38 2 15) (m_f0_38 : FLD w0 p0 10 38 (.int f0_38)) : Met l yX10_writeWord (Cond.code yX10_writeWord cX10_writeWord 3 none :: gT) ({ frames := 2, cells := 0, slots := 0, locals := 400 } : Room) (va_Pc [.ref p0, .long p1] (PRE D cy z w0 sz)) (va_Qv (fun (u : va_W) => ((∃ v9 : Int32, FLD u p0 10 38 (.int v9) ∧ RI v9 3 16) ∧ True) ∧ HT cy GG Ps u ∧ FR wr_X10_writeWord__35 wa_X10_writeWord__35 Ps w0 u) (BB D cy (va_A w0 sz) (fun (u : va_W) => u)) (va_A w0 sz)) 0 0 (va_A w0 sz) := by
  refine Met.ofW (cc := cX10_writeWord) (maxL := 3) (ret := none) (by decide) rfl ?_
  intro p e s m args below meth c s₁ B hml hv
  obtain ⟨rfl, hsz, hP, hK, hD0, hSD⟩ := hv
  have hx := B.exec
  have hb := B.bytes
  have hr := B.returns
  have hlocks := B.notSynchronized
  have hts : ∀ w ∈ gT, w.before _ s = true := fun w h => atoms_spec (ws := Cond.code yX10_writeWord cX10_writeWord 3 none :: gT) B.pre w (List.mem_cons_of_mem _ h)
  have hown : s.vm.findClass RX10 = some m.cls := findClass_of_methodNamed B.named
  subst hsz
  have hD := hD0.self (sz := s.heap.size)
  generalize hAe : va_A w0 s.heap.size = A at hD hSD ⊢
  have hA : ∀ q : Nat, s.heap.size ≤ q → A q := fun q h => by rw [← hAe]; exact Or.inr h
  have hl := lv_entry ([.ref p0, .long p1]) (n := 3) (Nat.le_of_ble_eq_true rfl)
  rw [lg_entry_eq]
  generalize (lg_sl ([.ref p0, .long p1]) ++ List.replicate (3 - (lg_sl ([.ref p0, .long p1])).length) Slot.unset).toArray = ls at hl ⊢
  have hl : lv_has ls 3 [(0, .ref p0), (1, .long p1)] := hl
  refine nameQ (fun Q hQ => ?_)
  have hw : WD D cy GG A s wr_X10_writeWord__35 wa_X10_writeWord__35 Ps w0 Ps w0 s.heap [] := ⟨hT, hP, hD, va_S.rf, FR.rf, hT.1, [], (List.append_nil _).symm⟩
  have B17 : ∀ (z0_38 : Int32) (ws : va_W) (H : Heap) (locs : List Loc) (ls : Array Slot), RJ p1 9 9 → RI z0_38 2 15 → FLD ws p0 10 38 (.int z0_38) → WD D cy GG A s wr_X10_writeWord__35 wa_X10_writeWord__35 Ps w0 Ps ws H locs → lv_has ls 3 [(0, .ref p0), (1, .long p1)] → W p l e (headSpec (Cond.code yX10_writeWord cX10_writeWord 3 none :: gT) ({ frames := 2, cells := 0, slots := 0, locals := 400 } : Room)).room s m ([.ref p0, .long p1] : List Value).toArray below meth c H locs 0 0 Q (F0 m 17 ls []) := by
    intro z0_38 ws H locs ls r_p1 r_z0_38 m_z0_38 hw hl
    refine lv_aload_n hx hb dX10_writeWord_17 rfl (lv_at hl 0 rfl) ?_
    refine lv_bipush (v := 96) hx hb dX10_writeWord_18 (by decide) ?_
    refine lv_lload_n hx hb dX10_writeWord_20 rfl (lv_at hl 1 rfl) ?_
    refine lv_ldc2 (v := 27) hx hb hown (hts _ tw_1312) dX10_writeWord_21 ?_
    refine lv_lrem hx hb dX10_writeWord_24 (by decide) (lv_topl (fun w_1 e_w_1 => ?_))
    have r_w_1 := rj_any w_1
    obtain ⟨v_2, e_v_2⟩ : ∃ q9 : Int32, (w_1 : Int64).toInt32 = q9 := ⟨_, rfl⟩
    refine lv_l2i (v := v_2) hx hb dX10_writeWord_25 e_v_2 ?_
    have r_v_2 := ri_any v_2
    refine lv_iadd hx hb dX10_writeWord_26 (lv_topi (fun v_3 e_v_3 => ?_))
    have r_v_3 := ri_any v_3
    refine tk_v (va_runV (As := [.int v_3]) (rest := []) ⟨hx, hb, hml, hown, hts⟩ (c_X10_write__39 l D cy z H.size Ps ws hw.1 p0 v_3 z0_38 h_p0 r_v_3 r_z0_38 m_z0_38) (cwV 1 hts (gV tw_1674 tw_1676 ts_98 tw_15 tw_1677) rfl rfl rfl (by decide +kernel) ⟨Nat.le_of_ble_eq_true rfl, Nat.le_of_ble_eq_true rfl⟩) (tg_preV hw hK hSD hA (ci := 10) (q := (RX10, TX10, 49)) rfl h_p0 rfl) rfl rfl hl.1 rfl (lv_room (Nat.le_of_ble_eq_true rfl)) dX10_writeWord_27 ⟨Nat.le_of_ble_eq_true rfl, Nat.le_of_ble_eq_true rfl⟩) hw hA ⟨by decide, by decide⟩ (fun ws H locs hp_v_4 hw hF9 => ?_)
    obtain ⟨v_5, m_v_5, r_v_5⟩ := (hp_v_4.1)
    subst hQ
    exact W.vret hx hb hr (fun t ht hW => ⟨⟨ws, rfl, ⟨⟨⟨_, m_v_5, r_v_5⟩, trivial⟩, hw.1, hw.2.2.2.2.1⟩, by rw [ht]; exact hw.2.1, va_K.moved hW.alike hK, hw.2.2.1⟩, hw.2.2.2.1.F ht⟩) hw.2.2.2.1.2.2 dX10_writeWord_30
  refine lv_lload_n hx hb dX10_writeWord_0 rfl (lv_at hl 1 rfl) ?_
  refine lv_ldc2 (v := 27) hx hb hown (hts _ tw_1312) dX10_writeWord_1 ?_
  refine W.lcmp hx hb dX10_writeWord_4 (lv_topi (fun v_6 e_v_6 => ?_))
  have r_v_6 := ri_any v_6
  refine lv_if_lt (tgt := 17) hx hb dX10_writeWord_5 (by decide) (fun c_5 => ?_) (fun c_5 => ?_)
  · have r_v_6 : RI v_6 (-2147483648) (-1) := rc_lt1 r_v_6 rl_0 (ti_lt c_5) (by decide)
    exact B17 f0_38 w0 _ _ ls r_p1 r_f0_38 m_f0_38 hw hl
  · have r_v_6 : RI v_6 0 2147483647 := rc_le2 rl_0 r_v_6 (ti_nlt c_5) (by decide)
    have r_p1 : RJ p1 27 9 := tq_lc_nlt r_p1 rk_27 e_v_6 c_5 (by decide)
    exact (r_p1.no (by decide)).elim
abbrev wr_X10_writeWord__34 : List (Nat × Nat) := [(10, 38)]
abbrev wa_X10_writeWord__34 : List Nat := [51]
set_option maxHeartbeats 4000000 in
set_option maxRecDepth 100000 in
theorem c_X10_writeWord__34 (l : Launch) (D : va_G) (cy : Nat → ClassId) (z : Nat → Nat) (sz : Nat) (Ps : PSI) (w0 : va_W) (hT : HT cy GG Ps w0) (p0 : Nat) (p1 : Int64) (f0_38 : Int32) (h_p0 : (p0, 55) ∈ Ps) (r_p1 : RJ p1 262 262) (r_f0_38 : RI f0_38 2 15) (m_f0_38 : FLD w0 p0 10 38 (.int f0_38)) : Met l yX10_writeWord (Cond.code yX10_writeWord cX10_writeWord 3 none :: gT) ({ frames := 3, cells := 0, slots := 0, locals := 600 } : Room) (va_Pc [.ref p0, .long p1] (PRE D cy z w0 sz)) (va_Qv (fun (u : va_W) => ((∃ v9 : Int32, FLD u p0 10 38 (.int v9) ∧ RI v9 4 17) ∧ True) ∧ HT cy GG Ps u ∧ FR wr_X10_writeWord__34 wa_X10_writeWord__34 Ps w0 u) (BB D cy (va_A w0 sz) (fun (u : va_W) => u)) (va_A w0 sz)) 0 0 (va_A w0 sz) := by
  refine Met.ofW (cc := cX10_writeWord) (maxL := 3) (ret := none) (by decide) rfl ?_
  intro p e s m args below meth c s₁ B hml hv
  obtain ⟨rfl, hsz, hP, hK, hD0, hSD⟩ := hv
  have hx := B.exec
  have hb := B.bytes
  have hr := B.returns
  have hlocks := B.notSynchronized
  have hts : ∀ w ∈ gT, w.before _ s = true := fun w h => atoms_spec (ws := Cond.code yX10_writeWord cX10_writeWord 3 none :: gT) B.pre w (List.mem_cons_of_mem _ h)
  have hown : s.vm.findClass RX10 = some m.cls := findClass_of_methodNamed B.named
  subst hsz
  have hD := hD0.self (sz := s.heap.size)
  generalize hAe : va_A w0 s.heap.size = A at hD hSD ⊢
  have hA : ∀ q : Nat, s.heap.size ≤ q → A q := fun q h => by rw [← hAe]; exact Or.inr h
  have hl := lv_entry ([.ref p0, .long p1]) (n := 3) (Nat.le_of_ble_eq_true rfl)
  rw [lg_entry_eq]
  generalize (lg_sl ([.ref p0, .long p1]) ++ List.replicate (3 - (lg_sl ([.ref p0, .long p1])).length) Slot.unset).toArray = ls at hl ⊢
  have hl : lv_has ls 3 [(0, .ref p0), (1, .long p1)] := hl
  refine nameQ (fun Q hQ => ?_)
  have hw : WD D cy GG A s wr_X10_writeWord__34 wa_X10_writeWord__34 Ps w0 Ps w0 s.heap [] := ⟨hT, hP, hD, va_S.rf, FR.rf, hT.1, [], (List.append_nil _).symm⟩
  have B17 : ∀ (z0_38 : Int32) (ws : va_W) (H : Heap) (locs : List Loc) (ls : Array Slot), RJ p1 262 262 → RI z0_38 3 16 → FLD ws p0 10 38 (.int z0_38) → WD D cy GG A s wr_X10_writeWord__34 wa_X10_writeWord__34 Ps w0 Ps ws H locs → lv_has ls 3 [(0, .ref p0), (1, .long p1)] → W p l e (headSpec (Cond.code yX10_writeWord cX10_writeWord 3 none :: gT) ({ frames := 3, cells := 0, slots := 0, locals := 600 } : Room)).room s m ([.ref p0, .long p1] : List Value).toArray below meth c H locs 0 0 Q (F0 m 17 ls []) := by
    intro z0_38 ws H locs ls r_p1 r_z0_38 m_z0_38 hw hl
    refine lv_aload_n hx hb dX10_writeWord_17 rfl (lv_at hl 0 rfl) ?_
    refine lv_bipush (v := 96) hx hb dX10_writeWord_18 (by decide) ?_
    refine lv_lload_n hx hb dX10_writeWord_20 rfl (lv_at hl 1 rfl) ?_
    refine lv_ldc2 (v := 27) hx hb hown (hts _ tw_1312) dX10_writeWord_21 ?_
    refine lv_lrem hx hb dX10_writeWord_24 (by decide) (lv_topl (fun w_1 e_w_1 => ?_))
    have r_w_1 := rj_any w_1
    obtain ⟨v_2, e_v_2⟩ : ∃ q9 : Int32, (w_1 : Int64).toInt32 = q9 := ⟨_, rfl⟩
    refine lv_l2i (v := v_2) hx hb dX10_writeWord_25 e_v_2 ?_
    have r_v_2 := ri_any v_2
    refine lv_iadd hx hb dX10_writeWord_26 (lv_topi (fun v_3 e_v_3 => ?_))
    have r_v_3 := ri_any v_3
    refine tk_v (va_runV (As := [.int v_3]) (rest := []) ⟨hx, hb, hml, hown, hts⟩ (c_X10_write__38 l D cy z H.size Ps ws hw.1 p0 v_3 z0_38 h_p0 r_v_3 r_z0_38 m_z0_38) (cwV 1 hts (gV tw_1674 tw_1676 ts_98 tw_15 tw_1677) rfl rfl rfl (by decide +kernel) ⟨Nat.le_of_ble_eq_true rfl, Nat.le_of_ble_eq_true rfl⟩) (tg_preV hw hK hSD hA (ci := 10) (q := (RX10, TX10, 49)) rfl h_p0 rfl) rfl rfl hl.1 rfl (lv_room (Nat.le_of_ble_eq_true rfl)) dX10_writeWord_27 ⟨Nat.le_of_ble_eq_true rfl, Nat.le_of_ble_eq_true rfl⟩) hw hA ⟨by decide, by decide⟩ (fun ws H locs hp_v_4 hw hF9 => ?_)
    obtain ⟨v_5, m_v_5, r_v_5⟩ := (hp_v_4.1)
    subst hQ
    exact W.vret hx hb hr (fun t ht hW => ⟨⟨ws, rfl, ⟨⟨⟨_, m_v_5, r_v_5⟩, trivial⟩, hw.1, hw.2.2.2.2.1⟩, by rw [ht]; exact hw.2.1, va_K.moved hW.alike hK, hw.2.2.1⟩, hw.2.2.2.1.F ht⟩) hw.2.2.2.1.2.2 dX10_writeWord_30
  refine lv_lload_n hx hb dX10_writeWord_0 rfl (lv_at hl 1 rfl) ?_
  refine lv_ldc2 (v := 27) hx hb hown (hts _ tw_1312) dX10_writeWord_1 ?_
  refine W.lcmp hx hb dX10_writeWord_4 (lv_topi (fun v_6 e_v_6 => ?_))
  have r_v_6 := ri_any v_6
  refine lv_if_lt (tgt := 17) hx hb dX10_writeWord_5 (by decide) (fun c_5 => ?_) (fun c_5 => ?_)
  · have r_v_6 : RI v_6 (-2147483648) (-1) := rc_lt1 r_v_6 rl_0 (ti_lt c_5) (by decide)
    have r_p1 : RJ p1 262 26 := tq_lc_lt r_p1 rk_27 e_v_6 c_5 (by decide)
    exact (r_p1.no (by decide)).elim
  · have r_v_6 : RI v_6 0 2147483647 := rc_le2 rl_0 r_v_6 (ti_nlt c_5) (by decide)
    refine lv_aload_n hx hb dX10_writeWord_8 rfl (lv_at hl 0 rfl) ?_
    refine lv_lload_n hx hb dX10_writeWord_9 rfl (lv_at hl 1 rfl) ?_
    refine lv_ldc2 (v := 27) hx hb hown (hts _ tw_1312) dX10_writeWord_10 ?_
    refine lv_ldiv hx hb dX10_writeWord_13 (by decide) (lv_topl (fun w_7 e_w_7 => ?_))
    have r_w_7 := tq_ldiv (lo := 9) (hi := 9) r_p1 (by decide) e_w_7
    refine tk_v (va_runV (As := [.long w_7]) (rest := []) ⟨hx, hb, hml, hown, hts⟩ (c_X10_writeWord__35 l D cy z s.heap.size Ps w0 hw.1 p0 w_7 f0_38 h_p0 r_w_7 r_f0_38 m_f0_38) (cwV 1 hts (gV tw_1670 tw_1672 ts_97 tw_15 tw_1673) rfl rfl rfl (by decide +kernel) ⟨Nat.le_of_ble_eq_true rfl, Nat.le_of_ble_eq_true rfl⟩) (tg_preV hw hK hSD hA (ci := 10) (q := (RX10, TX10, 49)) rfl h_p0 rfl) rfl rfl hl.1 rfl (lv_room (Nat.le_of_ble_eq_true rfl)) dX10_writeWord_14 ⟨Nat.le_of_ble_eq_true rfl, Nat.le_of_ble_eq_true rfl⟩) hw hA ⟨by decide, by decide⟩ (fun ws H locs hp_v_8 hw hF9 => ?_)
    obtain ⟨v_9, m_v_9, r_v_9⟩ := (hp_v_8.1)
    exact B17 v_9 ws _ _ ls r_p1 r_v_9 m_v_9 hw hl
abbrev wr_X10_writeNext__3 : List (Nat × Nat) := [(10, 38)]
abbrev wa_X10_writeNext__3 : List Nat := [51]
set_option maxHeartbeats 4000000 in
set_option maxRecDepth 100000 in
theorem c_X10_writeNext__3 (l : Launch) (D : va_G) (cy : Nat → ClassId) (z : Nat → Nat) (sz : Nat) (Ps : PSI) (w0 : va_W) (hT : HT cy GG Ps w0) (p0 : Nat) (p1 : Int64) (f0_38 : Int32) (h_p0 : (p0, 55) ∈ Ps) (r_p1 : RJ p1 262 262) (r_f0_38 : RI f0_38 1 14) (m_f0_38 : FLD w0 p0 10 38 (.int f0_38)) : Met l yX10_writeNext (Cond.code yX10_writeNext cX10_writeNext 3 none :: gT) ({ frames := 4, cells := 0, slots := 0, locals := 800 } : Room) (va_Pc [.ref p0, .long p1] (PRE D cy z w0 sz)) (va_Qv (fun (u : va_W) => ((∃ v9 : Int32, FLD u p0 10 38 (.int v9) ∧ RI v9 4 17) ∧ True) ∧ HT cy GG Ps u ∧ FR wr_X10_writeNext__3 wa_X10_writeNext__3 Ps w0 u) (BB D cy (va_A w0 sz) (fun (u : va_W) => u)) (va_A w0 sz)) 0 0 (va_A w0 sz) := by
  refine Met.ofW (cc := cX10_writeNext) (maxL := 3) (ret := none) (by decide) rfl ?_
  intro p e s m args below meth c s₁ B hml hv
  obtain ⟨rfl, hsz, hP, hK, hD0, hSD⟩ := hv
  have hx := B.exec
  have hb := B.bytes
  have hr := B.returns
  have hlocks := B.notSynchronized
  have hts : ∀ w ∈ gT, w.before _ s = true := fun w h => atoms_spec (ws := Cond.code yX10_writeNext cX10_writeNext 3 none :: gT) B.pre w (List.mem_cons_of_mem _ h)
  have hown : s.vm.findClass RX10 = some m.cls := findClass_of_methodNamed B.named
  subst hsz
  have hD := hD0.self (sz := s.heap.size)
  generalize hAe : va_A w0 s.heap.size = A at hD hSD ⊢
  have hA : ∀ q : Nat, s.heap.size ≤ q → A q := fun q h => by rw [← hAe]; exact Or.inr h
  have hl := lv_entry ([.ref p0, .long p1]) (n := 3) (Nat.le_of_ble_eq_true rfl)
  rw [lg_entry_eq]
  generalize (lg_sl ([.ref p0, .long p1]) ++ List.replicate (3 - (lg_sl ([.ref p0, .long p1])).length) Slot.unset).toArray = ls at hl ⊢
  have hl : lv_has ls 3 [(0, .ref p0), (1, .long p1)] := hl
  refine nameQ (fun Q hQ => ?_)
  have hw : WD D cy GG A s wr_X10_writeNext__3 wa_X10_writeNext__3 Ps w0 Ps w0 s.heap [] := ⟨hT, hP, hD, va_S.rf, FR.rf, hT.1, [], (List.append_nil _).symm⟩
  refine lv_aload_n hx hb dX10_writeNext_0 rfl (lv_at hl 0 rfl) ?_
  refine lv_bipush (v := 32) hx hb dX10_writeNext_1 (by decide) ?_
  refine tk_v (va_runV (As := [.int 32]) (rest := []) ⟨hx, hb, hml, hown, hts⟩ (c_X10_write__37 l D cy z s.heap.size Ps w0 hw.1 p0 32 f0_38 h_p0 (rl_32.to (by decide)) r_f0_38 m_f0_38) (cwV 1 hts (gV tw_1674 tw_1676 ts_98 tw_15 tw_1677) rfl rfl rfl (by decide +kernel) ⟨Nat.le_of_ble_eq_true rfl, Nat.le_of_ble_eq_true rfl⟩) (tg_preV hw hK hSD hA (ci := 10) (q := (RX10, TX10, 49)) rfl h_p0 rfl) rfl rfl hl.1 rfl (lv_room (Nat.le_of_ble_eq_true rfl)) dX10_writeNext_3 ⟨Nat.le_of_ble_eq_true rfl, Nat.le_of_ble_eq_true rfl⟩) hw hA ⟨by decide, by decide⟩ (fun ws H locs hp_v_1 hw hF9 => ?_)
  obtain ⟨v_2, m_v_2, r_v_2⟩ := (hp_v_1.1)
  refine lv_aload_n hx hb dX10_writeNext_6 rfl (lv_at hl 0 rfl) ?_
  refine lv_lload_n hx hb dX10_writeNext_7 rfl (lv_at hl 1 rfl) ?_
  refine tk_v (va_runV (As := [.long p1]) (rest := []) ⟨hx, hb, hml, hown, hts⟩ (c_X10_writeWord__34 l D cy z H.size Ps ws hw.1 p0 p1 v_2 h_p0 r_p1 r_v_2 m_v_2) (cwV 1 hts (gV tw_1670 tw_1672 ts_97 tw_15 tw_1673) rfl rfl rfl (by decide +kernel) ⟨Nat.le_of_ble_eq_true rfl, Nat.le_of_ble_eq_true rfl⟩) (tg_preV hw hK hSD hA (ci := 10) (q := (RX10, TX10, 49)) rfl h_p0 rfl) rfl rfl hl.1 rfl (lv_room (Nat.le_of_ble_eq_true rfl)) dX10_writeNext_8 ⟨Nat.le_of_ble_eq_true rfl, Nat.le_of_ble_eq_true rfl⟩) hw hA ⟨by decide, by decide⟩ (fun ws H locs hp_v_3 hw hF9 => ?_)
  obtain ⟨v_4, m_v_4, r_v_4⟩ := (hp_v_3.1)
  subst hQ
  exact W.vret hx hb hr (fun t ht hW => ⟨⟨ws, rfl, ⟨⟨⟨_, m_v_4, r_v_4⟩, trivial⟩, hw.1, hw.2.2.2.2.1⟩, by rw [ht]; exact hw.2.1, va_K.moved hW.alike hK, hw.2.2.1⟩, hw.2.2.2.1.F ht⟩) hw.2.2.2.1.2.2 dX10_writeNext_11
abbrev wr_X10_wordOf__3 : List (Nat × Nat) := []
abbrev wa_X10_wordOf__3 : List Nat := []
set_option maxHeartbeats 4000000 in
set_option maxRecDepth 100000 in
theorem c_X10_wordOf__3 (l : Launch) (D : va_G) (cy : Nat → ClassId) (z : Nat → Nat) (sz : Nat) (Ps : PSI) (w0 : va_W) (hT : HT cy GG Ps w0) (p0 : Int32) (r_p0 : RI p0 20 20) : Met l yX10_wordOf (Cond.code yX10_wordOf cX10_wordOf 1 (some .long) :: gT) ({ frames := 2, cells := 0, slots := 0, locals := 400 } : Room) (va_Pc [.int p0] (PRE D cy z w0 sz)) (va_Ql (fun (r : Int64) (u : Unit) => RJ r 5649913681 5649913681) (BB D cy (va_A w0 sz) (fun (u : Unit) => w0)) (va_A w0 sz)) 0 0 (va_A w0 sz) := by
  refine Met.ofW (cc := cX10_wordOf) (maxL := 1) (ret := (some .long)) (by decide) rfl ?_
  intro p e s m args below meth c s₁ B hml hv
  obtain ⟨rfl, hsz, hP, hK, hD0, hSD⟩ := hv
  have hx := B.exec
  have hb := B.bytes
  have hr := B.returns
  have hlocks := B.notSynchronized
  have hts : ∀ w ∈ gT, w.before _ s = true := fun w h => atoms_spec (ws := Cond.code yX10_wordOf cX10_wordOf 1 (some .long) :: gT) B.pre w (List.mem_cons_of_mem _ h)
  have hown : s.vm.findClass RX10 = some m.cls := findClass_of_methodNamed B.named
  subst hsz
  have hD := hD0.self (sz := s.heap.size)
  generalize hAe : va_A w0 s.heap.size = A at hD hSD ⊢
  have hA : ∀ q : Nat, s.heap.size ≤ q → A q := fun q h => by rw [← hAe]; exact Or.inr h
  have hl := lv_entry ([.int p0]) (n := 1) (Nat.le_of_ble_eq_true rfl)
  rw [lg_entry_eq]
  generalize (lg_sl ([.int p0]) ++ List.replicate (1 - (lg_sl ([.int p0])).length) Slot.unset).toArray = ls at hl ⊢
  have hl : lv_has ls 1 [(0, .int p0)] := hl
  refine nameQ (fun Q hQ => ?_)
  have hw : WD D cy GG A s wr_X10_wordOf__3 wa_X10_wordOf__3 Ps w0 Ps w0 s.heap [] := ⟨hT, hP, hD, va_S.rf, FR.rf, hT.1, [], (List.append_nil _).symm⟩
  refine lv_iload_n hx hb dX10_wordOf_0 rfl (lv_at hl 0 rfl) ?_
  have w_1 := r_p0
  by_cases cl_1 : p0.toInt < 0 ∨ 26 < p0.toInt
  · refine lv_tableOut (tgt := 547) hx hb dX10_wordOf_1 cl_1 (by decide) ?_
    exact absurd cl_1 (by unfold RI at w_1; omega)
  · have e_1 : p0.toInt = 0 ∨ p0.toInt = 1 ∨ p0.toInt = 2 ∨ p0.toInt = 3 ∨ p0.toInt = 4 ∨ p0.toInt = 5 ∨ p0.toInt = 6 ∨ p0.toInt = 7 ∨ p0.toInt = 8 ∨ p0.toInt = 9 ∨ p0.toInt = 10 ∨ p0.toInt = 11 ∨ p0.toInt = 12 ∨ p0.toInt = 13 ∨ p0.toInt = 14 ∨ p0.toInt = 15 ∨ p0.toInt = 16 ∨ p0.toInt = 17 ∨ p0.toInt = 18 ∨ p0.toInt = 19 ∨ p0.toInt = 20 ∨ p0.toInt = 21 ∨ p0.toInt = 22 ∨ p0.toInt = 23 ∨ p0.toInt = 24 ∨ p0.toInt = 25 ∨ p0.toInt = 26 := by omega
    rcases e_1 with h_1 | h_1 | h_1 | h_1 | h_1 | h_1 | h_1 | h_1 | h_1 | h_1 | h_1 | h_1 | h_1 | h_1 | h_1 | h_1 | h_1 | h_1 | h_1 | h_1 | h_1 | h_1 | h_1 | h_1 | h_1 | h_1 | h_1
    · exact absurd h_1 (by unfold RI at w_1; omega)
    · exact absurd h_1 (by unfold RI at w_1; omega)
    · exact absurd h_1 (by unfold RI at w_1; omega)
    · exact absurd h_1 (by unfold RI at w_1; omega)
    · exact absurd h_1 (by unfold RI at w_1; omega)
    · exact absurd h_1 (by unfold RI at w_1; omega)
    · exact absurd h_1 (by unfold RI at w_1; omega)
    · exact absurd h_1 (by unfold RI at w_1; omega)
    · exact absurd h_1 (by unfold RI at w_1; omega)
    · exact absurd h_1 (by unfold RI at w_1; omega)
    · exact absurd h_1 (by unfold RI at w_1; omega)
    · exact absurd h_1 (by unfold RI at w_1; omega)
    · exact absurd h_1 (by unfold RI at w_1; omega)
    · exact absurd h_1 (by unfold RI at w_1; omega)
    · exact absurd h_1 (by unfold RI at w_1; omega)
    · exact absurd h_1 (by unfold RI at w_1; omega)
    · exact absurd h_1 (by unfold RI at w_1; omega)
    · exact absurd h_1 (by unfold RI at w_1; omega)
    · exact absurd h_1 (by unfold RI at w_1; omega)
    · exact absurd h_1 (by unfold RI at w_1; omega)
    · refine lv_tableIn (tgt := 437) (off := 436) hx hb dX10_wordOf_1 (by omega) (by omega) (by rw [h_1]; rfl) (by decide) ?_
      have r_p0 : RI p0 20 20 := ⟨by omega, by omega⟩
      refine lv_bipush (v := 110) hx hb dX10_wordOf_437 (by decide) ?_
      refine lv_bipush (v := 111) hx hb dX10_wordOf_439 (by decide) ?_
      refine lv_bipush (v := 116) hx hb dX10_wordOf_441 (by decide) ?_
      refine lv_bipush (v := 104) hx hb dX10_wordOf_443 (by decide) ?_
      refine lv_bipush (v := 105) hx hb dX10_wordOf_445 (by decide) ?_
      refine lv_bipush (v := 110) hx hb dX10_wordOf_447 (by decide) ?_
      refine lv_bipush (v := 103) hx hb dX10_wordOf_449 (by decide) ?_
      refine tk_lr (va_runS (As := [.int 110, .int 111, .int 116, .int 104, .int 105, .int 110, .int 103]) (rest := []) ⟨hx, hb, hml, hown, hts⟩ (c_X10_spelt__21 l D cy z s.heap.size Ps w0 hw.1 110 111 116 104 105 110 103 rl_110 rl_111 rl_116 rl_104 rl_105 rl_110 rl_103) (va_cwS 7 hts (gS tw_1325 tw_1326 tw_15 tw_1327) rfl rfl rfl (by decide +kernel) ⟨Nat.le_of_ble_eq_true rfl, Nat.le_of_ble_eq_true rfl⟩) (tg_preS hw hK hSD hA) rfl rfl hl.1 rfl (lv_room (Nat.le_of_ble_eq_true rfl)) dX10_wordOf_451 ⟨Nat.le_of_ble_eq_true rfl, Nat.le_of_ble_eq_true rfl⟩) hw hA (fun v_1  H locs hp_v_1 hw => ?_)
      have r_v_1 : RJ v_1 5649913681 5649913681 := hp_v_1
      subst hQ
      exact W.lret (v := v_1) hx hb hr (fun t ht hW => ⟨⟨v_1, (), rfl, r_v_1.to (by decide), by rw [ht]; exact hw.2.1, va_K.moved hW.alike hK, hw.2.2.1⟩, hw.2.2.2.1.F ht⟩) hw.2.2.2.1.2.2 dX10_wordOf_454
    · exact absurd h_1 (by unfold RI at w_1; omega)
    · exact absurd h_1 (by unfold RI at w_1; omega)
    · exact absurd h_1 (by unfold RI at w_1; omega)
    · exact absurd h_1 (by unfold RI at w_1; omega)
    · exact absurd h_1 (by unfold RI at w_1; omega)
    · exact absurd h_1 (by unfold RI at w_1; omega)
abbrev wr_X10_tag : List (Nat × Nat) := [(10, 0), (10, 38)]
abbrev wa_X10_tag : List Nat := [51]
set_option maxHeartbeats 4000000 in
set_option maxRecDepth 100000 in
theorem c_X10_tag (l : Launch) (D : va_G) (cy : Nat → ClassId) (z : Nat → Nat) (sz : Nat) (Ps : PSI) (w0 : va_W) (hT : HT cy GG Ps w0) (p0 : Nat) (p1 : Int32) (h_p0 : (p0, 55) ∈ Ps) (r_p1 : RI p1 (-2147483648) 2147483647) : Met l yX10_tag (Cond.code yX10_tag cX10_tag 2 (some .int) :: gT) ({ frames := 17, cells := 0, slots := 0, locals := 3400 } : Room) (va_Pc [.ref p0, .int p1] (PRE D cy z w0 sz)) (va_Qi (fun (r : Int32) (u : va_W) => (RI r (-1) 40 ∧ (r = 0 → True) ∧ (¬ r = 0 → True)) ∧ HT cy GG Ps u ∧ FR wr_X10_tag wa_X10_tag Ps w0 u) (BB D cy (va_A w0 sz) (fun (u : va_W) => u)) (va_A w0 sz)) 0 0 (va_A w0 sz) := by
  refine Met.ofW (cc := cX10_tag) (maxL := 2) (ret := (some .int)) (by decide) rfl ?_
  intro p e s m args below meth c s₁ B hml hv
  obtain ⟨rfl, hsz, hP, hK, hD0, hSD⟩ := hv
  have hx := B.exec
  have hb := B.bytes
  have hr := B.returns
  have hlocks := B.notSynchronized
  have hts : ∀ w ∈ gT, w.before _ s = true := fun w h => atoms_spec (ws := Cond.code yX10_tag cX10_tag 2 (some .int) :: gT) B.pre w (List.mem_cons_of_mem _ h)
  have hown : s.vm.findClass RX10 = some m.cls := findClass_of_methodNamed B.named
  subst hsz
  have hD := hD0.self (sz := s.heap.size)
  generalize hAe : va_A w0 s.heap.size = A at hD hSD ⊢
  have hA : ∀ q : Nat, s.heap.size ≤ q → A q := fun q h => by rw [← hAe]; exact Or.inr h
  have hl := lv_entry ([.ref p0, .int p1]) (n := 2) (Nat.le_of_ble_eq_true rfl)
  rw [lg_entry_eq]
  generalize (lg_sl ([.ref p0, .int p1]) ++ List.replicate (2 - (lg_sl ([.ref p0, .int p1])).length) Slot.unset).toArray = ls at hl ⊢
  have hl : lv_has ls 2 [(0, .ref p0), (1, .int p1)] := hl
  refine nameQ (fun Q hQ => ?_)
  have hw : WD D cy GG A s wr_X10_tag wa_X10_tag Ps w0 Ps w0 s.heap [] := ⟨hT, hP, hD, va_S.rf, FR.rf, hT.1, [], (List.append_nil _).symm⟩
  have B70 : ∀ (y0 : Int64) (z0_0 : Int32) (z0_38 : Int32) (ws : va_W) (H : Heap) (locs : List Loc) (ls : Array Slot), RI p1 0 5 → RJ y0 (-9223372036854775808) 9223372036854775807 → RI z0_0 0 0 → FLD ws p0 10 0 (.int z0_0) → RI z0_38 4 17 → FLD ws p0 10 38 (.int z0_38) → WD D cy GG A s wr_X10_tag wa_X10_tag Ps w0 Ps ws H locs → lv_has ls 2 [(0, .ref p0), (1, .int p1)] → W p l e (headSpec (Cond.code yX10_tag cX10_tag 2 (some .int) :: gT) ({ frames := 17, cells := 0, slots := 0, locals := 3400 } : Room)).room s m ([.ref p0, .int p1] : List Value).toArray below meth c H locs 0 0 Q (F0 m 70 ls [.long y0, .ref p0]) := by
    intro y0 z0_0 z0_38 ws H locs ls r_p1 r_y0 r_z0_0 m_z0_0 r_z0_38 m_z0_38 hw hl
    refine tk_v (va_runV (As := [.long y0]) (rest := []) ⟨hx, hb, hml, hown, hts⟩ (c_X10_writeNext l D cy z H.size Ps ws hw.1 p0 y0 z0_38 h_p0 r_y0 r_z0_38 m_z0_38) (cwV 1 hts (gV tw_1678 tw_1680 ts_99 tw_15 tw_1681) rfl rfl rfl (by decide +kernel) ⟨Nat.le_of_ble_eq_true rfl, Nat.le_of_ble_eq_true rfl⟩) (tg_preV hw hK hSD hA (ci := 10) (q := (RX10, TX10, 49)) rfl h_p0 rfl) rfl rfl hl.1 rfl (lv_room (Nat.le_of_ble_eq_true rfl)) dX10_tag_70 ⟨Nat.le_of_ble_eq_true rfl, Nat.le_of_ble_eq_true rfl⟩) hw hA ⟨by decide, by decide⟩ (fun ws H locs hp_v_1 hw hF9 => ?_)
    have m_z0_0 := FLD.over hF9 m_z0_0 (by decide)
    obtain ⟨v_2, m_v_2, r_v_2⟩ := (hp_v_1.1)
    refine lv_aload_n hx hb dX10_tag_73 rfl (lv_at hl 0 rfl) ?_
    refine lv_iload_n hx hb dX10_tag_74 rfl (lv_at hl 1 rfl) ?_
    refine tk_ir (va_runV (As := [.int p1]) (rest := []) ⟨hx, hb, hml, hown, hts⟩ (c_X10_isOpen l D cy z H.size Ps ws hw.1 p0 p1 h_p0 (r_p1.to (by decide))) (cwV 1 hts (gV tw_1457 tw_1459 ts_71 tw_15 tw_1460) rfl rfl rfl (by decide +kernel) ⟨Nat.le_of_ble_eq_true rfl, Nat.le_of_ble_eq_true rfl⟩) (tg_preV hw hK hSD hA (ci := 10) (q := (RX10, TX10, 49)) rfl h_p0 rfl) rfl rfl hl.1 rfl (lv_room (Nat.le_of_ble_eq_true rfl)) dX10_tag_75 ⟨Nat.le_of_ble_eq_true rfl, Nat.le_of_ble_eq_true rfl⟩) hw hA (fun v_3  H locs hp_v_3 hw => ?_)
    have r_v_3 : RI v_3 0 1 := hp_v_3.1
    refine lv_if_ne (tgt := 86) hx hb dX10_tag_78 (by decide) (fun c_78 => ?_) (fun c_78 => ?_)
    · have r_v_3 : RI v_3 1 1 := rc_neL r_v_3 rl_0 (ti_ne c_78) (by decide)
      refine lv_aload_n hx hb dX10_tag_86 rfl (lv_at hl 0 rfl) ?_
      refine lv_bipush (v := 97) hx hb dX10_tag_87 (by decide) ?_
      refine lv_bipush (v := 116) hx hb dX10_tag_89 (by decide) ?_
      refine lv_iconst (v := 0) hx hb dX10_tag_91 (by decide) ?_
      refine lv_iconst (v := 0) hx hb dX10_tag_92 (by decide) ?_
      refine lv_iconst (v := 0) hx hb dX10_tag_93 (by decide) ?_
      refine lv_iconst (v := 0) hx hb dX10_tag_94 (by decide) ?_
      refine lv_iconst (v := 0) hx hb dX10_tag_95 (by decide) ?_
      refine tk_lr (va_runS (As := [.int 97, .int 116, .int 0, .int 0, .int 0, .int 0, .int 0]) (rest := [.ref p0]) ⟨hx, hb, hml, hown, hts⟩ (c_X10_spelt__28 l D cy z H.size Ps ws hw.1 97 116 0 0 0 0 0 rl_97 rl_116 rl_0 rl_0 rl_0 rl_0 rl_0) (va_cwS 7 hts (gS tw_1325 tw_1326 tw_15 tw_1327) rfl rfl rfl (by decide +kernel) ⟨Nat.le_of_ble_eq_true rfl, Nat.le_of_ble_eq_true rfl⟩) (tg_preS hw hK hSD hA) rfl rfl hl.1 rfl (lv_room (Nat.le_of_ble_eq_true rfl)) dX10_tag_96 ⟨Nat.le_of_ble_eq_true rfl, Nat.le_of_ble_eq_true rfl⟩) hw hA (fun v_4  H locs hp_v_4 hw => ?_)
      have r_v_4 : RJ v_4 47 47 := hp_v_4
      refine tk_v (va_runV (As := [.long v_4]) (rest := []) ⟨hx, hb, hml, hown, hts⟩ (c_X10_writeNext__1 l D cy z H.size Ps ws hw.1 p0 v_4 v_2 h_p0 r_v_4 r_v_2 m_v_2) (cwV 1 hts (gV tw_1678 tw_1680 ts_99 tw_15 tw_1681) rfl rfl rfl (by decide +kernel) ⟨Nat.le_of_ble_eq_true rfl, Nat.le_of_ble_eq_true rfl⟩) (tg_preV hw hK hSD hA (ci := 10) (q := (RX10, TX10, 49)) rfl h_p0 rfl) rfl rfl hl.1 rfl (lv_room (Nat.le_of_ble_eq_true rfl)) dX10_tag_99 ⟨Nat.le_of_ble_eq_true rfl, Nat.le_of_ble_eq_true rfl⟩) hw hA ⟨by decide, by decide⟩ (fun ws H locs hp_v_5 hw hF9 => ?_)
      have m_z0_0 := FLD.over hF9 m_z0_0 (by decide)
      obtain ⟨v_6, m_v_6, r_v_6⟩ := (hp_v_5.1)
      refine lv_aload_n hx hb dX10_tag_102 rfl (lv_at hl 0 rfl) ?_
      refine lv_bipush (v := 108) hx hb dX10_tag_103 (by decide) ?_
      refine lv_bipush (v := 97) hx hb dX10_tag_105 (by decide) ?_
      refine lv_bipush (v := 115) hx hb dX10_tag_107 (by decide) ?_
      refine lv_bipush (v := 116) hx hb dX10_tag_109 (by decide) ?_
      refine lv_iconst (v := 0) hx hb dX10_tag_111 (by decide) ?_
      refine lv_iconst (v := 0) hx hb dX10_tag_112 (by decide) ?_
      refine lv_iconst (v := 0) hx hb dX10_tag_113 (by decide) ?_
      refine tk_lr (va_runS (As := [.int 108, .int 97, .int 115, .int 116, .int 0, .int 0, .int 0]) (rest := [.ref p0]) ⟨hx, hb, hml, hown, hts⟩ (c_X10_spelt__29 l D cy z H.size Ps ws hw.1 108 97 115 116 0 0 0 rl_108 rl_97 rl_115 rl_116 rl_0 rl_0 rl_0) (va_cwS 7 hts (gS tw_1325 tw_1326 tw_15 tw_1327) rfl rfl rfl (by decide +kernel) ⟨Nat.le_of_ble_eq_true rfl, Nat.le_of_ble_eq_true rfl⟩) (tg_preS hw hK hSD hA) rfl rfl hl.1 rfl (lv_room (Nat.le_of_ble_eq_true rfl)) dX10_tag_114 ⟨Nat.le_of_ble_eq_true rfl, Nat.le_of_ble_eq_true rfl⟩) hw hA (fun v_7  H locs hp_v_7 hw => ?_)
      have r_v_7 : RJ v_7 237458 237458 := hp_v_7
      refine tk_v (va_runV (As := [.long v_7]) (rest := []) ⟨hx, hb, hml, hown, hts⟩ (c_X10_writeNext__2 l D cy z H.size Ps ws hw.1 p0 v_7 v_6 h_p0 r_v_7 r_v_6 m_v_6) (cwV 1 hts (gV tw_1678 tw_1680 ts_99 tw_15 tw_1681) rfl rfl rfl (by decide +kernel) ⟨Nat.le_of_ble_eq_true rfl, Nat.le_of_ble_eq_true rfl⟩) (tg_preV hw hK hSD hA (ci := 10) (q := (RX10, TX10, 49)) rfl h_p0 rfl) rfl rfl hl.1 rfl (lv_room (Nat.le_of_ble_eq_true rfl)) dX10_tag_117 ⟨Nat.le_of_ble_eq_true rfl, Nat.le_of_ble_eq_true rfl⟩) hw hA ⟨by decide, by decide⟩ (fun ws H locs hp_v_8 hw hF9 => ?_)
      have m_z0_0 := FLD.over hF9 m_z0_0 (by decide)
      obtain ⟨v_9, m_v_9, r_v_9⟩ := (hp_v_8.1)
      refine lv_aload_n hx hb dX10_tag_120 rfl (lv_at hl 0 rfl) ?_
      refine tg_mem (ci := 10) (C := RX10) (T := TX10) (N := 49) hx hb hts inX10 hown hK hw 38 m_v_9 rfl (by decide) (hts _ tw_1175) (fun _ h9 => h9) dX10_tag_121 ?_
      subst hQ
      exact W.iret (v := v_9) hx hb hr (fun t ht hW => ⟨⟨v_9, ws, rfl, ⟨⟨r_v_9.to (by decide), (fun _ => trivial), (fun h0 => trivial)⟩, hw.1, hw.2.2.2.2.1⟩, by rw [ht]; exact hw.2.1, va_K.moved hW.alike hK, hw.2.2.1⟩, hw.2.2.2.1.F ht⟩) hw.2.2.2.1.2.2 dX10_tag_124
    · have r_v_3 : RI v_3 0 0 := rc_eq1 r_v_3 rl_0 (ti_eq c_78) (by decide)
      refine lv_aload_n hx hb dX10_tag_81 rfl (lv_at hl 0 rfl) ?_
      refine tg_mem (ci := 10) (C := RX10) (T := TX10) (N := 49) hx hb hts inX10 hown hK hw 38 m_v_2 rfl (by decide) (hts _ tw_1175) (fun _ h9 => h9) dX10_tag_82 ?_
      subst hQ
      exact W.iret (v := v_2) hx hb hr (fun t ht hW => ⟨⟨v_2, ws, rfl, ⟨⟨r_v_2.to (by decide), (fun _ => trivial), (fun h0 => trivial)⟩, hw.1, hw.2.2.2.2.1⟩, by rw [ht]; exact hw.2.1, va_K.moved hW.alike hK, hw.2.2.1⟩, hw.2.2.2.1.F ht⟩) hw.2.2.2.1.2.2 dX10_tag_85
  refine lv_aload_n hx hb dX10_tag_0 rfl (lv_at hl 0 rfl) ?_
  refine lv_iconst (v := 0) hx hb dX10_tag_1 (by decide) ?_
  refine tg_put (ci := 10) (ts := ty_MODEL) (v := .int 0) (ty := .int) (C := RX10) (T := TX10) (N := 49) hx hb hts inX10 tyX10 tyX10_ok nmX10 hown hK hw h_p0 rfl rfl 0 (by decide) (hts _ tw_1137) (fun _ h9 => h9) rfl (by decide +kernel) rfl rfl (ft := vI (-2147483648) 2147483647) rfl ⟨_, rfl, (rl_0.to (by decide))⟩ (by decide) dX10_tag_2 (fun ws H locs hw n_k_10 hF9 => ?_)
  refine lv_aload_n hx hb dX10_tag_5 rfl (lv_at hl 0 rfl) ?_
  refine lv_iload_n hx hb dX10_tag_6 rfl (lv_at hl 1 rfl) ?_
  refine tk_ir (va_runV (As := [.int p1]) (rest := []) ⟨hx, hb, hml, hown, hts⟩ (c_X10_isParcel l D cy z H.size Ps ws hw.1 p0 p1 h_p0 r_p1) (cwV 1 hts (gV tw_1429 tw_1431 ts_65 tw_15 tw_1432) rfl rfl rfl (by decide +kernel) ⟨Nat.le_of_ble_eq_true rfl, Nat.le_of_ble_eq_true rfl⟩) (tg_preV hw hK hSD hA (ci := 10) (q := (RX10, TX10, 49)) rfl h_p0 rfl) rfl rfl hl.1 rfl (lv_room (Nat.le_of_ble_eq_true rfl)) dX10_tag_7 ⟨Nat.le_of_ble_eq_true rfl, Nat.le_of_ble_eq_true rfl⟩) hw hA (fun v_11  H locs hp_v_11 hw => ?_)
  have r_v_11 : RI v_11 0 1 := hp_v_11.1
  refine lv_if_ne (tgt := 15) hx hb dX10_tag_10 (by decide) (fun c_10 => ?_) (fun c_10 => ?_)
  · have r_v_11 : RI v_11 1 1 := rc_neL r_v_11 rl_0 (ti_ne c_10) (by decide)
    have r_p1 : RI p1 0 5 := ((hp_v_11.2.2 c_10).1)
    refine lv_aload_n hx hb dX10_tag_15 rfl (lv_at hl 0 rfl) ?_
    refine lv_iconst (v := 0) hx hb dX10_tag_16 (by decide) ?_
    refine tg_put (ci := 10) (ts := ty_MODEL) (v := .int 0) (ty := .int) (C := RX10) (T := TX10) (N := 49) hx hb hts inX10 tyX10 tyX10_ok nmX10 hown hK hw h_p0 rfl rfl 38 (by decide) (hts _ tw_1175) (fun _ h9 => h9) rfl (by decide +kernel) rfl rfl (ft := vI 0 64) rfl ⟨_, rfl, (rl_0.to (by decide))⟩ (by decide) dX10_tag_17 (fun ws H locs hw n_k_12 hF9 => ?_)
    have n_k_10 := FLD.over hF9 n_k_10 (by decide)
    refine lv_aload_n hx hb dX10_tag_20 rfl (lv_at hl 0 rfl) ?_
    refine lv_aload_n hx hb dX10_tag_21 rfl (lv_at hl 0 rfl) ?_
    refine tg_get (ci := 10) (ts := ty_MODEL) (C := RX10) (T := TX10) (N := 49) hx hb hts inX10 hown hK hw h_p0 rfl rfl 20 (by decide) (hts _ tw_1157) (fun _ h9 => h9) (ft := vR 41) rfl dX10_tag_22 (fun u_13 hv_u_13 m_u_13 => ?_)
    obtain ⟨vu_13, rfl, h_vu_13⟩ := hv_u_13
    refine lv_bipush (v := 10) hx hb dX10_tag_25 (by decide) ?_
    refine lv_iload_n hx hb dX10_tag_27 rfl (lv_at hl 1 rfl) ?_
    refine lv_iadd hx hb dX10_tag_28 (lv_topi (fun v_14 e_v_14 => ?_))
    obtain ⟨t_v_14, r_v_14⟩ := tq_add (lo := 10) (hi := 15) rl_10 r_p1 (by decide +kernel) e_v_14
    have t_v_14 : v_14.toInt = 10 + p1.toInt := t_v_14
    refine tg_lald hx hb hK hw h_vu_13 rfl r_v_14 (by decide) dX10_tag_29 (fun w_15 r_w_15 => ?_)
    refine tk_v (va_runV (As := [.long w_15]) (rest := []) ⟨hx, hb, hml, hown, hts⟩ (c_X10_writeWord__20 l D cy z H.size Ps ws hw.1 p0 w_15 0 h_p0 r_w_15 rl_0 n_k_12) (cwV 1 hts (gV tw_1670 tw_1672 ts_97 tw_15 tw_1673) rfl rfl rfl (by decide +kernel) ⟨Nat.le_of_ble_eq_true rfl, Nat.le_of_ble_eq_true rfl⟩) (tg_preV hw hK hSD hA (ci := 10) (q := (RX10, TX10, 49)) rfl h_p0 rfl) rfl rfl hl.1 rfl (lv_room (Nat.le_of_ble_eq_true rfl)) dX10_tag_30 ⟨Nat.le_of_ble_eq_true rfl, Nat.le_of_ble_eq_true rfl⟩) hw hA ⟨by decide, by decide⟩ (fun ws H locs hp_v_16 hw hF9 => ?_)
    have n_k_10 := FLD.over hF9 n_k_10 (by decide)
    obtain ⟨v_17, m_v_17, r_v_17⟩ := (hp_v_16.1)
    refine lv_aload_n hx hb dX10_tag_33 rfl (lv_at hl 0 rfl) ?_
    refine lv_bipush (v := 22) hx hb dX10_tag_34 (by decide) ?_
    refine tk_lr (va_runS (As := [.int 22]) (rest := [.ref p0]) ⟨hx, hb, hml, hown, hts⟩ (c_X10_wordOf__2 l D cy z H.size Ps ws hw.1 22 rl_22) (va_cwS 1 hts (gS tw_1322 tw_1323 tw_15 tw_1324) rfl rfl rfl (by decide +kernel) ⟨Nat.le_of_ble_eq_true rfl, Nat.le_of_ble_eq_true rfl⟩) (tg_preS hw hK hSD hA) rfl rfl hl.1 rfl (lv_room (Nat.le_of_ble_eq_true rfl)) dX10_tag_36 ⟨Nat.le_of_ble_eq_true rfl, Nat.le_of_ble_eq_true rfl⟩) hw hA (fun v_18  H locs hp_v_18 hw => ?_)
    have r_v_18 : RJ v_18 262 262 := hp_v_18
    refine tk_v (va_runV (As := [.long v_18]) (rest := []) ⟨hx, hb, hml, hown, hts⟩ (c_X10_writeNext__3 l D cy z H.size Ps ws hw.1 p0 v_18 v_17 h_p0 r_v_18 r_v_17 m_v_17) (cwV 1 hts (gV tw_1678 tw_1680 ts_99 tw_15 tw_1681) rfl rfl rfl (by decide +kernel) ⟨Nat.le_of_ble_eq_true rfl, Nat.le_of_ble_eq_true rfl⟩) (tg_preV hw hK hSD hA (ci := 10) (q := (RX10, TX10, 49)) rfl h_p0 rfl) rfl rfl hl.1 rfl (lv_room (Nat.le_of_ble_eq_true rfl)) dX10_tag_39 ⟨Nat.le_of_ble_eq_true rfl, Nat.le_of_ble_eq_true rfl⟩) hw hA ⟨by decide, by decide⟩ (fun ws H locs hp_v_19 hw hF9 => ?_)
    have n_k_10 := FLD.over hF9 n_k_10 (by decide)
    obtain ⟨v_20, m_v_20, r_v_20⟩ := (hp_v_19.1)
    refine lv_aload_n hx hb dX10_tag_42 rfl (lv_at hl 0 rfl) ?_
    refine lv_aload_n hx hb dX10_tag_43 rfl (lv_at hl 0 rfl) ?_
    refine lv_iload_n hx hb dX10_tag_44 rfl (lv_at hl 1 rfl) ?_
    refine tk_ir (va_runV (As := [.int p1]) (rest := [.ref p0]) ⟨hx, hb, hml, hown, hts⟩ (c_X10_whatIs l D cy z H.size Ps ws hw.1 p0 p1 h_p0 r_p1) (cwV 1 hts (gV tw_1449 tw_1451 ts_69 tw_15 tw_1452) rfl rfl rfl (by decide +kernel) ⟨Nat.le_of_ble_eq_true rfl, Nat.le_of_ble_eq_true rfl⟩) (tg_preV hw hK hSD hA (ci := 10) (q := (RX10, TX10, 49)) rfl h_p0 rfl) rfl rfl hl.1 rfl (lv_room (Nat.le_of_ble_eq_true rfl)) dX10_tag_45 ⟨Nat.le_of_ble_eq_true rfl, Nat.le_of_ble_eq_true rfl⟩) hw hA (fun v_21  H locs hp_v_21 hw => ?_)
    have r_v_21 : RI v_21 (-1) 5 := hp_v_21.1
    by_cases c9_v_21 : v_21.toInt < 0
    · have r_v_21 : RI v_21 (-1) (-1) := by unfold RI at r_v_21 ⊢; omega
      have x_NB_p0_p1 := (hp_v_21.2.2.2.2.1 (by omega)).1
      refine lv_iconst (v := (-1)) hx hb dX10_tag_48 (by decide) ?_
      refine lv_icmp_ne (tgt := 60) hx hb dX10_tag_49 (by decide) (fun c_49 => ?_) (fun c_49 => ?_)
      · exact absurd (r_v_21.eq.trans rl_m1.eq.symm) ((ti_ne c_49))
      · refine lv_bipush (v := 20) hx hb dX10_tag_52 (by decide) ?_
        refine tk_lr (va_runS (As := [.int 20]) (rest := [.ref p0]) ⟨hx, hb, hml, hown, hts⟩ (c_X10_wordOf__3 l D cy z H.size Ps ws hw.1 20 rl_20) (va_cwS 1 hts (gS tw_1322 tw_1323 tw_15 tw_1324) rfl rfl rfl (by decide +kernel) ⟨Nat.le_of_ble_eq_true rfl, Nat.le_of_ble_eq_true rfl⟩) (tg_preS hw hK hSD hA) rfl rfl hl.1 rfl (lv_room (Nat.le_of_ble_eq_true rfl)) dX10_tag_54 ⟨Nat.le_of_ble_eq_true rfl, Nat.le_of_ble_eq_true rfl⟩) hw hA (fun v_22  H locs hp_v_22 hw => ?_)
        have r_v_22 : RJ v_22 5649913681 5649913681 := hp_v_22
        refine lv_goto (tgt := 70) hx hb dX10_tag_57 (by decide) ?_
        exact B70 v_22 0 v_20 ws _ _ ls r_p1 (r_v_22.to (by decide)) rl_0 n_k_10 r_v_20 m_v_20 hw hl
    · have r_v_21 : RI v_21 0 5 := by unfold RI at r_v_21 ⊢; omega
      have x_WB_p0_p1_v_21 := (hp_v_21.2.2.2.2.2 (by omega)).1
      refine lv_iconst (v := (-1)) hx hb dX10_tag_48 (by decide) ?_
      refine lv_icmp_ne (tgt := 60) hx hb dX10_tag_49 (by decide) (fun c_49 => ?_) (fun c_49 => ?_)
      · refine lv_aload_n hx hb dX10_tag_60 rfl (lv_at hl 0 rfl) ?_
        refine tg_get (ci := 10) (ts := ty_MODEL) (C := RX10) (T := TX10) (N := 49) hx hb hts inX10 hown hK hw h_p0 rfl rfl 20 (by decide) (hts _ tw_1157) (fun _ h9 => h9) (ft := vR 41) rfl dX10_tag_61 (fun u_23 hv_u_23 m_u_23 => ?_)
        obtain ⟨vu_23, rfl, h_vu_23⟩ := hv_u_23
        refine lv_aload_n hx hb dX10_tag_64 rfl (lv_at hl 0 rfl) ?_
        refine lv_iload_n hx hb dX10_tag_65 rfl (lv_at hl 1 rfl) ?_
        refine tk_ir (va_runV (As := [.int p1]) (rest := [.ref vu_23, .ref p0]) ⟨hx, hb, hml, hown, hts⟩ (c_X10_whatIs l D cy z H.size Ps ws hw.1 p0 p1 h_p0 r_p1) (cwV 1 hts (gV tw_1449 tw_1451 ts_69 tw_15 tw_1452) rfl rfl rfl (by decide +kernel) ⟨Nat.le_of_ble_eq_true rfl, Nat.le_of_ble_eq_true rfl⟩) (tg_preV hw hK hSD hA (ci := 10) (q := (RX10, TX10, 49)) rfl h_p0 rfl) rfl rfl hl.1 rfl (lv_room (Nat.le_of_ble_eq_true rfl)) dX10_tag_66 ⟨Nat.le_of_ble_eq_true rfl, Nat.le_of_ble_eq_true rfl⟩) hw hA (fun v_24  H locs hp_v_24 hw => ?_)
        have r_v_24 : RI v_24 (-1) 5 := hp_v_24.1
        by_cases c9_v_24 : v_24.toInt < 0
        · have r_v_24 : RI v_24 (-1) (-1) := by unfold RI at r_v_24 ⊢; omega
          have x_NB_p0_p1 := (hp_v_24.2.2.2.2.1 (by omega)).1
          exact (AX.no hw x_NB_p0_p1 x_WB_p0_p1_v_21 (fun _ h9 g9 => NW_no h9 g9)).elim
        · have r_v_24 : RI v_24 0 5 := by unfold RI at r_v_24 ⊢; omega
          have x_WB_p0_p1_v_24 := (hp_v_24.2.2.2.2.2 (by omega)).1
          refine tg_lald hx hb hK hw h_vu_23 rfl r_v_24 (by decide) dX10_tag_69 (fun w_25 r_w_25 => ?_)
          exact B70 w_25 0 v_20 ws _ _ ls r_p1 r_w_25 rl_0 n_k_10 r_v_20 m_v_20 hw hl
      · have r_v_21 : RI v_21 0 (-1) := rc_eq1 r_v_21 rl_m1 (ti_eq c_49) (by decide)
        exact (r_v_21.no (by decide)).elim
  · have r_v_11 : RI v_11 0 0 := rc_eq1 r_v_11 rl_0 (ti_eq c_10) (by decide)
    refine lv_iconst (v := (-1)) hx hb dX10_tag_13 (by decide) ?_
    subst hQ
    exact W.iret (v := (-1)) hx hb hr (fun t ht hW => ⟨⟨(-1), ws, rfl, ⟨⟨rl_m1.to (by decide), (fun _ => trivial), (fun h0 => trivial)⟩, hw.1, hw.2.2.2.2.1⟩, by rw [ht]; exact hw.2.1, va_K.moved hW.alike hK, hw.2.2.1⟩, hw.2.2.2.1.F ht⟩) hw.2.2.2.1.2.2 dX10_tag_14
