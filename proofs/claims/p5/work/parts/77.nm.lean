/-! need and quarrels -/
def NDX (k : Int32) (m : Int32) (f : Nat → Int32) (r : Int32) : Prop := ((0 ≤ k.toInt ∧ k.toInt < m.toInt) → r = f k.toNatClampNeg) ∧ (¬ (0 ≤ k.toInt ∧ k.toInt < m.toInt) → r = -1)
theorem nd_eq {k : Int32} {o : OS} {R : Nat → Int32} {r r' : Int32} {j b : Nat} (hP : ∃ N, PDO o R N) (hj : (j = 2 ∧ b = 6) ∨ (j = 3 ∧ b = 12)) (h : NDX k (o.2.2.1 1 0) (o.2.2.1 j) r) (h' : NDX k (R 0) (fun i => R (b + i)) r') : r = r' := by
  obtain ⟨N, hP⟩ := hP
  have e := PDO.many hP 0 (by decide)
  rw [e] at h
  by_cases z : 0 ≤ k.toInt ∧ k.toInt < (R 0).toInt
  · rw [h.1 z, h'.1 z]
    have c := hP.1 0 0 6 (by decide)
    have c2 := c.2.1
    have c3 := c.2.2.1
    have z2 := z.2
    rw [c2, nI_toInt (by omega)] at z2
    have cl := (show RI k 0 5 from ⟨z.1, by omega⟩).cl (by decide)
    have hk : k.toNatClampNeg < 6 := by omega
    rcases hj with ⟨rfl, rfl⟩ | ⟨rfl, rfl⟩
    · exact hP.2.1 _ hk
    · exact hP.2.2.1 _ hk
  · rw [h.2 z, h'.2 z]
abbrev wr_X9_isOf__4 : List (Nat × Nat) := []
abbrev wa_X9_isOf__4 : List Nat := []
set_option maxHeartbeats 4000000 in
set_option maxRecDepth 100000 in
theorem c_X9_isOf__4 (l : Launch) (D : va_G) (cy : Nat → ClassId) (z : Nat → Nat) (sz : Nat) (Ps : PSI) (w0 : va_W) (hT : HT cy GG Ps w0) (p0 : Nat) (p1 : Int32) (p2 : Int32) (gdq : Nat → Nat) (gdg : Nat → Nat) (gdo : OS) (gdA : OS) (gdB : OS) (h_p0 : (p0, 33) ∈ Ps) (r_p1 : RI p1 0 0) (r_p2 : RI p2 (-2147483648) 2147483647) (x_GWX_p0_gdq : GWX w0 p0 gdq) (x_HE_gdq_gdg_gdo_gdA_gdB_false_false : HE Ps w0 gdq gdg gdo gdA gdB false false) : Met l yX9_isOf (Cond.code yX9_isOf cX9_isOf 3 (some .boolean) :: gT) ({ frames := 0, cells := 0, slots := 0, locals := 200 } : Room) (va_Pc [.ref p0, .int p1, .int p2] (PRE D cy z w0 sz)) (va_Qi (fun (r : Int32) (u : Unit) => RI r 0 1 ∧ (r = 0 → (¬ (0 ≤ Int32.toInt p2 ∧ Int32.toInt p2 < Int32.toInt (gdo.2.2.1 1 (Int32.toNatClampNeg p1)))) ∧ True) ∧ (¬ r = 0 → RI p2 0 5 ∧ (0 ≤ Int32.toInt p2 ∧ Int32.toInt p2 < Int32.toInt (gdo.2.2.1 1 (Int32.toNatClampNeg p1))) ∧ True)) (BB D cy (va_A w0 sz) (fun (u : Unit) => w0)) (va_A w0 sz)) 0 0 (va_A w0 sz) := by
  refine Met.ofW (cc := cX9_isOf) (maxL := 3) (ret := (some .boolean)) (by decide) rfl ?_
  intro p e s m args below meth c s₁ B hml hv
  obtain ⟨rfl, hsz, hP, hK, hD0, hSD⟩ := hv
  have hx := B.exec
  have hb := B.bytes
  have hr := B.returns
  have hlocks := B.notSynchronized
  have hts : ∀ w ∈ gT, w.before _ s = true := fun w h => atoms_spec (ws := Cond.code yX9_isOf cX9_isOf 3 (some .boolean) :: gT) B.pre w (List.mem_cons_of_mem _ h)
  have hown : s.vm.findClass RX9 = some m.cls := findClass_of_methodNamed B.named
  subst hsz
  have hD := hD0.self (sz := s.heap.size)
  generalize hAe : va_A w0 s.heap.size = A at hD hSD ⊢
  have hA : ∀ q : Nat, s.heap.size ≤ q → A q := fun q h => by rw [← hAe]; exact Or.inr h
  have hl := lv_entry ([.ref p0, .int p1, .int p2]) (n := 3) (Nat.le_of_ble_eq_true rfl)
  rw [lg_entry_eq]
  generalize (lg_sl ([.ref p0, .int p1, .int p2]) ++ List.replicate (3 - (lg_sl ([.ref p0, .int p1, .int p2])).length) Slot.unset).toArray = ls at hl ⊢
  have hl : lv_has ls 3 [(0, .ref p0), (1, .int p1), (2, .int p2)] := hl
  refine nameQ (fun Q hQ => ?_)
  have hw : WD D cy GG A s wr_X9_isOf__4 wa_X9_isOf__4 Ps w0 Ps w0 s.heap [] := ⟨hT, hP, hD, va_S.rf, FR.rf, hT.1, [], (List.append_nil _).symm⟩
  refine lv_iload_n hx hb dX9_isOf_0 rfl (lv_at hl 2 rfl) ?_
  refine lv_if_lt (tgt := 24) hx hb dX9_isOf_1 (by decide) (fun c_1 => ?_) (fun c_1 => ?_)
  · have r_p2 : RI p2 (-2147483648) (-1) := rc_lt1 r_p2 rl_0 (ti_lt c_1) (by decide)
    have x_IO0_p1_p2_gdo : (¬ (0 ≤ Int32.toInt p2 ∧ Int32.toInt p2 < Int32.toInt (gdo.2.2.1 1 (Int32.toNatClampNeg p1)))) := (fun h9 => by have k1 := r_p2.2; omega)
    refine lv_iconst (v := 0) hx hb dX9_isOf_24 (by decide) ?_
    subst hQ
    exact W.zret (v := 0) hx hb hr (rfl) (fun t ht hW => ⟨⟨0, (), rfl, ⟨rl_0.to (by decide), (fun h0 => ⟨x_IO0_p1_p2_gdo, trivial⟩), (fun h0 => absurd rfl h0)⟩, by rw [ht]; exact hw.2.1, va_K.moved hW.alike hK, hw.2.2.1⟩, hw.2.2.2.1.F ht⟩) hw.2.2.2.1.2.2 dX9_isOf_25
  · have r_p2 : RI p2 0 2147483647 := rc_le2 rl_0 r_p2 (ti_nlt c_1) (by decide)
    refine lv_iload_n hx hb dX9_isOf_4 rfl (lv_at hl 2 rfl) ?_
    refine lv_aload_n hx hb dX9_isOf_5 rfl (lv_at hl 0 rfl) ?_
    refine tg_get (ci := 9) (ts := ty_WP) (C := RX9) (T := TX9) (N := 15) hx hb hts inX9 hown hK hw h_p0 rfl rfl 1 (by decide) (hts _ tw_347) (fun _ h9 => h9) (ft := vR 24) rfl dX9_isOf_6 (fun u_1 hv_u_1 m_u_1 => ?_)
    obtain ⟨vu_1, rfl, h_vu_1⟩ := hv_u_1
    refine tg_getN (ci := 8) (ts := ty_WORLD) (C := RX8) (T := TX8) (N := 13) hx hb hts inX8 hown hK hw h_vu_1 rfl rfl 0 (by decide) (hSD.nest tn_249) (fun _ h9 => h9) (ft := vR 25) rfl dX9_isOf_9 (fun u_2 hv_u_2 m_u_2 => ?_)
    obtain ⟨vu_2, rfl, h_vu_2⟩ := hv_u_2
    refine tg_getN (ci := 3) (ts := ty_POST) (C := RX3) (T := TX3) (N := 9) hx hb hts inX3 hown hK hw h_vu_2 rfl rfl 1 (by decide) (hSD.nest tn_204) (fun _ h9 => h9) (ft := vR 4) rfl dX9_isOf_12 (fun u_3 hv_u_3 m_u_3 => ?_)
    obtain ⟨vu_3, rfl, h_vu_3⟩ := hv_u_3
    refine lv_iload_n hx hb dX9_isOf_15 rfl (lv_at hl 1 rfl) ?_
    refine tg_iald (lo := 0) (hi := 6) hx hb hK hw h_vu_3 rfl 0 0 r_p1 (by decide) (by decide +kernel) dX9_isOf_16 (fun v_4 r_v_4 m_v_4 o_v_4 => ?_)
    refine lv_icmp_ge (tgt := 24) hx hb dX9_isOf_17 (by decide) (fun c_17 => ?_) (fun c_17 => ?_)
    · have x_IO0_p1_p2_gdo : (¬ (0 ≤ Int32.toInt p2 ∧ Int32.toInt p2 < Int32.toInt (gdo.2.2.1 1 (Int32.toNatClampNeg p1)))) := (fun h9 => by rw [(WR.arr (u := 4) hw.2.2.1 (HE.w x_HE_gdq_gdg_gdo_gdA_gdB_false_false) x_GWX_p0_gdq m_u_1 m_u_2 m_u_3 m_v_4 (by decide))] at h9; have k1 := ti_le c_17; omega)
      refine lv_iconst (v := 0) hx hb dX9_isOf_24 (by decide) ?_
      subst hQ
      exact W.zret (v := 0) hx hb hr (rfl) (fun t ht hW => ⟨⟨0, (), rfl, ⟨rl_0.to (by decide), (fun h0 => ⟨x_IO0_p1_p2_gdo, trivial⟩), (fun h0 => absurd rfl h0)⟩, by rw [ht]; exact hw.2.1, va_K.moved hW.alike hK, hw.2.2.1⟩, hw.2.2.2.1.F ht⟩) hw.2.2.2.1.2.2 dX9_isOf_25
    · have r_p2 : RI p2 0 5 := rc_lt1 r_p2 r_v_4 (ti_nle c_17) (by decide)
      have r_v_4 : RI v_4 1 6 := rc_lt2 r_p2 r_v_4 (ti_nle c_17) (by decide)
      have x_IO1_p1_p2_gdo : (0 ≤ Int32.toInt p2 ∧ Int32.toInt p2 < Int32.toInt (gdo.2.2.1 1 (Int32.toNatClampNeg p1))) := ⟨r_p2.1, by rw [(WR.arr (u := 4) hw.2.2.1 (HE.w x_HE_gdq_gdg_gdo_gdA_gdB_false_false) x_GWX_p0_gdq m_u_1 m_u_2 m_u_3 m_v_4 (by decide))]; exact ti_nle c_17⟩
      refine lv_iconst (v := 1) hx hb dX9_isOf_20 (by decide) ?_
      refine lv_goto (tgt := 25) hx hb dX9_isOf_21 (by decide) ?_
      subst hQ
      exact W.zret (v := 1) hx hb hr (rfl) (fun t ht hW => ⟨⟨1, (), rfl, ⟨rl_1.to (by decide), (fun h0 => absurd h0 (by decide)), (fun h0 => ⟨r_p2, x_IO1_p1_p2_gdo, trivial⟩)⟩, by rw [ht]; exact hw.2.1, va_K.moved hW.alike hK, hw.2.2.1⟩, hw.2.2.2.1.F ht⟩) hw.2.2.2.1.2.2 dX9_isOf_25
abbrev wr_X9_need__1 : List (Nat × Nat) := []
abbrev wa_X9_need__1 : List Nat := []
set_option maxHeartbeats 4000000 in
set_option maxRecDepth 100000 in
theorem c_X9_need__1 (l : Launch) (D : va_G) (cy : Nat → ClassId) (z : Nat → Nat) (sz : Nat) (Ps : PSI) (w0 : va_W) (hT : HT cy GG Ps w0) (p0 : Nat) (p1 : Int32) (gdq : Nat → Nat) (gdg : Nat → Nat) (gdo : OS) (gdA : OS) (gdB : OS) (h_p0 : (p0, 33) ∈ Ps) (r_p1 : RI p1 (-2147483648) 2147483647) (x_GWX_p0_gdq : GWX w0 p0 gdq) (x_HE_gdq_gdg_gdo_gdA_gdB_false_false : HE Ps w0 gdq gdg gdo gdA gdB false false) : Met l yX9_need (Cond.code yX9_need cX9_need 2 (some .int) :: gT) ({ frames := 2, cells := 0, slots := 0, locals := 400 } : Room) (va_Pc [.ref p0, .int p1] (PRE D cy z w0 sz)) (va_Qi (fun (r : Int32) (u : Unit) => RI r (-2147483648) 2147483647 ∧ (r = 0 → True) ∧ (¬ r = 0 → True) ∧ ((NDX p1 (gdo.2.2.1 1 0) (gdo.2.2.1 2) r) ∧ True) ∧ (r.toInt < 0 → True) ∧ (0 ≤ r.toInt → True)) (BB D cy (va_A w0 sz) (fun (u : Unit) => w0)) (va_A w0 sz)) 0 0 (va_A w0 sz) := by
  refine Met.ofW (cc := cX9_need) (maxL := 2) (ret := (some .int)) (by decide) rfl ?_
  intro p e s m args below meth c s₁ B hml hv
  obtain ⟨rfl, hsz, hP, hK, hD0, hSD⟩ := hv
  have hx := B.exec
  have hb := B.bytes
  have hr := B.returns
  have hlocks := B.notSynchronized
  have hts : ∀ w ∈ gT, w.before _ s = true := fun w h => atoms_spec (ws := Cond.code yX9_need cX9_need 2 (some .int) :: gT) B.pre w (List.mem_cons_of_mem _ h)
  have hown : s.vm.findClass RX9 = some m.cls := findClass_of_methodNamed B.named
  subst hsz
  have hD := hD0.self (sz := s.heap.size)
  generalize hAe : va_A w0 s.heap.size = A at hD hSD ⊢
  have hA : ∀ q : Nat, s.heap.size ≤ q → A q := fun q h => by rw [← hAe]; exact Or.inr h
  have hl := lv_entry ([.ref p0, .int p1]) (n := 2) (Nat.le_of_ble_eq_true rfl)
  rw [lg_entry_eq]
  generalize (lg_sl ([.ref p0, .int p1]) ++ List.replicate (2 - (lg_sl ([.ref p0, .int p1])).length) Slot.unset).toArray = ls at hl ⊢
  have hl : lv_has ls 2 [(0, .ref p0), (1, .int p1)] := hl
  refine nameQ (fun Q hQ => ?_)
  have hw : WD D cy GG A s wr_X9_need__1 wa_X9_need__1 Ps w0 Ps w0 s.heap [] := ⟨hT, hP, hD, va_S.rf, FR.rf, hT.1, [], (List.append_nil _).symm⟩
  refine lv_aload_n hx hb dX9_need_0 rfl (lv_at hl 0 rfl) ?_
  refine lv_iconst (v := 0) hx hb dX9_need_1 (by decide) ?_
  refine lv_iload_n hx hb dX9_need_2 rfl (lv_at hl 1 rfl) ?_
  refine tk_ir (va_runV (As := [.int 0, .int p1]) (rest := []) ⟨hx, hb, hml, hown, hts⟩ (c_X9_isOf__4 l D cy z s.heap.size Ps w0 hw.1 p0 0 p1 (gdq) (gdg) (gdo) (gdA) (gdB) h_p0 rl_0 r_p1 x_GWX_p0_gdq x_HE_gdq_gdg_gdo_gdA_gdB_false_false) (cwV 2 hts (gV tw_540 tw_542 ts_10 tw_1 tw_543) rfl rfl rfl (by decide +kernel) ⟨Nat.le_of_ble_eq_true rfl, Nat.le_of_ble_eq_true rfl⟩) (tg_preV hw hK hSD hA (ci := 9) (q := (RX9, TX9, 15)) rfl h_p0 rfl) rfl rfl hl.1 rfl (lv_room (Nat.le_of_ble_eq_true rfl)) dX9_need_3 ⟨Nat.le_of_ble_eq_true rfl, Nat.le_of_ble_eq_true rfl⟩) hw hA (fun v_1  H locs hp_v_1 hw => ?_)
  have r_v_1 : RI v_1 0 1 := hp_v_1.1
  by_cases c9_v_1 : v_1 = 0
  · have r_v_1 : RI v_1 0 0 := by rw [c9_v_1]; exact rl_0
    have x_IO0_0_p1_gdo := ((hp_v_1.2.1 c9_v_1).1)
    refine lv_if_eq (tgt := 24) hx hb dX9_need_6 (by decide) (fun c_6 => ?_) (fun c_6 => ?_)
    · refine lv_iconst (v := (-1)) hx hb dX9_need_24 (by decide) ?_
      subst hQ
      exact W.iret (v := (-1)) hx hb hr (fun t ht hW => ⟨⟨(-1), (), rfl, ⟨rl_m1.to (by decide), (fun _ => trivial), (fun h0 => trivial), ⟨⟨fun h9 => absurd h9 x_IO0_0_p1_gdo, fun _ => rfl⟩, trivial⟩, (fun _ => trivial), (fun _ => trivial)⟩, by rw [ht]; exact hw.2.1, va_K.moved hW.alike hK, hw.2.2.1⟩, hw.2.2.2.1.F ht⟩) hw.2.2.2.1.2.2 dX9_need_25
    · exact absurd (r_v_1.eq.trans rl_0.eq.symm) ((ti_ne c_6))
  · have r_v_1 : RI v_1 1 1 := rc_neL r_v_1 rl_0 (ti_ne c9_v_1) (by decide)
    have r_p1 : RI p1 0 5 := ((hp_v_1.2.2 c9_v_1).1)
    have x_IO1_0_p1_gdo := ((hp_v_1.2.2 c9_v_1).2.1)
    refine lv_if_eq (tgt := 24) hx hb dX9_need_6 (by decide) (fun c_6 => ?_) (fun c_6 => ?_)
    · have r_v_1 : RI v_1 1 0 := rc_eq1 r_v_1 rl_0 (ti_eq c_6) (by decide)
      exact (r_v_1.no (by decide)).elim
    · refine lv_aload_n hx hb dX9_need_9 rfl (lv_at hl 0 rfl) ?_
      refine tg_get (ci := 9) (ts := ty_WP) (C := RX9) (T := TX9) (N := 15) hx hb hts inX9 hown hK hw h_p0 rfl rfl 1 (by decide) (hts _ tw_347) (fun _ h9 => h9) (ft := vR 24) rfl dX9_need_10 (fun u_2 hv_u_2 m_u_2 => ?_)
      obtain ⟨vu_2, rfl, h_vu_2⟩ := hv_u_2
      refine tg_getN (ci := 8) (ts := ty_WORLD) (C := RX8) (T := TX8) (N := 13) hx hb hts inX8 hown hK hw h_vu_2 rfl rfl 0 (by decide) (hSD.nest tn_249) (fun _ h9 => h9) (ft := vR 25) rfl dX9_need_13 (fun u_3 hv_u_3 m_u_3 => ?_)
      obtain ⟨vu_3, rfl, h_vu_3⟩ := hv_u_3
      refine tg_getN (ci := 3) (ts := ty_POST) (C := RX3) (T := TX3) (N := 9) hx hb hts inX3 hown hK hw h_vu_3 rfl rfl 2 (by decide) (hSD.nest tn_207) (fun _ h9 => h9) (ft := vR 5) rfl dX9_need_16 (fun u_4 hv_u_4 m_u_4 => ?_)
      obtain ⟨vu_4, rfl, h_vu_4⟩ := hv_u_4
      refine lv_iload_n hx hb dX9_need_19 rfl (lv_at hl 1 rfl) ?_
      refine tg_iald (lo := (-2147483648)) (hi := 2147483647) hx hb hK hw h_vu_4 rfl 0 5 r_p1 (by decide) (by exact fun _ _ _ => ⟨Int.le_refl _, Int.le_refl _⟩) dX9_need_20 (fun v_5 r_v_5 m_v_5 o_v_5 => ?_)
      refine lv_goto (tgt := 25) hx hb dX9_need_21 (by decide) ?_
      subst hQ
      exact W.iret (v := v_5) hx hb hr (fun t ht hW => ⟨⟨v_5, (), rfl, ⟨r_v_5.to (by decide), (fun h0 => trivial), (fun h0 => trivial), ⟨⟨fun _ => (WR.arr (u := 5) hw.2.2.1 (HE.w x_HE_gdq_gdg_gdo_gdA_gdB_false_false) x_GWX_p0_gdq m_u_2 m_u_3 m_u_4 m_v_5 (by decide)).symm, fun h9 => absurd x_IO1_0_p1_gdo h9⟩, trivial⟩, (fun _ => trivial), (fun _ => trivial)⟩, by rw [ht]; exact hw.2.1, va_K.moved hW.alike hK, hw.2.2.1⟩, hw.2.2.2.1.F ht⟩) hw.2.2.2.1.2.2 dX9_need_25
abbrev wr_X9_quarrels__1 : List (Nat × Nat) := []
abbrev wa_X9_quarrels__1 : List Nat := []
set_option maxHeartbeats 4000000 in
set_option maxRecDepth 100000 in
theorem c_X9_quarrels__1 (l : Launch) (D : va_G) (cy : Nat → ClassId) (z : Nat → Nat) (sz : Nat) (Ps : PSI) (w0 : va_W) (hT : HT cy GG Ps w0) (p0 : Nat) (p1 : Int32) (gdq : Nat → Nat) (gdg : Nat → Nat) (gdo : OS) (gdA : OS) (gdB : OS) (h_p0 : (p0, 33) ∈ Ps) (r_p1 : RI p1 (-2147483648) 2147483647) (x_GWX_p0_gdq : GWX w0 p0 gdq) (x_HE_gdq_gdg_gdo_gdA_gdB_false_false : HE Ps w0 gdq gdg gdo gdA gdB false false) : Met l yX9_quarrels (Cond.code yX9_quarrels cX9_quarrels 2 (some .int) :: gT) ({ frames := 2, cells := 0, slots := 0, locals := 400 } : Room) (va_Pc [.ref p0, .int p1] (PRE D cy z w0 sz)) (va_Qi (fun (r : Int32) (u : Unit) => RI r (-2147483648) 2147483647 ∧ (r = 0 → True) ∧ (¬ r = 0 → True) ∧ ((NDX p1 (gdo.2.2.1 1 0) (gdo.2.2.1 3) r) ∧ True) ∧ (r.toInt < 0 → True) ∧ (0 ≤ r.toInt → True)) (BB D cy (va_A w0 sz) (fun (u : Unit) => w0)) (va_A w0 sz)) 0 0 (va_A w0 sz) := by
  refine Met.ofW (cc := cX9_quarrels) (maxL := 2) (ret := (some .int)) (by decide) rfl ?_
  intro p e s m args below meth c s₁ B hml hv
  obtain ⟨rfl, hsz, hP, hK, hD0, hSD⟩ := hv
  have hx := B.exec
  have hb := B.bytes
  have hr := B.returns
  have hlocks := B.notSynchronized
  have hts : ∀ w ∈ gT, w.before _ s = true := fun w h => atoms_spec (ws := Cond.code yX9_quarrels cX9_quarrels 2 (some .int) :: gT) B.pre w (List.mem_cons_of_mem _ h)
  have hown : s.vm.findClass RX9 = some m.cls := findClass_of_methodNamed B.named
  subst hsz
  have hD := hD0.self (sz := s.heap.size)
  generalize hAe : va_A w0 s.heap.size = A at hD hSD ⊢
  have hA : ∀ q : Nat, s.heap.size ≤ q → A q := fun q h => by rw [← hAe]; exact Or.inr h
  have hl := lv_entry ([.ref p0, .int p1]) (n := 2) (Nat.le_of_ble_eq_true rfl)
  rw [lg_entry_eq]
  generalize (lg_sl ([.ref p0, .int p1]) ++ List.replicate (2 - (lg_sl ([.ref p0, .int p1])).length) Slot.unset).toArray = ls at hl ⊢
  have hl : lv_has ls 2 [(0, .ref p0), (1, .int p1)] := hl
  refine nameQ (fun Q hQ => ?_)
  have hw : WD D cy GG A s wr_X9_quarrels__1 wa_X9_quarrels__1 Ps w0 Ps w0 s.heap [] := ⟨hT, hP, hD, va_S.rf, FR.rf, hT.1, [], (List.append_nil _).symm⟩
  refine lv_aload_n hx hb dX9_quarrels_0 rfl (lv_at hl 0 rfl) ?_
  refine lv_iconst (v := 0) hx hb dX9_quarrels_1 (by decide) ?_
  refine lv_iload_n hx hb dX9_quarrels_2 rfl (lv_at hl 1 rfl) ?_
  refine tk_ir (va_runV (As := [.int 0, .int p1]) (rest := []) ⟨hx, hb, hml, hown, hts⟩ (c_X9_isOf__4 l D cy z s.heap.size Ps w0 hw.1 p0 0 p1 (gdq) (gdg) (gdo) (gdA) (gdB) h_p0 rl_0 r_p1 x_GWX_p0_gdq x_HE_gdq_gdg_gdo_gdA_gdB_false_false) (cwV 2 hts (gV tw_540 tw_542 ts_10 tw_1 tw_543) rfl rfl rfl (by decide +kernel) ⟨Nat.le_of_ble_eq_true rfl, Nat.le_of_ble_eq_true rfl⟩) (tg_preV hw hK hSD hA (ci := 9) (q := (RX9, TX9, 15)) rfl h_p0 rfl) rfl rfl hl.1 rfl (lv_room (Nat.le_of_ble_eq_true rfl)) dX9_quarrels_3 ⟨Nat.le_of_ble_eq_true rfl, Nat.le_of_ble_eq_true rfl⟩) hw hA (fun v_1  H locs hp_v_1 hw => ?_)
  have r_v_1 : RI v_1 0 1 := hp_v_1.1
  by_cases c9_v_1 : v_1 = 0
  · have r_v_1 : RI v_1 0 0 := by rw [c9_v_1]; exact rl_0
    have x_IO0_0_p1_gdo := ((hp_v_1.2.1 c9_v_1).1)
    refine lv_if_eq (tgt := 24) hx hb dX9_quarrels_6 (by decide) (fun c_6 => ?_) (fun c_6 => ?_)
    · refine lv_iconst (v := (-1)) hx hb dX9_quarrels_24 (by decide) ?_
      subst hQ
      exact W.iret (v := (-1)) hx hb hr (fun t ht hW => ⟨⟨(-1), (), rfl, ⟨rl_m1.to (by decide), (fun _ => trivial), (fun h0 => trivial), ⟨⟨fun h9 => absurd h9 x_IO0_0_p1_gdo, fun _ => rfl⟩, trivial⟩, (fun _ => trivial), (fun _ => trivial)⟩, by rw [ht]; exact hw.2.1, va_K.moved hW.alike hK, hw.2.2.1⟩, hw.2.2.2.1.F ht⟩) hw.2.2.2.1.2.2 dX9_quarrels_25
    · exact absurd (r_v_1.eq.trans rl_0.eq.symm) ((ti_ne c_6))
  · have r_v_1 : RI v_1 1 1 := rc_neL r_v_1 rl_0 (ti_ne c9_v_1) (by decide)
    have r_p1 : RI p1 0 5 := ((hp_v_1.2.2 c9_v_1).1)
    have x_IO1_0_p1_gdo := ((hp_v_1.2.2 c9_v_1).2.1)
    refine lv_if_eq (tgt := 24) hx hb dX9_quarrels_6 (by decide) (fun c_6 => ?_) (fun c_6 => ?_)
    · have r_v_1 : RI v_1 1 0 := rc_eq1 r_v_1 rl_0 (ti_eq c_6) (by decide)
      exact (r_v_1.no (by decide)).elim
    · refine lv_aload_n hx hb dX9_quarrels_9 rfl (lv_at hl 0 rfl) ?_
      refine tg_get (ci := 9) (ts := ty_WP) (C := RX9) (T := TX9) (N := 15) hx hb hts inX9 hown hK hw h_p0 rfl rfl 1 (by decide) (hts _ tw_347) (fun _ h9 => h9) (ft := vR 24) rfl dX9_quarrels_10 (fun u_2 hv_u_2 m_u_2 => ?_)
      obtain ⟨vu_2, rfl, h_vu_2⟩ := hv_u_2
      refine tg_getN (ci := 8) (ts := ty_WORLD) (C := RX8) (T := TX8) (N := 13) hx hb hts inX8 hown hK hw h_vu_2 rfl rfl 0 (by decide) (hSD.nest tn_249) (fun _ h9 => h9) (ft := vR 25) rfl dX9_quarrels_13 (fun u_3 hv_u_3 m_u_3 => ?_)
      obtain ⟨vu_3, rfl, h_vu_3⟩ := hv_u_3
      refine tg_getN (ci := 3) (ts := ty_POST) (C := RX3) (T := TX3) (N := 9) hx hb hts inX3 hown hK hw h_vu_3 rfl rfl 3 (by decide) (hSD.nest tn_209) (fun _ h9 => h9) (ft := vR 6) rfl dX9_quarrels_16 (fun u_4 hv_u_4 m_u_4 => ?_)
      obtain ⟨vu_4, rfl, h_vu_4⟩ := hv_u_4
      refine lv_iload_n hx hb dX9_quarrels_19 rfl (lv_at hl 1 rfl) ?_
      refine tg_iald (lo := (-2147483648)) (hi := 2147483647) hx hb hK hw h_vu_4 rfl 0 5 r_p1 (by decide) (by exact fun _ _ _ => ⟨Int.le_refl _, Int.le_refl _⟩) dX9_quarrels_20 (fun v_5 r_v_5 m_v_5 o_v_5 => ?_)
      refine lv_goto (tgt := 25) hx hb dX9_quarrels_21 (by decide) ?_
      subst hQ
      exact W.iret (v := v_5) hx hb hr (fun t ht hW => ⟨⟨v_5, (), rfl, ⟨r_v_5.to (by decide), (fun h0 => trivial), (fun h0 => trivial), ⟨⟨fun _ => (WR.arr (u := 6) hw.2.2.1 (HE.w x_HE_gdq_gdg_gdo_gdA_gdB_false_false) x_GWX_p0_gdq m_u_2 m_u_3 m_u_4 m_v_5 (by decide)).symm, fun h9 => absurd x_IO1_0_p1_gdo h9⟩, trivial⟩, (fun _ => trivial), (fun _ => trivial)⟩, by rw [ht]; exact hw.2.1, va_K.moved hW.alike hK, hw.2.2.1⟩, hw.2.2.2.1.F ht⟩) hw.2.2.2.1.2.2 dX9_quarrels_25
abbrev wr_X10_isIn__19 : List (Nat × Nat) := []
abbrev wa_X10_isIn__19 : List Nat := []
set_option maxHeartbeats 4000000 in
set_option maxRecDepth 100000 in
theorem c_X10_isIn__19 (l : Launch) (D : va_G) (cy : Nat → ClassId) (z : Nat → Nat) (sz : Nat) (Ps : PSI) (w0 : va_W) (hT : HT cy GG Ps w0) (p0 : Int32) (p1 : Int32) (p2 : Int32) (r_p0 : RI p0 (-2147483648) 2147483647) (r_p1 : RI p1 0 0) (r_p2 : RI p2 (-1) 5) : Met l yX10_isIn (Cond.code yX10_isIn cX10_isIn 3 (some .boolean) :: gT) ({ frames := 0, cells := 0, slots := 0, locals := 200 } : Room) (va_Pc [.int p0, .int p1, .int p2] (PRE D cy z w0 sz)) (va_Qi (fun (r : Int32) (u : Unit) => RI r 0 1 ∧ (r = 0 → (¬ (0 ≤ Int32.toInt p0 ∧ Int32.toInt p0 ≤ Int32.toInt p2)) ∧ True) ∧ (¬ r = 0 → RI p0 0 5 ∧ RI p2 0 5 ∧ (0 ≤ Int32.toInt p0 ∧ Int32.toInt p0 ≤ Int32.toInt p2) ∧ True)) (BB D cy (va_A w0 sz) (fun (u : Unit) => w0)) (va_A w0 sz)) 0 0 (va_A w0 sz) := by
  refine Met.ofW (cc := cX10_isIn) (maxL := 3) (ret := (some .boolean)) (by decide) rfl ?_
  intro p e s m args below meth c s₁ B hml hv
  obtain ⟨rfl, hsz, hP, hK, hD0, hSD⟩ := hv
  have hx := B.exec
  have hb := B.bytes
  have hr := B.returns
  have hlocks := B.notSynchronized
  have hts : ∀ w ∈ gT, w.before _ s = true := fun w h => atoms_spec (ws := Cond.code yX10_isIn cX10_isIn 3 (some .boolean) :: gT) B.pre w (List.mem_cons_of_mem _ h)
  have hown : s.vm.findClass RX10 = some m.cls := findClass_of_methodNamed B.named
  subst hsz
  have hD := hD0.self (sz := s.heap.size)
  generalize hAe : va_A w0 s.heap.size = A at hD hSD ⊢
  have hA : ∀ q : Nat, s.heap.size ≤ q → A q := fun q h => by rw [← hAe]; exact Or.inr h
  have hl := lv_entry ([.int p0, .int p1, .int p2]) (n := 3) (Nat.le_of_ble_eq_true rfl)
  rw [lg_entry_eq]
  generalize (lg_sl ([.int p0, .int p1, .int p2]) ++ List.replicate (3 - (lg_sl ([.int p0, .int p1, .int p2])).length) Slot.unset).toArray = ls at hl ⊢
  have hl : lv_has ls 3 [(0, .int p0), (1, .int p1), (2, .int p2)] := hl
  refine nameQ (fun Q hQ => ?_)
  have hw : WD D cy GG A s wr_X10_isIn__19 wa_X10_isIn__19 Ps w0 Ps w0 s.heap [] := ⟨hT, hP, hD, va_S.rf, FR.rf, hT.1, [], (List.append_nil _).symm⟩
  refine lv_iload_n hx hb dX10_isIn_0 rfl (lv_at hl 0 rfl) ?_
  refine lv_iload_n hx hb dX10_isIn_1 rfl (lv_at hl 1 rfl) ?_
  refine lv_icmp_lt (tgt := 14) hx hb dX10_isIn_2 (by decide) (fun c_2 => ?_) (fun c_2 => ?_)
  · have r_p0 : RI p0 (-2147483648) (-1) := rc_lt1 r_p0 r_p1 (ti_lt c_2) (by decide)
    have x_IN0_p0_p2 : (¬ (0 ≤ Int32.toInt p0 ∧ Int32.toInt p0 ≤ Int32.toInt p2)) := (fun h9 => by have k1 := r_p0.2; omega)
    refine lv_iconst (v := 0) hx hb dX10_isIn_14 (by decide) ?_
    subst hQ
    exact W.zret (v := 0) hx hb hr (rfl) (fun t ht hW => ⟨⟨0, (), rfl, ⟨rl_0.to (by decide), (fun h0 => ⟨x_IN0_p0_p2, trivial⟩), (fun h0 => absurd rfl h0)⟩, by rw [ht]; exact hw.2.1, va_K.moved hW.alike hK, hw.2.2.1⟩, hw.2.2.2.1.F ht⟩) hw.2.2.2.1.2.2 dX10_isIn_15
  · have r_p0 : RI p0 0 2147483647 := rc_le2 r_p1 r_p0 (ti_nlt c_2) (by decide)
    refine lv_iload_n hx hb dX10_isIn_5 rfl (lv_at hl 0 rfl) ?_
    refine lv_iload_n hx hb dX10_isIn_6 rfl (lv_at hl 2 rfl) ?_
    refine lv_icmp_gt (tgt := 14) hx hb dX10_isIn_7 (by decide) (fun c_7 => ?_) (fun c_7 => ?_)
    · have x_IN0_p0_p2 : (¬ (0 ≤ Int32.toInt p0 ∧ Int32.toInt p0 ≤ Int32.toInt p2)) := (fun h9 => by have k1 := ti_lt c_7; omega)
      refine lv_iconst (v := 0) hx hb dX10_isIn_14 (by decide) ?_
      subst hQ
      exact W.zret (v := 0) hx hb hr (rfl) (fun t ht hW => ⟨⟨0, (), rfl, ⟨rl_0.to (by decide), (fun h0 => ⟨x_IN0_p0_p2, trivial⟩), (fun h0 => absurd rfl h0)⟩, by rw [ht]; exact hw.2.1, va_K.moved hW.alike hK, hw.2.2.1⟩, hw.2.2.2.1.F ht⟩) hw.2.2.2.1.2.2 dX10_isIn_15
    · have r_p0 : RI p0 0 5 := rc_le1 r_p0 r_p2 (ti_nlt c_7) (by decide)
      have r_p2 : RI p2 0 5 := rc_le2 r_p0 r_p2 (ti_nlt c_7) (by decide)
      have x_IN1_p0_p2 : (0 ≤ Int32.toInt p0 ∧ Int32.toInt p0 ≤ Int32.toInt p2) := ⟨by have k1 := r_p0.1; omega, ti_nlt c_7⟩
      refine lv_iconst (v := 1) hx hb dX10_isIn_10 (by decide) ?_
      refine lv_goto (tgt := 15) hx hb dX10_isIn_11 (by decide) ?_
      subst hQ
      exact W.zret (v := 1) hx hb hr (rfl) (fun t ht hW => ⟨⟨1, (), rfl, ⟨rl_1.to (by decide), (fun h0 => absurd h0 (by decide)), (fun h0 => ⟨r_p0, r_p2, x_IN1_p0_p2, trivial⟩)⟩, by rw [ht]; exact hw.2.1, va_K.moved hW.alike hK, hw.2.2.1⟩, hw.2.2.2.1.F ht⟩) hw.2.2.2.1.2.2 dX10_isIn_15
abbrev wr_X10_isIdea__1 : List (Nat × Nat) := []
abbrev wa_X10_isIdea__1 : List Nat := []
set_option maxHeartbeats 4000000 in
set_option maxRecDepth 100000 in
theorem c_X10_isIdea__1 (l : Launch) (D : va_G) (cy : Nat → ClassId) (z : Nat → Nat) (sz : Nat) (Ps : PSI) (w0 : va_W) (hT : HT cy GG Ps w0) (p0 : Nat) (p1 : Int32) (gdR : Nat → Int32) (h_p0 : (p0, 55) ∈ Ps) (r_p1 : RI p1 (-2147483648) 2147483647) (x_HD_p0_gdR : AX 14 34 (HDp gdR) Ps w0 p0) : Met l yX10_isIdea (Cond.code yX10_isIdea cX10_isIdea 2 (some .boolean) :: gT) ({ frames := 2, cells := 0, slots := 0, locals := 400 } : Room) (va_Pc [.ref p0, .int p1] (PRE D cy z w0 sz)) (va_Qi (fun (r : Int32) (u : Unit) => RI r 0 1 ∧ (r = 0 → (¬ (0 ≤ Int32.toInt p1 ∧ Int32.toInt p1 < Int32.toInt (gdR 0))) ∧ True) ∧ (¬ r = 0 → RI p1 0 5 ∧ (0 ≤ Int32.toInt p1 ∧ Int32.toInt p1 < Int32.toInt (gdR 0)) ∧ True)) (BB D cy (va_A w0 sz) (fun (u : Unit) => w0)) (va_A w0 sz)) 0 0 (va_A w0 sz) := by
  refine Met.ofW (cc := cX10_isIdea) (maxL := 2) (ret := (some .boolean)) (by decide) rfl ?_
  intro p e s m args below meth c s₁ B hml hv
  obtain ⟨rfl, hsz, hP, hK, hD0, hSD⟩ := hv
  have hx := B.exec
  have hb := B.bytes
  have hr := B.returns
  have hlocks := B.notSynchronized
  have hts : ∀ w ∈ gT, w.before _ s = true := fun w h => atoms_spec (ws := Cond.code yX10_isIdea cX10_isIdea 2 (some .boolean) :: gT) B.pre w (List.mem_cons_of_mem _ h)
  have hown : s.vm.findClass RX10 = some m.cls := findClass_of_methodNamed B.named
  subst hsz
  have hD := hD0.self (sz := s.heap.size)
  generalize hAe : va_A w0 s.heap.size = A at hD hSD ⊢
  have hA : ∀ q : Nat, s.heap.size ≤ q → A q := fun q h => by rw [← hAe]; exact Or.inr h
  have hl := lv_entry ([.ref p0, .int p1]) (n := 2) (Nat.le_of_ble_eq_true rfl)
  rw [lg_entry_eq]
  generalize (lg_sl ([.ref p0, .int p1]) ++ List.replicate (2 - (lg_sl ([.ref p0, .int p1])).length) Slot.unset).toArray = ls at hl ⊢
  have hl : lv_has ls 2 [(0, .ref p0), (1, .int p1)] := hl
  refine nameQ (fun Q hQ => ?_)
  have hw : WD D cy GG A s wr_X10_isIdea__1 wa_X10_isIdea__1 Ps w0 Ps w0 s.heap [] := ⟨hT, hP, hD, va_S.rf, FR.rf, hT.1, [], (List.append_nil _).symm⟩
  refine lv_iload_n hx hb dX10_isIdea_0 rfl (lv_at hl 1 rfl) ?_
  refine lv_iconst (v := 0) hx hb dX10_isIdea_1 (by decide) ?_
  refine lv_aload_n hx hb dX10_isIdea_2 rfl (lv_at hl 0 rfl) ?_
  refine tg_get (ci := 10) (ts := ty_MODEL) (C := RX10) (T := TX10) (N := 49) hx hb hts inX10 hown hK hw h_p0 rfl rfl 14 (by decide) (hts _ tw_1151) (fun _ h9 => h9) (ft := vR 34) rfl dX10_isIdea_3 (fun u_1 hv_u_1 m_u_1 => ?_)
  obtain ⟨vu_1, rfl, h_vu_1⟩ := hv_u_1
  refine lv_iconst (v := 0) hx hb dX10_isIdea_6 (by decide) ?_
  refine tg_iald (lo := 0) (hi := 6) hx hb hK hw h_vu_1 rfl 0 0 rl_0 (by decide) (by decide +kernel) dX10_isIdea_7 (fun v_2 r_v_2 m_v_2 o_v_2 => ?_)
  refine lv_iconst (v := 1) hx hb dX10_isIdea_8 (by decide) ?_
  refine lv_isub hx hb dX10_isIdea_9 (lv_topi (fun v_3 e_v_3 => ?_))
  obtain ⟨t_v_3, r_v_3⟩ := tq_sub (lo := (-1)) (hi := 5) r_v_2 rl_1 (by decide +kernel) e_v_3
  have t_v_3 : v_3.toInt = v_2.toInt - 1 := t_v_3
  refine tk_ir (va_runS (As := [.int p1, .int 0, .int v_3]) (rest := []) ⟨hx, hb, hml, hown, hts⟩ (c_X10_isIn__19 l D cy z s.heap.size Ps w0 hw.1 p1 0 v_3 r_p1 rl_0 r_v_3) (va_cwS 3 hts (gS tw_1359 tw_1360 tw_15 tw_1361) rfl rfl rfl (by decide +kernel) ⟨Nat.le_of_ble_eq_true rfl, Nat.le_of_ble_eq_true rfl⟩) (tg_preS hw hK hSD hA) rfl rfl hl.1 rfl (lv_room (Nat.le_of_ble_eq_true rfl)) dX10_isIdea_10 ⟨Nat.le_of_ble_eq_true rfl, Nat.le_of_ble_eq_true rfl⟩) hw hA (fun v_4  H locs hp_v_4 hw => ?_)
  have r_v_4 : RI v_4 0 1 := hp_v_4.1
  by_cases c9_v_4 : v_4 = 0
  · have r_v_4 : RI v_4 0 0 := by rw [c9_v_4]; exact rl_0
    have x_IN0_p1_v_3 := ((hp_v_4.2.1 c9_v_4).1)
    have ei9 : v_2 = gdR 0 := hd_at hw.2.2.1 x_HD_p0_gdR m_u_1 m_v_2 (by decide)
    have x_ID0_p1_gdR : (¬ (0 ≤ Int32.toInt p1 ∧ Int32.toInt p1 < Int32.toInt (gdR 0))) := (fun h9 => by rw [← ei9] at h9; have k2 := t_v_3; exact x_IN0_p1_v_3 ⟨h9.1, by omega⟩)
    subst hQ
    exact W.zret (v := v_4) hx hb hr (tq_nz (r_v_4.to (by decide))) (fun t ht hW => ⟨⟨v_4, (), rfl, ⟨r_v_4.to (by decide), (fun h0 => ⟨x_ID0_p1_gdR, trivial⟩), (fun h0 => absurd (Int32.toInt_inj.mp (by have h8 := r_v_4; unfold RI at h8; rw [Int32.toInt_zero]; omega)) h0)⟩, by rw [ht]; exact hw.2.1, va_K.moved hW.alike hK, hw.2.2.1⟩, hw.2.2.2.1.F ht⟩) hw.2.2.2.1.2.2 dX10_isIdea_13
  · have r_v_4 : RI v_4 1 1 := rc_neL r_v_4 rl_0 (ti_ne c9_v_4) (by decide)
    have r_p1 : RI p1 0 5 := ((hp_v_4.2.2 c9_v_4).1)
    have r_v_3 : RI v_3 0 5 := ((hp_v_4.2.2 c9_v_4).2.1)
    have x_IN1_p1_v_3 := ((hp_v_4.2.2 c9_v_4).2.2.1)
    have ei9 : v_2 = gdR 0 := hd_at hw.2.2.1 x_HD_p0_gdR m_u_1 m_v_2 (by decide)
    have x_ID1_p1_gdR : (0 ≤ Int32.toInt p1 ∧ Int32.toInt p1 < Int32.toInt (gdR 0)) := ⟨x_IN1_p1_v_3.1, by rw [← ei9]; have k1 := x_IN1_p1_v_3.2; have k2 := t_v_3; omega⟩
    subst hQ
    exact W.zret (v := v_4) hx hb hr (tq_nz (r_v_4.to (by decide))) (fun t ht hW => ⟨⟨v_4, (), rfl, ⟨r_v_4.to (by decide), (fun h0 => absurd (ti_eq h0) (by have h8 := r_v_4; unfold RI at h8; rw [Int32.toInt_zero]; omega)), (fun h0 => ⟨r_p1, x_ID1_p1_gdR, trivial⟩)⟩, by rw [ht]; exact hw.2.1, va_K.moved hW.alike hK, hw.2.2.1⟩, hw.2.2.2.1.F ht⟩) hw.2.2.2.1.2.2 dX10_isIdea_13
abbrev wr_X10_need__1 : List (Nat × Nat) := [(10, 0)]
abbrev wa_X10_need__1 : List Nat := []
set_option maxHeartbeats 4000000 in
set_option maxRecDepth 100000 in
theorem c_X10_need__1 (l : Launch) (D : va_G) (cy : Nat → ClassId) (z : Nat → Nat) (sz : Nat) (Ps : PSI) (w0 : va_W) (hT : HT cy GG Ps w0) (p0 : Nat) (p1 : Int32) (gdR : Nat → Int32) (h_p0 : (p0, 55) ∈ Ps) (r_p1 : RI p1 (-2147483648) 2147483647) (x_HD_p0_gdR : AX 14 34 (HDp gdR) Ps w0 p0) : Met l yX10_need (Cond.code yX10_need cX10_need 2 (some .int) :: gT) ({ frames := 3, cells := 0, slots := 0, locals := 600 } : Room) (va_Pc [.ref p0, .int p1] (PRE D cy z w0 sz)) (va_Qi (fun (r : Int32) (u : va_W) => (RI r (-2147483648) 2147483647 ∧ (r = 0 → True) ∧ (¬ r = 0 → True) ∧ ((NDX p1 (gdR 0) (fun i9 => gdR (6 + i9)) r) ∧ True) ∧ (r.toInt < 0 → True) ∧ (0 ≤ r.toInt → True)) ∧ HT cy GG Ps u ∧ FR wr_X10_need__1 wa_X10_need__1 Ps w0 u) (BB D cy (va_A w0 sz) (fun (u : va_W) => u)) (va_A w0 sz)) 0 0 (va_A w0 sz) := by
  refine Met.ofW (cc := cX10_need) (maxL := 2) (ret := (some .int)) (by decide) rfl ?_
  intro p e s m args below meth c s₁ B hml hv
  obtain ⟨rfl, hsz, hP, hK, hD0, hSD⟩ := hv
  have hx := B.exec
  have hb := B.bytes
  have hr := B.returns
  have hlocks := B.notSynchronized
  have hts : ∀ w ∈ gT, w.before _ s = true := fun w h => atoms_spec (ws := Cond.code yX10_need cX10_need 2 (some .int) :: gT) B.pre w (List.mem_cons_of_mem _ h)
  have hown : s.vm.findClass RX10 = some m.cls := findClass_of_methodNamed B.named
  subst hsz
  have hD := hD0.self (sz := s.heap.size)
  generalize hAe : va_A w0 s.heap.size = A at hD hSD ⊢
  have hA : ∀ q : Nat, s.heap.size ≤ q → A q := fun q h => by rw [← hAe]; exact Or.inr h
  have hl := lv_entry ([.ref p0, .int p1]) (n := 2) (Nat.le_of_ble_eq_true rfl)
  rw [lg_entry_eq]
  generalize (lg_sl ([.ref p0, .int p1]) ++ List.replicate (2 - (lg_sl ([.ref p0, .int p1])).length) Slot.unset).toArray = ls at hl ⊢
  have hl : lv_has ls 2 [(0, .ref p0), (1, .int p1)] := hl
  refine nameQ (fun Q hQ => ?_)
  have hw : WD D cy GG A s wr_X10_need__1 wa_X10_need__1 Ps w0 Ps w0 s.heap [] := ⟨hT, hP, hD, va_S.rf, FR.rf, hT.1, [], (List.append_nil _).symm⟩
  refine lv_aload_n hx hb dX10_need_0 rfl (lv_at hl 0 rfl) ?_
  refine lv_iconst (v := 0) hx hb dX10_need_1 (by decide) ?_
  refine tg_put (ci := 10) (ts := ty_MODEL) (v := .int 0) (ty := .int) (C := RX10) (T := TX10) (N := 49) hx hb hts inX10 tyX10 tyX10_ok nmX10 hown hK hw h_p0 rfl rfl 0 (by decide) (hts _ tw_1137) (fun _ h9 => h9) rfl (by decide +kernel) rfl rfl (ft := vI (-2147483648) 2147483647) rfl ⟨_, rfl, (rl_0.to (by decide))⟩ (by decide) dX10_need_2 (fun ws H locs hw n_k_1 hF9 => ?_)
  have x_HD_p0_gdR := AX.over hF9 x_HD_p0_gdR (by decide)
  refine lv_aload_n hx hb dX10_need_5 rfl (lv_at hl 0 rfl) ?_
  refine lv_iload_n hx hb dX10_need_6 rfl (lv_at hl 1 rfl) ?_
  refine tk_ir (va_runV (As := [.int p1]) (rest := []) ⟨hx, hb, hml, hown, hts⟩ (c_X10_isIdea__1 l D cy z H.size Ps ws hw.1 p0 p1 (gdR) h_p0 r_p1 x_HD_p0_gdR) (cwV 1 hts (gV tw_1433 tw_1435 ts_66 tw_15 tw_1436) rfl rfl rfl (by decide +kernel) ⟨Nat.le_of_ble_eq_true rfl, Nat.le_of_ble_eq_true rfl⟩) (tg_preV hw hK hSD hA (ci := 10) (q := (RX10, TX10, 49)) rfl h_p0 rfl) rfl rfl hl.1 rfl (lv_room (Nat.le_of_ble_eq_true rfl)) dX10_need_7 ⟨Nat.le_of_ble_eq_true rfl, Nat.le_of_ble_eq_true rfl⟩) hw hA (fun v_2  H locs hp_v_2 hw => ?_)
  have r_v_2 : RI v_2 0 1 := hp_v_2.1
  by_cases c9_v_2 : v_2 = 0
  · have r_v_2 : RI v_2 0 0 := by rw [c9_v_2]; exact rl_0
    have x_ID0_p1_gdR := ((hp_v_2.2.1 c9_v_2).1)
    refine lv_if_eq (tgt := 25) hx hb dX10_need_10 (by decide) (fun c_10 => ?_) (fun c_10 => ?_)
    · refine lv_iconst (v := (-1)) hx hb dX10_need_25 (by decide) ?_
      subst hQ
      exact W.iret (v := (-1)) hx hb hr (fun t ht hW => ⟨⟨(-1), ws, rfl, ⟨⟨rl_m1.to (by decide), (fun _ => trivial), (fun h0 => trivial), ⟨⟨fun h9 => absurd h9 x_ID0_p1_gdR, fun _ => rfl⟩, trivial⟩, (fun _ => trivial), (fun _ => trivial)⟩, hw.1, hw.2.2.2.2.1⟩, by rw [ht]; exact hw.2.1, va_K.moved hW.alike hK, hw.2.2.1⟩, hw.2.2.2.1.F ht⟩) hw.2.2.2.1.2.2 dX10_need_26
    · exact absurd (r_v_2.eq.trans rl_0.eq.symm) ((ti_ne c_10))
  · have r_v_2 : RI v_2 1 1 := rc_neL r_v_2 rl_0 (ti_ne c9_v_2) (by decide)
    have r_p1 : RI p1 0 5 := ((hp_v_2.2.2 c9_v_2).1)
    have x_ID1_p1_gdR := ((hp_v_2.2.2 c9_v_2).2.1)
    refine lv_if_eq (tgt := 25) hx hb dX10_need_10 (by decide) (fun c_10 => ?_) (fun c_10 => ?_)
    · have r_v_2 : RI v_2 1 0 := rc_eq1 r_v_2 rl_0 (ti_eq c_10) (by decide)
      exact (r_v_2.no (by decide)).elim
    · refine lv_aload_n hx hb dX10_need_13 rfl (lv_at hl 0 rfl) ?_
      refine tg_get (ci := 10) (ts := ty_MODEL) (C := RX10) (T := TX10) (N := 49) hx hb hts inX10 hown hK hw h_p0 rfl rfl 14 (by decide) (hts _ tw_1151) (fun _ h9 => h9) (ft := vR 34) rfl dX10_need_14 (fun u_3 hv_u_3 m_u_3 => ?_)
      obtain ⟨vu_3, rfl, h_vu_3⟩ := hv_u_3
      refine lv_bipush (v := 6) hx hb dX10_need_17 (by decide) ?_
      refine lv_iload_n hx hb dX10_need_19 rfl (lv_at hl 1 rfl) ?_
      refine lv_iadd hx hb dX10_need_20 (lv_topi (fun v_4 e_v_4 => ?_))
      obtain ⟨t_v_4, r_v_4⟩ := tq_add (lo := 6) (hi := 11) rl_6 r_p1 (by decide +kernel) e_v_4
      have t_v_4 : v_4.toInt = 6 + p1.toInt := t_v_4
      refine tg_iald (lo := (-2147483648)) (hi := 2147483647) hx hb hK hw h_vu_3 rfl 6 11 r_v_4 (by decide) (by decide +kernel) dX10_need_21 (fun v_5 r_v_5 m_v_5 o_v_5 => ?_)
      refine lv_goto (tgt := 26) hx hb dX10_need_22 (by decide) ?_
      subst hQ
      exact W.iret (v := v_5) hx hb hr (fun t ht hW => ⟨⟨v_5, ws, rfl, ⟨⟨r_v_5.to (by decide), (fun h0 => trivial), (fun h0 => trivial), ⟨⟨fun _ => (hd_at hw.2.2.1 x_HD_p0_gdR m_u_3 m_v_5 (by have k1 := r_v_4.cl (by decide); have k2 := r_v_4.2; omega)).trans (congrArg gdR (by have k1 := r_v_4.cl (by decide); have k3 := r_p1.cl (by decide); have k2 := t_v_4; omega)), fun h9 => absurd x_ID1_p1_gdR h9⟩, trivial⟩, (fun _ => trivial), (fun _ => trivial)⟩, hw.1, hw.2.2.2.2.1⟩, by rw [ht]; exact hw.2.1, va_K.moved hW.alike hK, hw.2.2.1⟩, hw.2.2.2.1.F ht⟩) hw.2.2.2.1.2.2 dX10_need_26
abbrev wr_X10_quarrels__1 : List (Nat × Nat) := [(10, 0)]
abbrev wa_X10_quarrels__1 : List Nat := []
set_option maxHeartbeats 4000000 in
set_option maxRecDepth 100000 in
theorem c_X10_quarrels__1 (l : Launch) (D : va_G) (cy : Nat → ClassId) (z : Nat → Nat) (sz : Nat) (Ps : PSI) (w0 : va_W) (hT : HT cy GG Ps w0) (p0 : Nat) (p1 : Int32) (gdR : Nat → Int32) (h_p0 : (p0, 55) ∈ Ps) (r_p1 : RI p1 (-2147483648) 2147483647) (x_HD_p0_gdR : AX 14 34 (HDp gdR) Ps w0 p0) : Met l yX10_quarrels (Cond.code yX10_quarrels cX10_quarrels 2 (some .int) :: gT) ({ frames := 3, cells := 0, slots := 0, locals := 600 } : Room) (va_Pc [.ref p0, .int p1] (PRE D cy z w0 sz)) (va_Qi (fun (r : Int32) (u : va_W) => (RI r (-2147483648) 2147483647 ∧ (r = 0 → True) ∧ (¬ r = 0 → True) ∧ ((NDX p1 (gdR 0) (fun i9 => gdR (12 + i9)) r) ∧ True) ∧ (r.toInt < 0 → True) ∧ (0 ≤ r.toInt → True)) ∧ HT cy GG Ps u ∧ FR wr_X10_quarrels__1 wa_X10_quarrels__1 Ps w0 u) (BB D cy (va_A w0 sz) (fun (u : va_W) => u)) (va_A w0 sz)) 0 0 (va_A w0 sz) := by
  refine Met.ofW (cc := cX10_quarrels) (maxL := 2) (ret := (some .int)) (by decide) rfl ?_
  intro p e s m args below meth c s₁ B hml hv
  obtain ⟨rfl, hsz, hP, hK, hD0, hSD⟩ := hv
  have hx := B.exec
  have hb := B.bytes
  have hr := B.returns
  have hlocks := B.notSynchronized
  have hts : ∀ w ∈ gT, w.before _ s = true := fun w h => atoms_spec (ws := Cond.code yX10_quarrels cX10_quarrels 2 (some .int) :: gT) B.pre w (List.mem_cons_of_mem _ h)
  have hown : s.vm.findClass RX10 = some m.cls := findClass_of_methodNamed B.named
  subst hsz
  have hD := hD0.self (sz := s.heap.size)
  generalize hAe : va_A w0 s.heap.size = A at hD hSD ⊢
  have hA : ∀ q : Nat, s.heap.size ≤ q → A q := fun q h => by rw [← hAe]; exact Or.inr h
  have hl := lv_entry ([.ref p0, .int p1]) (n := 2) (Nat.le_of_ble_eq_true rfl)
  rw [lg_entry_eq]
  generalize (lg_sl ([.ref p0, .int p1]) ++ List.replicate (2 - (lg_sl ([.ref p0, .int p1])).length) Slot.unset).toArray = ls at hl ⊢
  have hl : lv_has ls 2 [(0, .ref p0), (1, .int p1)] := hl
  refine nameQ (fun Q hQ => ?_)
  have hw : WD D cy GG A s wr_X10_quarrels__1 wa_X10_quarrels__1 Ps w0 Ps w0 s.heap [] := ⟨hT, hP, hD, va_S.rf, FR.rf, hT.1, [], (List.append_nil _).symm⟩
  refine lv_aload_n hx hb dX10_quarrels_0 rfl (lv_at hl 0 rfl) ?_
  refine lv_iconst (v := 0) hx hb dX10_quarrels_1 (by decide) ?_
  refine tg_put (ci := 10) (ts := ty_MODEL) (v := .int 0) (ty := .int) (C := RX10) (T := TX10) (N := 49) hx hb hts inX10 tyX10 tyX10_ok nmX10 hown hK hw h_p0 rfl rfl 0 (by decide) (hts _ tw_1137) (fun _ h9 => h9) rfl (by decide +kernel) rfl rfl (ft := vI (-2147483648) 2147483647) rfl ⟨_, rfl, (rl_0.to (by decide))⟩ (by decide) dX10_quarrels_2 (fun ws H locs hw n_k_1 hF9 => ?_)
  have x_HD_p0_gdR := AX.over hF9 x_HD_p0_gdR (by decide)
  refine lv_aload_n hx hb dX10_quarrels_5 rfl (lv_at hl 0 rfl) ?_
  refine lv_iload_n hx hb dX10_quarrels_6 rfl (lv_at hl 1 rfl) ?_
  refine tk_ir (va_runV (As := [.int p1]) (rest := []) ⟨hx, hb, hml, hown, hts⟩ (c_X10_isIdea__1 l D cy z H.size Ps ws hw.1 p0 p1 (gdR) h_p0 r_p1 x_HD_p0_gdR) (cwV 1 hts (gV tw_1433 tw_1435 ts_66 tw_15 tw_1436) rfl rfl rfl (by decide +kernel) ⟨Nat.le_of_ble_eq_true rfl, Nat.le_of_ble_eq_true rfl⟩) (tg_preV hw hK hSD hA (ci := 10) (q := (RX10, TX10, 49)) rfl h_p0 rfl) rfl rfl hl.1 rfl (lv_room (Nat.le_of_ble_eq_true rfl)) dX10_quarrels_7 ⟨Nat.le_of_ble_eq_true rfl, Nat.le_of_ble_eq_true rfl⟩) hw hA (fun v_2  H locs hp_v_2 hw => ?_)
  have r_v_2 : RI v_2 0 1 := hp_v_2.1
  by_cases c9_v_2 : v_2 = 0
  · have r_v_2 : RI v_2 0 0 := by rw [c9_v_2]; exact rl_0
    have x_ID0_p1_gdR := ((hp_v_2.2.1 c9_v_2).1)
    refine lv_if_eq (tgt := 25) hx hb dX10_quarrels_10 (by decide) (fun c_10 => ?_) (fun c_10 => ?_)
    · refine lv_iconst (v := (-1)) hx hb dX10_quarrels_25 (by decide) ?_
      subst hQ
      exact W.iret (v := (-1)) hx hb hr (fun t ht hW => ⟨⟨(-1), ws, rfl, ⟨⟨rl_m1.to (by decide), (fun _ => trivial), (fun h0 => trivial), ⟨⟨fun h9 => absurd h9 x_ID0_p1_gdR, fun _ => rfl⟩, trivial⟩, (fun _ => trivial), (fun _ => trivial)⟩, hw.1, hw.2.2.2.2.1⟩, by rw [ht]; exact hw.2.1, va_K.moved hW.alike hK, hw.2.2.1⟩, hw.2.2.2.1.F ht⟩) hw.2.2.2.1.2.2 dX10_quarrels_26
    · exact absurd (r_v_2.eq.trans rl_0.eq.symm) ((ti_ne c_10))
  · have r_v_2 : RI v_2 1 1 := rc_neL r_v_2 rl_0 (ti_ne c9_v_2) (by decide)
    have r_p1 : RI p1 0 5 := ((hp_v_2.2.2 c9_v_2).1)
    have x_ID1_p1_gdR := ((hp_v_2.2.2 c9_v_2).2.1)
    refine lv_if_eq (tgt := 25) hx hb dX10_quarrels_10 (by decide) (fun c_10 => ?_) (fun c_10 => ?_)
    · have r_v_2 : RI v_2 1 0 := rc_eq1 r_v_2 rl_0 (ti_eq c_10) (by decide)
      exact (r_v_2.no (by decide)).elim
    · refine lv_aload_n hx hb dX10_quarrels_13 rfl (lv_at hl 0 rfl) ?_
      refine tg_get (ci := 10) (ts := ty_MODEL) (C := RX10) (T := TX10) (N := 49) hx hb hts inX10 hown hK hw h_p0 rfl rfl 14 (by decide) (hts _ tw_1151) (fun _ h9 => h9) (ft := vR 34) rfl dX10_quarrels_14 (fun u_3 hv_u_3 m_u_3 => ?_)
      obtain ⟨vu_3, rfl, h_vu_3⟩ := hv_u_3
      refine lv_bipush (v := 12) hx hb dX10_quarrels_17 (by decide) ?_
      refine lv_iload_n hx hb dX10_quarrels_19 rfl (lv_at hl 1 rfl) ?_
      refine lv_iadd hx hb dX10_quarrels_20 (lv_topi (fun v_4 e_v_4 => ?_))
      obtain ⟨t_v_4, r_v_4⟩ := tq_add (lo := 12) (hi := 17) rl_12 r_p1 (by decide +kernel) e_v_4
      have t_v_4 : v_4.toInt = 12 + p1.toInt := t_v_4
      refine tg_iald (lo := (-2147483648)) (hi := 2147483647) hx hb hK hw h_vu_3 rfl 12 17 r_v_4 (by decide) (by decide +kernel) dX10_quarrels_21 (fun v_5 r_v_5 m_v_5 o_v_5 => ?_)
      refine lv_goto (tgt := 26) hx hb dX10_quarrels_22 (by decide) ?_
      subst hQ
      exact W.iret (v := v_5) hx hb hr (fun t ht hW => ⟨⟨v_5, ws, rfl, ⟨⟨r_v_5.to (by decide), (fun h0 => trivial), (fun h0 => trivial), ⟨⟨fun _ => (hd_at hw.2.2.1 x_HD_p0_gdR m_u_3 m_v_5 (by have k1 := r_v_4.cl (by decide); have k2 := r_v_4.2; omega)).trans (congrArg gdR (by have k1 := r_v_4.cl (by decide); have k3 := r_p1.cl (by decide); have k2 := t_v_4; omega)), fun h9 => absurd x_ID1_p1_gdR h9⟩, trivial⟩, (fun _ => trivial), (fun _ => trivial)⟩, hw.1, hw.2.2.2.2.1⟩, by rw [ht]; exact hw.2.1, va_K.moved hW.alike hK, hw.2.2.1⟩, hw.2.2.2.1.F ht⟩) hw.2.2.2.1.2.2 dX10_quarrels_26
