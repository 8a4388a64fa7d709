abbrev wr_X9_ask : List (Nat × Nat) := []
abbrev wa_X9_ask : List Nat := []
set_option maxHeartbeats 4000000 in
set_option maxRecDepth 100000 in
theorem c_X9_ask (l : Launch) (D : va_G) (cy : Nat → ClassId) (z : Nat → Nat) (sz : Nat) (Ps : PSI) (w0 : va_W) (hT : HT cy GG Ps w0) (p0 : Nat) (h_p0 : (p0, 33) ∈ Ps) : Met l yX9_ask (Cond.code yX9_ask cX9_ask 1 (some .int) :: gT) ({ frames := 0, cells := 0, slots := 0, locals := 200 } : Room) (va_Pc [.ref p0] (PRE D cy z w0 sz)) (va_Qi (fun (r : Int32) (u : Unit) => RI r (-2147483648) 2147483647 ∧ (r = 0 → True) ∧ (¬ r = 0 → True)) (BB D cy (va_A w0 sz) (fun (u : Unit) => w0)) (va_A w0 sz)) 0 0 (va_A w0 sz) := by
  refine Met.ofW (cc := cX9_ask) (maxL := 1) (ret := (some .int)) (by decide) rfl ?_
  intro p e s m args below meth c s₁ B hml hv
  obtain ⟨rfl, hsz, hP, hK, hD0, hSD⟩ := hv
  have hx := B.exec
  have hb := B.bytes
  have hr := B.returns
  have hlocks := B.notSynchronized
  have hts : ∀ w ∈ gT, w.before _ s = true := fun w h => atoms_spec (ws := Cond.code yX9_ask cX9_ask 1 (some .int) :: gT) B.pre w (List.mem_cons_of_mem _ h)
  have hown : s.vm.findClass RX9 = some m.cls := findClass_of_methodNamed B.named
  subst hsz
  have hD := hD0.self (sz := s.heap.size)
  generalize hAe : va_A w0 s.heap.size = A at hD hSD ⊢
  have hA : ∀ q : Nat, s.heap.size ≤ q → A q := fun q h => by rw [← hAe]; exact Or.inr h
  have hl := lv_entry ([.ref p0]) (n := 1) (Nat.le_of_ble_eq_true rfl)
  rw [lg_entry_eq]
  generalize (lg_sl ([.ref p0]) ++ List.replicate (1 - (lg_sl ([.ref p0])).length) Slot.unset).toArray = ls at hl ⊢
  have hl : lv_has ls 1 [(0, .ref p0)] := hl
  refine nameQ (fun Q hQ => ?_)
  have hw : WD D cy GG A s wr_X9_ask wa_X9_ask Ps w0 Ps w0 s.heap [] := ⟨hT, hP, hD, va_S.rf, FR.rf, hT.1, [], (List.append_nil _).symm⟩
  refine lv_aload_n hx hb dX9_ask_0 rfl (lv_at hl 0 rfl) ?_
  refine tg_get (ci := 9) (ts := ty_WP) (C := RX9) (T := TX9) (N := 15) hx hb hts inX9 hown hK hw h_p0 rfl rfl 14 (by decide) (hts _ tw_360) (fun _ h9 => h9) (ft := vI (-2147483648) 2147483647) rfl dX9_ask_1 (fun u_1 hv_u_1 m_u_1 => ?_)
  obtain ⟨vu_1, rfl, r_vu_1⟩ := hv_u_1
  subst hQ
  exact W.iret (v := vu_1) hx hb hr (fun t ht hW => ⟨⟨vu_1, (), rfl, ⟨r_vu_1.to (by decide), (fun h0 => trivial), (fun h0 => trivial)⟩, by rw [ht]; exact hw.2.1, va_K.moved hW.alike hK, hw.2.2.1⟩, hw.2.2.2.1.F ht⟩) hw.2.2.2.1.2.2 dX9_ask_4
abbrev wr_X9_byteAt : List (Nat × Nat) := []
abbrev wa_X9_byteAt : List Nat := []
set_option maxHeartbeats 4000000 in
set_option maxRecDepth 100000 in
theorem c_X9_byteAt (l : Launch) (D : va_G) (cy : Nat → ClassId) (z : Nat → Nat) (sz : Nat) (Ps : PSI) (w0 : va_W) (hT : HT cy GG Ps w0) (p0 : Nat) (p1 : Int32) (h_p0 : (p0, 33) ∈ Ps) (r_p1 : RI p1 (-2147483648) 2147483647) : Met l yX9_byteAt (Cond.code yX9_byteAt cX9_byteAt 2 (some .int) :: gT) ({ frames := 0, cells := 0, slots := 0, locals := 200 } : Room) (va_Pc [.ref p0, .int p1] (PRE D cy z w0 sz)) (va_Qi (fun (r : Int32) (u : Unit) => RI r (-128) 127 ∧ (r = 0 → True) ∧ (¬ r = 0 → True)) (BB D cy (va_A w0 sz) (fun (u : Unit) => w0)) (va_A w0 sz)) 0 0 (va_A w0 sz) := by
  refine Met.ofW (cc := cX9_byteAt) (maxL := 2) (ret := (some .int)) (by decide) rfl ?_
  intro p e s m args below meth c s₁ B hml hv
  obtain ⟨rfl, hsz, hP, hK, hD0, hSD⟩ := hv
  have hx := B.exec
  have hb := B.bytes
  have hr := B.returns
  have hlocks := B.notSynchronized
  have hts : ∀ w ∈ gT, w.before _ s = true := fun w h => atoms_spec (ws := Cond.code yX9_byteAt cX9_byteAt 2 (some .int) :: gT) B.pre w (List.mem_cons_of_mem _ h)
  have hown : s.vm.findClass RX9 = some m.cls := findClass_of_methodNamed B.named
  subst hsz
  have hD := hD0.self (sz := s.heap.size)
  generalize hAe : va_A w0 s.heap.size = A at hD hSD ⊢
  have hA : ∀ q : Nat, s.heap.size ≤ q → A q := fun q h => by rw [← hAe]; exact Or.inr h
  have hl := lv_entry ([.ref p0, .int p1]) (n := 2) (Nat.le_of_ble_eq_true rfl)
  rw [lg_entry_eq]
  generalize (lg_sl ([.ref p0, .int p1]) ++ List.replicate (2 - (lg_sl ([.ref p0, .int p1])).length) Slot.unset).toArray = ls at hl ⊢
  have hl : lv_has ls 2 [(0, .ref p0), (1, .int p1)] := hl
  refine nameQ (fun Q hQ => ?_)
  have hw : WD D cy GG A s wr_X9_byteAt wa_X9_byteAt Ps w0 Ps w0 s.heap [] := ⟨hT, hP, hD, va_S.rf, FR.rf, hT.1, [], (List.append_nil _).symm⟩
  refine lv_iload_n hx hb dX9_byteAt_0 rfl (lv_at hl 1 rfl) ?_
  refine lv_if_lt (tgt := 27) hx hb dX9_byteAt_1 (by decide) (fun c_1 => ?_) (fun c_1 => ?_)
  · have r_p1 : RI p1 (-2147483648) (-1) := rc_lt1 r_p1 rl_0 (ti_lt c_1) (by decide)
    refine lv_iconst (v := (-1)) hx hb dX9_byteAt_27 (by decide) ?_
    subst hQ
    exact W.iret (v := (-1)) hx hb hr (fun t ht hW => ⟨⟨(-1), (), rfl, ⟨rl_m1.to (by decide), (fun _ => trivial), (fun h0 => trivial)⟩, by rw [ht]; exact hw.2.1, va_K.moved hW.alike hK, hw.2.2.1⟩, hw.2.2.2.1.F ht⟩) hw.2.2.2.1.2.2 dX9_byteAt_28
  · have r_p1 : RI p1 0 2147483647 := rc_le2 rl_0 r_p1 (ti_nlt c_1) (by decide)
    refine lv_iload_n hx hb dX9_byteAt_4 rfl (lv_at hl 1 rfl) ?_
    refine lv_aload_n hx hb dX9_byteAt_5 rfl (lv_at hl 0 rfl) ?_
    refine tg_get (ci := 9) (ts := ty_WP) (C := RX9) (T := TX9) (N := 15) hx hb hts inX9 hown hK hw h_p0 rfl rfl 10 (by decide) (hts _ tw_356) (fun _ h9 => h9) (ft := vR 30) rfl dX9_byteAt_6 (fun u_1 hv_u_1 m_u_1 => ?_)
    obtain ⟨vu_1, rfl, h_vu_1⟩ := hv_u_1
    refine tg_getN (ci := 6) (ts := ty_TAG) (C := RX6) (T := TX6) (N := 2) hx hb hts inX6 hown hK hw h_vu_1 rfl rfl 1 (by decide) (hSD.nest tn_186) (fun _ h9 => h9) (ft := vI 0 26) rfl dX9_byteAt_9 (fun u_2 hv_u_2 m_u_2 => ?_)
    obtain ⟨vu_2, rfl, r_vu_2⟩ := hv_u_2
    refine lv_icmp_ge (tgt := 27) hx hb dX9_byteAt_12 (by decide) (fun c_12 => ?_) (fun c_12 => ?_)
    · refine lv_iconst (v := (-1)) hx hb dX9_byteAt_27 (by decide) ?_
      subst hQ
      exact W.iret (v := (-1)) hx hb hr (fun t ht hW => ⟨⟨(-1), (), rfl, ⟨rl_m1.to (by decide), (fun _ => trivial), (fun h0 => trivial)⟩, by rw [ht]; exact hw.2.1, va_K.moved hW.alike hK, hw.2.2.1⟩, hw.2.2.2.1.F ht⟩) hw.2.2.2.1.2.2 dX9_byteAt_28
    · have r_p1 : RI p1 0 25 := rc_lt1 r_p1 r_vu_2 (ti_nle c_12) (by decide)
      have r_vu_2 : RI vu_2 1 26 := rc_lt2 r_p1 r_vu_2 (ti_nle c_12) (by decide)
      refine lv_aload_n hx hb dX9_byteAt_15 rfl (lv_at hl 0 rfl) ?_
      refine tg_mem (ci := 9) (C := RX9) (T := TX9) (N := 15) hx hb hts inX9 hown hK hw 10 m_u_1 rfl (by decide) (hts _ tw_356) (fun _ h9 => h9) dX9_byteAt_16 ?_
      refine tg_getN (ci := 6) (ts := ty_TAG) (C := RX6) (T := TX6) (N := 2) hx hb hts inX6 hown hK hw h_vu_1 rfl rfl 0 (by decide) (hSD.nest tn_184) (fun _ h9 => h9) (ft := vR 3) rfl dX9_byteAt_19 (fun u_3 hv_u_3 m_u_3 => ?_)
      obtain ⟨vu_3, rfl, h_vu_3⟩ := hv_u_3
      refine lv_iload_n hx hb dX9_byteAt_22 rfl (lv_at hl 1 rfl) ?_
      refine tg_bald (lo := (-128)) (hi := 127) hx hb hK hw h_vu_3 rfl 0 25 r_p1 (by decide) (by exact fun _ _ _ => ⟨Int.le_refl _, Int.le_refl _⟩) dX9_byteAt_23 (fun v_4 r_v_4 => ?_)
      refine lv_goto (tgt := 28) hx hb dX9_byteAt_24 (by decide) ?_
      subst hQ
      exact W.iret (v := v_4) hx hb hr (fun t ht hW => ⟨⟨v_4, (), rfl, ⟨r_v_4.to (by decide), (fun h0 => trivial), (fun h0 => trivial)⟩, by rw [ht]; exact hw.2.1, va_K.moved hW.alike hK, hw.2.2.1⟩, hw.2.2.2.1.F ht⟩) hw.2.2.2.1.2.2 dX9_byteAt_28
abbrev wr_X9_isOf : List (Nat × Nat) := []
abbrev wa_X9_isOf : List Nat := []
set_option maxHeartbeats 4000000 in
set_option maxRecDepth 100000 in
theorem c_X9_isOf (l : Launch) (D : va_G) (cy : Nat → ClassId) (z : Nat → Nat) (sz : Nat) (Ps : PSI) (w0 : va_W) (hT : HT cy GG Ps w0) (p0 : Nat) (p1 : Int32) (p2 : Int32) (h_p0 : (p0, 33) ∈ Ps) (r_p1 : RI p1 2 2) (r_p2 : RI p2 (-2147483648) 2147483647) : Met l yX9_isOf (Cond.code yX9_isOf cX9_isOf 3 (some .boolean) :: gT) ({ frames := 0, cells := 0, slots := 0, locals := 200 } : Room) (va_Pc [.ref p0, .int p1, .int p2] (PRE D cy z w0 sz)) (va_Qi (fun (r : Int32) (u : Unit) => RI r 0 1 ∧ (r = 0 → True) ∧ (¬ r = 0 → RI p2 0 5 ∧ True)) (BB D cy (va_A w0 sz) (fun (u : Unit) => w0)) (va_A w0 sz)) 0 0 (va_A w0 sz) := by
  refine Met.ofW (cc := cX9_isOf) (maxL := 3) (ret := (some .boolean)) (by decide) rfl ?_
  intro p e s m args below meth c s₁ B hml hv
  obtain ⟨rfl, hsz, hP, hK, hD0, hSD⟩ := hv
  have hx := B.exec
  have hb := B.bytes
  have hr := B.returns
  have hlocks := B.notSynchronized
  have hts : ∀ w ∈ gT, w.before _ s = true := fun w h => atoms_spec (ws := Cond.code yX9_isOf cX9_isOf 3 (some .boolean) :: gT) B.pre w (List.mem_cons_of_mem _ h)
  have hown : s.vm.findClass RX9 = some m.cls := findClass_of_methodNamed B.named
  subst hsz
  have hD := hD0.self (sz := s.heap.size)
  generalize hAe : va_A w0 s.heap.size = A at hD hSD ⊢
  have hA : ∀ q : Nat, s.heap.size ≤ q → A q := fun q h => by rw [← hAe]; exact Or.inr h
  have hl := lv_entry ([.ref p0, .int p1, .int p2]) (n := 3) (Nat.le_of_ble_eq_true rfl)
  rw [lg_entry_eq]
  generalize (lg_sl ([.ref p0, .int p1, .int p2]) ++ List.replicate (3 - (lg_sl ([.ref p0, .int p1, .int p2])).length) Slot.unset).toArray = ls at hl ⊢
  have hl : lv_has ls 3 [(0, .ref p0), (1, .int p1), (2, .int p2)] := hl
  refine nameQ (fun Q hQ => ?_)
  have hw : WD D cy GG A s wr_X9_isOf wa_X9_isOf Ps w0 Ps w0 s.heap [] := ⟨hT, hP, hD, va_S.rf, FR.rf, hT.1, [], (List.append_nil _).symm⟩
  refine lv_iload_n hx hb dX9_isOf_0 rfl (lv_at hl 2 rfl) ?_
  refine lv_if_lt (tgt := 24) hx hb dX9_isOf_1 (by decide) (fun c_1 => ?_) (fun c_1 => ?_)
  · have r_p2 : RI p2 (-2147483648) (-1) := rc_lt1 r_p2 rl_0 (ti_lt c_1) (by decide)
    refine lv_iconst (v := 0) hx hb dX9_isOf_24 (by decide) ?_
    subst hQ
    exact W.zret (v := 0) hx hb hr (rfl) (fun t ht hW => ⟨⟨0, (), rfl, ⟨rl_0.to (by decide), (fun h0 => trivial), (fun h0 => absurd rfl h0)⟩, by rw [ht]; exact hw.2.1, va_K.moved hW.alike hK, hw.2.2.1⟩, hw.2.2.2.1.F ht⟩) hw.2.2.2.1.2.2 dX9_isOf_25
  · have r_p2 : RI p2 0 2147483647 := rc_le2 rl_0 r_p2 (ti_nlt c_1) (by decide)
    refine lv_iload_n hx hb dX9_isOf_4 rfl (lv_at hl 2 rfl) ?_
    refine lv_aload_n hx hb dX9_isOf_5 rfl (lv_at hl 0 rfl) ?_
    refine tg_get (ci := 9) (ts := ty_WP) (C := RX9) (T := TX9) (N := 15) hx hb hts inX9 hown hK hw h_p0 rfl rfl 1 (by decide) (hts _ tw_347) (fun _ h9 => h9) (ft := vR 24) rfl dX9_isOf_6 (fun u_1 hv_u_1 m_u_1 => ?_)
    obtain ⟨vu_1, rfl, h_vu_1⟩ := hv_u_1
    refine tg_getN (ci := 8) (ts := ty_WORLD) (C := RX8) (T := TX8) (N := 13) hx hb hts inX8 hown hK hw h_vu_1 rfl rfl 0 (by decide) (hSD.nest tn_249) (fun _ h9 => h9) (ft := vR 25) rfl dX9_isOf_9 (fun u_2 hv_u_2 m_u_2 => ?_)
    obtain ⟨vu_2, rfl, h_vu_2⟩ := hv_u_2
    refine tg_getN (ci := 3) (ts := ty_POST) (C := RX3) (T := TX3) (N := 9) hx hb hts inX3 hown hK hw h_vu_2 rfl rfl 1 (by decide) (hSD.nest tn_204) (fun _ h9 => h9) (ft := vR 4) rfl dX9_isOf_12 (fun u_3 hv_u_3 m_u_3 => ?_)
    obtain ⟨vu_3, rfl, h_vu_3⟩ := hv_u_3
    refine lv_iload_n hx hb dX9_isOf_15 rfl (lv_at hl 1 rfl) ?_
    refine tg_iald (lo := 0) (hi := 6) hx hb hK hw h_vu_3 rfl 2 2 r_p1 (by decide) (by decide +kernel) dX9_isOf_16 (fun v_4 r_v_4 m_v_4 o_v_4 => ?_)
    refine lv_icmp_ge (tgt := 24) hx hb dX9_isOf_17 (by decide) (fun c_17 => ?_) (fun c_17 => ?_)
    · refine lv_iconst (v := 0) hx hb dX9_isOf_24 (by decide) ?_
      subst hQ
      exact W.zret (v := 0) hx hb hr (rfl) (fun t ht hW => ⟨⟨0, (), rfl, ⟨rl_0.to (by decide), (fun h0 => trivial), (fun h0 => absurd rfl h0)⟩, by rw [ht]; exact hw.2.1, va_K.moved hW.alike hK, hw.2.2.1⟩, hw.2.2.2.1.F ht⟩) hw.2.2.2.1.2.2 dX9_isOf_25
    · have r_p2 : RI p2 0 5 := rc_lt1 r_p2 r_v_4 (ti_nle c_17) (by decide)
      have r_v_4 : RI v_4 1 6 := rc_lt2 r_p2 r_v_4 (ti_nle c_17) (by decide)
      refine lv_iconst (v := 1) hx hb dX9_isOf_20 (by decide) ?_
      refine lv_goto (tgt := 25) hx hb dX9_isOf_21 (by decide) ?_
      subst hQ
      exact W.zret (v := 1) hx hb hr (rfl) (fun t ht hW => ⟨⟨1, (), rfl, ⟨rl_1.to (by decide), (fun _ => trivial), (fun h0 => ⟨r_p2, trivial⟩)⟩, by rw [ht]; exact hw.2.1, va_K.moved hW.alike hK, hw.2.2.1⟩, hw.2.2.2.1.F ht⟩) hw.2.2.2.1.2.2 dX9_isOf_25
abbrev wr_X9_isOf__1 : List (Nat × Nat) := []
abbrev wa_X9_isOf__1 : List Nat := []
set_option maxHeartbeats 4000000 in
set_option maxRecDepth 100000 in
theorem c_X9_isOf__1 (l : Launch) (D : va_G) (cy : Nat → ClassId) (z : Nat → Nat) (sz : Nat) (Ps : PSI) (w0 : va_W) (hT : HT cy GG Ps w0) (p0 : Nat) (p1 : Int32) (p2 : Int32) (h_p0 : (p0, 33) ∈ Ps) (r_p1 : RI p1 1 1) (r_p2 : RI p2 (-2147483648) 2147483647) : Met l yX9_isOf (Cond.code yX9_isOf cX9_isOf 3 (some .boolean) :: gT) ({ frames := 0, cells := 0, slots := 0, locals := 200 } : Room) (va_Pc [.ref p0, .int p1, .int p2] (PRE D cy z w0 sz)) (va_Qi (fun (r : Int32) (u : Unit) => RI r 0 1 ∧ (r = 0 → True) ∧ (¬ r = 0 → RI p2 0 3 ∧ True)) (BB D cy (va_A w0 sz) (fun (u : Unit) => w0)) (va_A w0 sz)) 0 0 (va_A w0 sz) := by
  refine Met.ofW (cc := cX9_isOf) (maxL := 3) (ret := (some .boolean)) (by decide) rfl ?_
  intro p e s m args below meth c s₁ B hml hv
  obtain ⟨rfl, hsz, hP, hK, hD0, hSD⟩ := hv
  have hx := B.exec
  have hb := B.bytes
  have hr := B.returns
  have hlocks := B.notSynchronized
  have hts : ∀ w ∈ gT, w.before _ s = true := fun w h => atoms_spec (ws := Cond.code yX9_isOf cX9_isOf 3 (some .boolean) :: gT) B.pre w (List.mem_cons_of_mem _ h)
  have hown : s.vm.findClass RX9 = some m.cls := findClass_of_methodNamed B.named
  subst hsz
  have hD := hD0.self (sz := s.heap.size)
  generalize hAe : va_A w0 s.heap.size = A at hD hSD ⊢
  have hA : ∀ q : Nat, s.heap.size ≤ q → A q := fun q h => by rw [← hAe]; exact Or.inr h
  have hl := lv_entry ([.ref p0, .int p1, .int p2]) (n := 3) (Nat.le_of_ble_eq_true rfl)
  rw [lg_entry_eq]
  generalize (lg_sl ([.ref p0, .int p1, .int p2]) ++ List.replicate (3 - (lg_sl ([.ref p0, .int p1, .int p2])).length) Slot.unset).toArray = ls at hl ⊢
  have hl : lv_has ls 3 [(0, .ref p0), (1, .int p1), (2, .int p2)] := hl
  refine nameQ (fun Q hQ => ?_)
  have hw : WD D cy GG A s wr_X9_isOf__1 wa_X9_isOf__1 Ps w0 Ps w0 s.heap [] := ⟨hT, hP, hD, va_S.rf, FR.rf, hT.1, [], (List.append_nil _).symm⟩
  refine lv_iload_n hx hb dX9_isOf_0 rfl (lv_at hl 2 rfl) ?_
  refine lv_if_lt (tgt := 24) hx hb dX9_isOf_1 (by decide) (fun c_1 => ?_) (fun c_1 => ?_)
  · have r_p2 : RI p2 (-2147483648) (-1) := rc_lt1 r_p2 rl_0 (ti_lt c_1) (by decide)
    refine lv_iconst (v := 0) hx hb dX9_isOf_24 (by decide) ?_
    subst hQ
    exact W.zret (v := 0) hx hb hr (rfl) (fun t ht hW => ⟨⟨0, (), rfl, ⟨rl_0.to (by decide), (fun h0 => trivial), (fun h0 => absurd rfl h0)⟩, by rw [ht]; exact hw.2.1, va_K.moved hW.alike hK, hw.2.2.1⟩, hw.2.2.2.1.F ht⟩) hw.2.2.2.1.2.2 dX9_isOf_25
  · have r_p2 : RI p2 0 2147483647 := rc_le2 rl_0 r_p2 (ti_nlt c_1) (by decide)
    refine lv_iload_n hx hb dX9_isOf_4 rfl (lv_at hl 2 rfl) ?_
    refine lv_aload_n hx hb dX9_isOf_5 rfl (lv_at hl 0 rfl) ?_
    refine tg_get (ci := 9) (ts := ty_WP) (C := RX9) (T := TX9) (N := 15) hx hb hts inX9 hown hK hw h_p0 rfl rfl 1 (by decide) (hts _ tw_347) (fun _ h9 => h9) (ft := vR 24) rfl dX9_isOf_6 (fun u_1 hv_u_1 m_u_1 => ?_)
    obtain ⟨vu_1, rfl, h_vu_1⟩ := hv_u_1
    refine tg_getN (ci := 8) (ts := ty_WORLD) (C := RX8) (T := TX8) (N := 13) hx hb hts inX8 hown hK hw h_vu_1 rfl rfl 0 (by decide) (hSD.nest tn_249) (fun _ h9 => h9) (ft := vR 25) rfl dX9_isOf_9 (fun u_2 hv_u_2 m_u_2 => ?_)
    obtain ⟨vu_2, rfl, h_vu_2⟩ := hv_u_2
    refine tg_getN (ci := 3) (ts := ty_POST) (C := RX3) (T := TX3) (N := 9) hx hb hts inX3 hown hK hw h_vu_2 rfl rfl 1 (by decide) (hSD.nest tn_204) (fun _ h9 => h9) (ft := vR 4) rfl dX9_isOf_12 (fun u_3 hv_u_3 m_u_3 => ?_)
    obtain ⟨vu_3, rfl, h_vu_3⟩ := hv_u_3
    refine lv_iload_n hx hb dX9_isOf_15 rfl (lv_at hl 1 rfl) ?_
    refine tg_iald (lo := 0) (hi := 4) hx hb hK hw h_vu_3 rfl 1 1 r_p1 (by decide) (by decide +kernel) dX9_isOf_16 (fun v_4 r_v_4 m_v_4 o_v_4 => ?_)
    refine lv_icmp_ge (tgt := 24) hx hb dX9_isOf_17 (by decide) (fun c_17 => ?_) (fun c_17 => ?_)
    · refine lv_iconst (v := 0) hx hb dX9_isOf_24 (by decide) ?_
      subst hQ
      exact W.zret (v := 0) hx hb hr (rfl) (fun t ht hW => ⟨⟨0, (), rfl, ⟨rl_0.to (by decide), (fun h0 => trivial), (fun h0 => absurd rfl h0)⟩, by rw [ht]; exact hw.2.1, va_K.moved hW.alike hK, hw.2.2.1⟩, hw.2.2.2.1.F ht⟩) hw.2.2.2.1.2.2 dX9_isOf_25
    · have r_p2 : RI p2 0 3 := rc_lt1 r_p2 r_v_4 (ti_nle c_17) (by decide)
      have r_v_4 : RI v_4 1 4 := rc_lt2 r_p2 r_v_4 (ti_nle c_17) (by decide)
      refine lv_iconst (v := 1) hx hb dX9_isOf_20 (by decide) ?_
      refine lv_goto (tgt := 25) hx hb dX9_isOf_21 (by decide) ?_
      subst hQ
      exact W.zret (v := 1) hx hb hr (rfl) (fun t ht hW => ⟨⟨1, (), rfl, ⟨rl_1.to (by decide), (fun _ => trivial), (fun h0 => ⟨r_p2, trivial⟩)⟩, by rw [ht]; exact hw.2.1, va_K.moved hW.alike hK, hw.2.2.1⟩, hw.2.2.2.1.F ht⟩) hw.2.2.2.1.2.2 dX9_isOf_25
abbrev wr_X9_keptIfDone : List (Nat × Nat) := [(1, 1), (1, 2)]
abbrev wa_X9_keptIfDone : List Nat := []
set_option maxHeartbeats 4000000 in
set_option maxRecDepth 100000 in
theorem c_X9_keptIfDone (l : Launch) (D : va_G) (cy : Nat → ClassId) (z : Nat → Nat) (sz : Nat) (Ps : PSI) (w0 : va_W) (hT : HT cy GG Ps w0) (p0 : Nat) (p1 : Int32) (h_p0 : (p0, 33) ∈ Ps) (r_p1 : RI p1 (-2147483648) 2147483647) : Met l yX9_keptIfDone (Cond.code yX9_keptIfDone cX9_keptIfDone 2 (some .int) :: gT) ({ frames := 3, cells := 0, slots := 0, locals := 600 } : Room) (va_Pc [.ref p0, .int p1] (PRE D cy z w0 sz)) (va_Qi (fun (r : Int32) (u : va_W) => (RI r (-2147483648) 2147483647 ∧ (r = 0 → True) ∧ (¬ r = 0 → True)) ∧ HT cy GG Ps u ∧ FR wr_X9_keptIfDone wa_X9_keptIfDone Ps w0 u) (BB D cy (va_A w0 sz) (fun (u : va_W) => u)) (va_A w0 sz)) 0 0 (va_A w0 sz) := by
  refine Met.ofW (cc := cX9_keptIfDone) (maxL := 2) (ret := (some .int)) (by decide) rfl ?_
  intro p e s m args below meth c s₁ B hml hv
  obtain ⟨rfl, hsz, hP, hK, hD0, hSD⟩ := hv
  have hx := B.exec
  have hb := B.bytes
  have hr := B.returns
  have hlocks := B.notSynchronized
  have hts : ∀ w ∈ gT, w.before _ s = true := fun w h => atoms_spec (ws := Cond.code yX9_keptIfDone cX9_keptIfDone 2 (some .int) :: gT) B.pre w (List.mem_cons_of_mem _ h)
  have hown : s.vm.findClass RX9 = some m.cls := findClass_of_methodNamed B.named
  subst hsz
  have hD := hD0.self (sz := s.heap.size)
  generalize hAe : va_A w0 s.heap.size = A at hD hSD ⊢
  have hA : ∀ q : Nat, s.heap.size ≤ q → A q := fun q h => by rw [← hAe]; exact Or.inr h
  have hl := lv_entry ([.ref p0, .int p1]) (n := 2) (Nat.le_of_ble_eq_true rfl)
  rw [lg_entry_eq]
  generalize (lg_sl ([.ref p0, .int p1]) ++ List.replicate (2 - (lg_sl ([.ref p0, .int p1])).length) Slot.unset).toArray = ls at hl ⊢
  have hl : lv_has ls 2 [(0, .ref p0), (1, .int p1)] := hl
  refine nameQ (fun Q hQ => ?_)
  have hw : WD D cy GG A s wr_X9_keptIfDone wa_X9_keptIfDone Ps w0 Ps w0 s.heap [] := ⟨hT, hP, hD, va_S.rf, FR.rf, hT.1, [], (List.append_nil _).symm⟩
  refine lv_iload_n hx hb dX9_keptIfDone_0 rfl (lv_at hl 1 rfl) ?_
  refine lv_if_ne (tgt := 11) hx hb dX9_keptIfDone_1 (by decide) (fun c_1 => ?_) (fun c_1 => ?_)
  · refine lv_iload_n hx hb dX9_keptIfDone_11 rfl (lv_at hl 1 rfl) ?_
    subst hQ
    exact W.iret (v := p1) hx hb hr (fun t ht hW => ⟨⟨p1, w0, rfl, ⟨⟨r_p1.to (by decide), (fun h0 => trivial), (fun h0 => trivial)⟩, hw.1, hw.2.2.2.2.1⟩, by rw [ht]; exact hw.2.1, va_K.moved hW.alike hK, hw.2.2.1⟩, hw.2.2.2.1.F ht⟩) hw.2.2.2.1.2.2 dX9_keptIfDone_12
  · have r_p1 : RI p1 0 0 := rc_eq1 r_p1 rl_0 (ti_eq c_1) (by decide)
    refine lv_aload_n hx hb dX9_keptIfDone_4 rfl (lv_at hl 0 rfl) ?_
    refine tg_get (ci := 9) (ts := ty_WP) (C := RX9) (T := TX9) (N := 15) hx hb hts inX9 hown hK hw h_p0 rfl rfl 3 (by decide) (hts _ tw_349) (fun _ h9 => h9) (ft := vR 27) rfl dX9_keptIfDone_5 (fun u_1 hv_u_1 m_u_1 => ?_)
    obtain ⟨vu_1, rfl, h_vu_1⟩ := hv_u_1
    refine tk_v (va_runV (As := []) (rest := []) ⟨hx, hb, hml, hown, hts⟩ (c_X1_keep l D cy z s.heap.size Ps w0 hw.1 vu_1 h_vu_1) (cwV 0 hts (gV tw_619 tw_620 tw_621 tw_13 tw_622) rfl rfl rfl (by decide +kernel) ⟨Nat.le_of_ble_eq_true rfl, Nat.le_of_ble_eq_true rfl⟩) (tg_preV hw hK hSD hA (ci := 1) (q := (RX1, TX1, 3)) rfl h_vu_1 rfl) rfl rfl hl.1 rfl (lv_room (Nat.le_of_ble_eq_true rfl)) dX9_keptIfDone_8 ⟨Nat.le_of_ble_eq_true rfl, Nat.le_of_ble_eq_true rfl⟩) hw hA ⟨by decide, by decide⟩ (fun ws H locs hp_v_2 hw hF9 => ?_)
    refine lv_iload_n hx hb dX9_keptIfDone_11 rfl (lv_at hl 1 rfl) ?_
    subst hQ
    exact W.iret (v := p1) hx hb hr (fun t ht hW => ⟨⟨p1, ws, rfl, ⟨⟨r_p1.to (by decide), (fun h0 => trivial), (fun _ => trivial)⟩, hw.1, hw.2.2.2.2.1⟩, by rw [ht]; exact hw.2.1, va_K.moved hW.alike hK, hw.2.2.1⟩, hw.2.2.2.1.F ht⟩) hw.2.2.2.1.2.2 dX9_keptIfDone_12
abbrev wr_X9_carry : List (Nat × Nat) := [(1, 1), (1, 2), (8, 0), (8, 1)]
abbrev wa_X9_carry : List Nat := [8, 9, 10, 11, 12, 13]
set_option maxHeartbeats 4000000 in
set_option maxRecDepth 100000 in
theorem c_X9_carry (l : Launch) (D : va_G) (cy : Nat → ClassId) (z : Nat → Nat) (sz : Nat) (Ps : PSI) (w0 : va_W) (hT : HT cy GG Ps w0) (p0 : Nat) (p1 : Int32) (p2 : Int32) (h_p0 : (p0, 33) ∈ Ps) (r_p1 : RI p1 (-2147483648) 2147483647) (r_p2 : RI p2 (-2147483648) 2147483647) : Met l yX9_carry (Cond.code yX9_carry cX9_carry 3 (some .int) :: gT) ({ frames := 4, cells := 0, slots := 0, locals := 800 } : Room) (va_Pc [.ref p0, .int p1, .int p2] (PRE D cy z w0 sz)) (va_Qi (fun (r : Int32) (u : va_W) => (RI r (-2147483648) 2147483647 ∧ (r = 0 → True) ∧ (¬ r = 0 → True)) ∧ HT cy GG Ps u ∧ FR wr_X9_carry wa_X9_carry Ps w0 u) (BB D cy (va_A w0 sz) (fun (u : va_W) => u)) (va_A w0 sz)) 0 0 (va_A w0 sz) := by
  refine Met.ofW (cc := cX9_carry) (maxL := 3) (ret := (some .int)) (by decide) rfl ?_
  intro p e s m args below meth c s₁ B hml hv
  obtain ⟨rfl, hsz, hP, hK, hD0, hSD⟩ := hv
  have hx := B.exec
  have hb := B.bytes
  have hr := B.returns
  have hlocks := B.notSynchronized
  have hts : ∀ w ∈ gT, w.before _ s = true := fun w h => atoms_spec (ws := Cond.code yX9_carry cX9_carry 3 (some .int) :: gT) B.pre w (List.mem_cons_of_mem _ h)
  have hown : s.vm.findClass RX9 = some m.cls := findClass_of_methodNamed B.named
  subst hsz
  have hD := hD0.self (sz := s.heap.size)
  generalize hAe : va_A w0 s.heap.size = A at hD hSD ⊢
  have hA : ∀ q : Nat, s.heap.size ≤ q → A q := fun q h => by rw [← hAe]; exact Or.inr h
  have hl := lv_entry ([.ref p0, .int p1, .int p2]) (n := 3) (Nat.le_of_ble_eq_true rfl)
  rw [lg_entry_eq]
  generalize (lg_sl ([.ref p0, .int p1, .int p2]) ++ List.replicate (3 - (lg_sl ([.ref p0, .int p1, .int p2])).length) Slot.unset).toArray = ls at hl ⊢
  have hl : lv_has ls 3 [(0, .ref p0), (1, .int p1), (2, .int p2)] := hl
  refine nameQ (fun Q hQ => ?_)
  have hw : WD D cy GG A s wr_X9_carry wa_X9_carry Ps w0 Ps w0 s.heap [] := ⟨hT, hP, hD, va_S.rf, FR.rf, hT.1, [], (List.append_nil _).symm⟩
  refine lv_aload_n hx hb dX9_carry_0 rfl (lv_at hl 0 rfl) ?_
  refine lv_iconst (v := 2) hx hb dX9_carry_1 (by decide) ?_
  refine lv_iload_n hx hb dX9_carry_2 rfl (lv_at hl 1 rfl) ?_
  refine tk_ir (va_runV (As := [.int 2, .int p1]) (rest := []) ⟨hx, hb, hml, hown, hts⟩ (c_X9_isOf l D cy z s.heap.size Ps w0 hw.1 p0 2 p1 h_p0 rl_2 r_p1) (cwV 2 hts (gV tw_540 tw_542 ts_10 tw_1 tw_543) rfl rfl rfl (by decide +kernel) ⟨Nat.le_of_ble_eq_true rfl, Nat.le_of_ble_eq_true rfl⟩) (tg_preV hw hK hSD hA (ci := 9) (q := (RX9, TX9, 15)) rfl h_p0 rfl) rfl rfl hl.1 rfl (lv_room (Nat.le_of_ble_eq_true rfl)) dX9_carry_3 ⟨Nat.le_of_ble_eq_true rfl, Nat.le_of_ble_eq_true rfl⟩) hw hA (fun v_1  H locs hp_v_1 hw => ?_)
  have r_v_1 : RI v_1 0 1 := hp_v_1.1
  refine lv_if_eq (tgt := 18) hx hb dX9_carry_6 (by decide) (fun c_6 => ?_) (fun c_6 => ?_)
  · have r_v_1 : RI v_1 0 0 := rc_eq1 r_v_1 rl_0 (ti_eq c_6) (by decide)
    refine lv_iconst (v := (-1)) hx hb dX9_carry_18 (by decide) ?_
    subst hQ
    exact W.iret (v := (-1)) hx hb hr (fun t ht hW => ⟨⟨(-1), w0, rfl, ⟨⟨rl_m1.to (by decide), (fun _ => trivial), (fun h0 => trivial)⟩, hw.1, hw.2.2.2.2.1⟩, by rw [ht]; exact hw.2.1, va_K.moved hW.alike hK, hw.2.2.1⟩, hw.2.2.2.1.F ht⟩) hw.2.2.2.1.2.2 dX9_carry_19
  · have r_v_1 : RI v_1 1 1 := rc_neL r_v_1 rl_0 (ti_ne c_6) (by decide)
    have r_p1 : RI p1 0 5 := ((hp_v_1.2.2 c_6).1)
    refine lv_aload_n hx hb dX9_carry_9 rfl (lv_at hl 0 rfl) ?_
    refine lv_iconst (v := 1) hx hb dX9_carry_10 (by decide) ?_
    refine lv_iload_n hx hb dX9_carry_11 rfl (lv_at hl 2 rfl) ?_
    refine tk_ir (va_runV (As := [.int 1, .int p2]) (rest := []) ⟨hx, hb, hml, hown, hts⟩ (c_X9_isOf__1 l D cy z H.size Ps w0 hw.1 p0 1 p2 h_p0 rl_1 r_p2) (cwV 2 hts (gV tw_540 tw_542 ts_10 tw_1 tw_543) rfl rfl rfl (by decide +kernel) ⟨Nat.le_of_ble_eq_true rfl, Nat.le_of_ble_eq_true rfl⟩) (tg_preV hw hK hSD hA (ci := 9) (q := (RX9, TX9, 15)) rfl h_p0 rfl) rfl rfl hl.1 rfl (lv_room (Nat.le_of_ble_eq_true rfl)) dX9_carry_12 ⟨Nat.le_of_ble_eq_true rfl, Nat.le_of_ble_eq_true rfl⟩) hw hA (fun v_2  H locs hp_v_2 hw => ?_)
    have r_v_2 : RI v_2 0 1 := hp_v_2.1
    refine lv_if_ne (tgt := 20) hx hb dX9_carry_15 (by decide) (fun c_15 => ?_) (fun c_15 => ?_)
    · have r_v_2 : RI v_2 1 1 := rc_neL r_v_2 rl_0 (ti_ne c_15) (by decide)
      have r_p2 : RI p2 0 3 := ((hp_v_2.2.2 c_15).1)
      refine lv_aload_n hx hb dX9_carry_20 rfl (lv_at hl 0 rfl) ?_
      refine tg_get (ci := 9) (ts := ty_WP) (C := RX9) (T := TX9) (N := 15) hx hb hts inX9 hown hK hw h_p0 rfl rfl 3 (by decide) (hts _ tw_349) (fun _ h9 => h9) (ft := vR 27) rfl dX9_carry_21 (fun u_3 hv_u_3 m_u_3 => ?_)
      obtain ⟨vu_3, rfl, h_vu_3⟩ := hv_u_3
      refine lv_aload_n hx hb dX9_carry_24 rfl (lv_at hl 0 rfl) ?_
      refine tg_get (ci := 9) (ts := ty_WP) (C := RX9) (T := TX9) (N := 15) hx hb hts inX9 hown hK hw h_p0 rfl rfl 1 (by decide) (hts _ tw_347) (fun _ h9 => h9) (ft := vR 24) rfl dX9_carry_25 (fun u_4 hv_u_4 m_u_4 => ?_)
      obtain ⟨vu_4, rfl, h_vu_4⟩ := hv_u_4
      refine tk_v (va_runV (As := [.ref vu_4]) (rest := []) ⟨hx, hb, hml, hown, hts⟩ (c_X1_prepare l D cy z H.size Ps w0 hw.1 vu_3 vu_4 h_vu_3 h_vu_4) (cwV 1 hts (gV tw_606 tw_607 tw_608 tw_13 tw_609) rfl rfl rfl (by decide +kernel) ⟨Nat.le_of_ble_eq_true rfl, Nat.le_of_ble_eq_true rfl⟩) (tg_preV hw hK hSD hA (ci := 1) (q := (RX1, TX1, 3)) rfl h_vu_3 rfl) rfl rfl hl.1 rfl (lv_room (Nat.le_of_ble_eq_true rfl)) dX9_carry_28 ⟨Nat.le_of_ble_eq_true rfl, Nat.le_of_ble_eq_true rfl⟩) hw hA ⟨by decide, by decide⟩ (fun ws H locs hp_v_5 hw hF9 => ?_)
      refine lv_aload_n hx hb dX9_carry_31 rfl (lv_at hl 0 rfl) ?_
      refine lv_aload_n hx hb dX9_carry_32 rfl (lv_at hl 0 rfl) ?_
      refine tg_get (ci := 9) (ts := ty_WP) (C := RX9) (T := TX9) (N := 15) hx hb hts inX9 hown hK hw h_p0 rfl rfl 1 (by decide) (hts _ tw_347) (fun _ h9 => h9) (ft := vR 24) rfl dX9_carry_33 (fun u_6 hv_u_6 m_u_6 => ?_)
      obtain ⟨vu_6, rfl, h_vu_6⟩ := hv_u_6
      refine lv_iload_n hx hb dX9_carry_36 rfl (lv_at hl 1 rfl) ?_
      refine lv_iload_n hx hb dX9_carry_37 rfl (lv_at hl 2 rfl) ?_
      refine tk_i (va_runV (As := [.int p1, .int p2]) (rest := [.ref p0]) ⟨hx, hb, hml, hown, hts⟩ (c_X8_carryTo l D cy z H.size Ps ws hw.1 vu_6 p1 p2 h_vu_6 r_p1 (r_p2.to (by decide))) (cwV 2 hts (gV tw_669 tw_670 tw_671 tw_12 tw_672) rfl rfl rfl (by decide +kernel) ⟨Nat.le_of_ble_eq_true rfl, Nat.le_of_ble_eq_true rfl⟩) (tg_preV hw hK hSD hA (ci := 8) (q := (RX8, TX8, 13)) rfl h_vu_6 rfl) rfl rfl hl.1 rfl (lv_room (Nat.le_of_ble_eq_true rfl)) dX9_carry_38 ⟨Nat.le_of_ble_eq_true rfl, Nat.le_of_ble_eq_true rfl⟩) hw hA ⟨by decide, by decide⟩ (fun v_7 ws H locs hp_v_7 hw hF9 => ?_)
      have r_v_7 : RI v_7 0 2 := hp_v_7.1
      refine tk_i (va_runV (As := [.int v_7]) (rest := []) ⟨hx, hb, hml, hown, hts⟩ (c_X9_keptIfDone l D cy z H.size Ps ws hw.1 p0 v_7 h_p0 (r_v_7.to (by decide))) (cwV 1 hts (gV tw_615 tw_617 ts_12 tw_1 tw_618) rfl rfl rfl (by decide +kernel) ⟨Nat.le_of_ble_eq_true rfl, Nat.le_of_ble_eq_true rfl⟩) (tg_preV hw hK hSD hA (ci := 9) (q := (RX9, TX9, 15)) rfl h_p0 rfl) rfl rfl hl.1 rfl (lv_room (Nat.le_of_ble_eq_true rfl)) dX9_carry_41 ⟨Nat.le_of_ble_eq_true rfl, Nat.le_of_ble_eq_true rfl⟩) hw hA ⟨by decide, by decide⟩ (fun v_8 ws H locs hp_v_8 hw hF9 => ?_)
      have r_v_8 : RI v_8 (-2147483648) 2147483647 := hp_v_8.1
      subst hQ
      exact W.iret (v := v_8) hx hb hr (fun t ht hW => ⟨⟨v_8, ws, rfl, ⟨⟨r_v_8.to (by decide), (fun h0 => trivial), (fun h0 => trivial)⟩, hw.1, hw.2.2.2.2.1⟩, by rw [ht]; exact hw.2.1, va_K.moved hW.alike hK, hw.2.2.1⟩, hw.2.2.2.1.F ht⟩) hw.2.2.2.1.2.2 dX9_carry_44
    · have r_v_2 : RI v_2 0 0 := rc_eq1 r_v_2 rl_0 (ti_eq c_15) (by decide)
      refine lv_iconst (v := (-1)) hx hb dX9_carry_18 (by decide) ?_
      subst hQ
      exact W.iret (v := (-1)) hx hb hr (fun t ht hW => ⟨⟨(-1), w0, rfl, ⟨⟨rl_m1.to (by decide), (fun _ => trivial), (fun h0 => trivial)⟩, hw.1, hw.2.2.2.2.1⟩, by rw [ht]; exact hw.2.1, va_K.moved hW.alike hK, hw.2.2.1⟩, hw.2.2.2.1.F ht⟩) hw.2.2.2.1.2.2 dX9_carry_19
abbrev wr_X9_count : List (Nat × Nat) := []
abbrev wa_X9_count : List Nat := []
set_option maxHeartbeats 4000000 in
set_option maxRecDepth 100000 in
theorem c_X9_count (l : Launch) (D : va_G) (cy : Nat → ClassId) (z : Nat → Nat) (sz : Nat) (Ps : PSI) (w0 : va_W) (hT : HT cy GG Ps w0) (p0 : Nat) (p1 : Int32) (h_p0 : (p0, 33) ∈ Ps) (r_p1 : RI p1 (-2147483648) 2147483647) : Met l yX9_count (Cond.code yX9_count cX9_count 2 (some .int) :: gT) ({ frames := 0, cells := 0, slots := 0, locals := 200 } : Room) (va_Pc [.ref p0, .int p1] (PRE D cy z w0 sz)) (va_Qi (fun (r : Int32) (u : Unit) => RI r (-2147483648) 2147483647 ∧ (r = 0 → True) ∧ (¬ r = 0 → True)) (BB D cy (va_A w0 sz) (fun (u : Unit) => w0)) (va_A w0 sz)) 0 0 (va_A w0 sz) := by
  refine Met.ofW (cc := cX9_count) (maxL := 2) (ret := (some .int)) (by decide) rfl ?_
  intro p e s m args below meth c s₁ B hml hv
  obtain ⟨rfl, hsz, hP, hK, hD0, hSD⟩ := hv
  have hx := B.exec
  have hb := B.bytes
  have hr := B.returns
  have hlocks := B.notSynchronized
  have hts : ∀ w ∈ gT, w.before _ s = true := fun w h => atoms_spec (ws := Cond.code yX9_count cX9_count 2 (some .int) :: gT) B.pre w (List.mem_cons_of_mem _ h)
  have hown : s.vm.findClass RX9 = some m.cls := findClass_of_methodNamed B.named
  subst hsz
  have hD := hD0.self (sz := s.heap.size)
  generalize hAe : va_A w0 s.heap.size = A at hD hSD ⊢
  have hA : ∀ q : Nat, s.heap.size ≤ q → A q := fun q h => by rw [← hAe]; exact Or.inr h
  have hl := lv_entry ([.ref p0, .int p1]) (n := 2) (Nat.le_of_ble_eq_true rfl)
  rw [lg_entry_eq]
  generalize (lg_sl ([.ref p0, .int p1]) ++ List.replicate (2 - (lg_sl ([.ref p0, .int p1])).length) Slot.unset).toArray = ls at hl ⊢
  have hl : lv_has ls 2 [(0, .ref p0), (1, .int p1)] := hl
  refine nameQ (fun Q hQ => ?_)
  have hw : WD D cy GG A s wr_X9_count wa_X9_count Ps w0 Ps w0 s.heap [] := ⟨hT, hP, hD, va_S.rf, FR.rf, hT.1, [], (List.append_nil _).symm⟩
  refine lv_iload_n hx hb dX9_count_0 rfl (lv_at hl 1 rfl) ?_
  have w_1 := r_p1
  by_cases cl_1 : p1.toInt < 0 ∨ 6 < p1.toInt
  · refine lv_tableOut (tgt := 126) hx hb dX9_count_1 cl_1 (by decide) ?_
    refine lv_iconst (v := (-1)) hx hb dX9_count_126 (by decide) ?_
    subst hQ
    exact W.iret (v := (-1)) hx hb hr (fun t ht hW => ⟨⟨(-1), (), rfl, ⟨rl_m1.to (by decide), (fun _ => trivial), (fun h0 => trivial)⟩, by rw [ht]; exact hw.2.1, va_K.moved hW.alike hK, hw.2.2.1⟩, hw.2.2.2.1.F ht⟩) hw.2.2.2.1.2.2 dX9_count_127
  · have e_1 : p1.toInt = 0 ∨ p1.toInt = 1 ∨ p1.toInt = 2 ∨ p1.toInt = 3 ∨ p1.toInt = 4 ∨ p1.toInt = 5 ∨ p1.toInt = 6 := by omega
    rcases e_1 with h_1 | h_1 | h_1 | h_1 | h_1 | h_1 | h_1
    · refine lv_tableIn (tgt := 44) (off := 43) hx hb dX9_count_1 (by omega) (by omega) (by rw [h_1]; rfl) (by decide) ?_
      have r_p1 : RI p1 0 0 := ⟨by omega, by omega⟩
      refine lv_aload_n hx hb dX9_count_44 rfl (lv_at hl 0 rfl) ?_
      refine tg_get (ci := 9) (ts := ty_WP) (C := RX9) (T := TX9) (N := 15) hx hb hts inX9 hown hK hw h_p0 rfl rfl 1 (by decide) (hts _ tw_347) (fun _ h9 => h9) (ft := vR 24) rfl dX9_count_45 (fun u_1 hv_u_1 m_u_1 => ?_)
      obtain ⟨vu_1, rfl, h_vu_1⟩ := hv_u_1
      refine tg_getN (ci := 8) (ts := ty_WORLD) (C := RX8) (T := TX8) (N := 13) hx hb hts inX8 hown hK hw h_vu_1 rfl rfl 0 (by decide) (hSD.nest tn_249) (fun _ h9 => h9) (ft := vR 25) rfl dX9_count_48 (fun u_2 hv_u_2 m_u_2 => ?_)
      obtain ⟨vu_2, rfl, h_vu_2⟩ := hv_u_2
      refine tg_getN (ci := 3) (ts := ty_POST) (C := RX3) (T := TX3) (N := 9) hx hb hts inX3 hown hK hw h_vu_2 rfl rfl 1 (by decide) (hSD.nest tn_204) (fun _ h9 => h9) (ft := vR 4) rfl dX9_count_51 (fun u_3 hv_u_3 m_u_3 => ?_)
      obtain ⟨vu_3, rfl, h_vu_3⟩ := hv_u_3
      refine lv_iconst (v := 0) hx hb dX9_count_54 (by decide) ?_
      refine tg_iald (lo := 0) (hi := 6) hx hb hK hw h_vu_3 rfl 0 0 rl_0 (by decide) (by decide +kernel) dX9_count_55 (fun v_4 r_v_4 m_v_4 o_v_4 => ?_)
      subst hQ
      exact W.iret (v := v_4) hx hb hr (fun t ht hW => ⟨⟨v_4, (), rfl, ⟨r_v_4.to (by decide), (fun h0 => trivial), (fun h0 => trivial)⟩, by rw [ht]; exact hw.2.1, va_K.moved hW.alike hK, hw.2.2.1⟩, hw.2.2.2.1.F ht⟩) hw.2.2.2.1.2.2 dX9_count_56
    · refine lv_tableIn (tgt := 57) (off := 56) hx hb dX9_count_1 (by omega) (by omega) (by rw [h_1]; rfl) (by decide) ?_
      have r_p1 : RI p1 1 1 := ⟨by omega, by omega⟩
      refine lv_aload_n hx hb dX9_count_57 rfl (lv_at hl 0 rfl) ?_
      refine tg_get (ci := 9) (ts := ty_WP) (C := RX9) (T := TX9) (N := 15) hx hb hts inX9 hown hK hw h_p0 rfl rfl 1 (by decide) (hts _ tw_347) (fun _ h9 => h9) (ft := vR 24) rfl dX9_count_58 (fun u_5 hv_u_5 m_u_5 => ?_)
      obtain ⟨vu_5, rfl, h_vu_5⟩ := hv_u_5
      refine tg_getN (ci := 8) (ts := ty_WORLD) (C := RX8) (T := TX8) (N := 13) hx hb hts inX8 hown hK hw h_vu_5 rfl rfl 0 (by decide) (hSD.nest tn_249) (fun _ h9 => h9) (ft := vR 25) rfl dX9_count_61 (fun u_6 hv_u_6 m_u_6 => ?_)
      obtain ⟨vu_6, rfl, h_vu_6⟩ := hv_u_6
      refine tg_getN (ci := 3) (ts := ty_POST) (C := RX3) (T := TX3) (N := 9) hx hb hts inX3 hown hK hw h_vu_6 rfl rfl 1 (by decide) (hSD.nest tn_204) (fun _ h9 => h9) (ft := vR 4) rfl dX9_count_64 (fun u_7 hv_u_7 m_u_7 => ?_)
      obtain ⟨vu_7, rfl, h_vu_7⟩ := hv_u_7
      refine lv_iconst (v := 1) hx hb dX9_count_67 (by decide) ?_
      refine tg_iald (lo := 0) (hi := 4) hx hb hK hw h_vu_7 rfl 1 1 rl_1 (by decide) (by decide +kernel) dX9_count_68 (fun v_8 r_v_8 m_v_8 o_v_8 => ?_)
      subst hQ
      exact W.iret (v := v_8) hx hb hr (fun t ht hW => ⟨⟨v_8, (), rfl, ⟨r_v_8.to (by decide), (fun h0 => trivial), (fun h0 => trivial)⟩, by rw [ht]; exact hw.2.1, va_K.moved hW.alike hK, hw.2.2.1⟩, hw.2.2.2.1.F ht⟩) hw.2.2.2.1.2.2 dX9_count_69
    · refine lv_tableIn (tgt := 70) (off := 69) hx hb dX9_count_1 (by omega) (by omega) (by rw [h_1]; rfl) (by decide) ?_
      have r_p1 : RI p1 2 2 := ⟨by omega, by omega⟩
      refine lv_aload_n hx hb dX9_count_70 rfl (lv_at hl 0 rfl) ?_
      refine tg_get (ci := 9) (ts := ty_WP) (C := RX9) (T := TX9) (N := 15) hx hb hts inX9 hown hK hw h_p0 rfl rfl 1 (by decide) (hts _ tw_347) (fun _ h9 => h9) (ft := vR 24) rfl dX9_count_71 (fun u_9 hv_u_9 m_u_9 => ?_)
      obtain ⟨vu_9, rfl, h_vu_9⟩ := hv_u_9
      refine tg_getN (ci := 8) (ts := ty_WORLD) (C := RX8) (T := TX8) (N := 13) hx hb hts inX8 hown hK hw h_vu_9 rfl rfl 0 (by decide) (hSD.nest tn_249) (fun _ h9 => h9) (ft := vR 25) rfl dX9_count_74 (fun u_10 hv_u_10 m_u_10 => ?_)
      obtain ⟨vu_10, rfl, h_vu_10⟩ := hv_u_10
      refine tg_getN (ci := 3) (ts := ty_POST) (C := RX3) (T := TX3) (N := 9) hx hb hts inX3 hown hK hw h_vu_10 rfl rfl 1 (by decide) (hSD.nest tn_204) (fun _ h9 => h9) (ft := vR 4) rfl dX9_count_77 (fun u_11 hv_u_11 m_u_11 => ?_)
      obtain ⟨vu_11, rfl, h_vu_11⟩ := hv_u_11
      refine lv_iconst (v := 2) hx hb dX9_count_80 (by decide) ?_
      refine tg_iald (lo := 0) (hi := 6) hx hb hK hw h_vu_11 rfl 2 2 rl_2 (by decide) (by decide +kernel) dX9_count_81 (fun v_12 r_v_12 m_v_12 o_v_12 => ?_)
      subst hQ
      exact W.iret (v := v_12) hx hb hr (fun t ht hW => ⟨⟨v_12, (), rfl, ⟨r_v_12.to (by decide), (fun h0 => trivial), (fun h0 => trivial)⟩, by rw [ht]; exact hw.2.1, va_K.moved hW.alike hK, hw.2.2.1⟩, hw.2.2.2.1.F ht⟩) hw.2.2.2.1.2.2 dX9_count_82
    · refine lv_tableIn (tgt := 83) (off := 82) hx hb dX9_count_1 (by omega) (by omega) (by rw [h_1]; rfl) (by decide) ?_
      have r_p1 : RI p1 3 3 := ⟨by omega, by omega⟩
      refine lv_aload_n hx hb dX9_count_83 rfl (lv_at hl 0 rfl) ?_
      refine tg_get (ci := 9) (ts := ty_WP) (C := RX9) (T := TX9) (N := 15) hx hb hts inX9 hown hK hw h_p0 rfl rfl 1 (by decide) (hts _ tw_347) (fun _ h9 => h9) (ft := vR 24) rfl dX9_count_84 (fun u_13 hv_u_13 m_u_13 => ?_)
      obtain ⟨vu_13, rfl, h_vu_13⟩ := hv_u_13
      refine tg_getN (ci := 8) (ts := ty_WORLD) (C := RX8) (T := TX8) (N := 13) hx hb hts inX8 hown hK hw h_vu_13 rfl rfl 0 (by decide) (hSD.nest tn_249) (fun _ h9 => h9) (ft := vR 25) rfl dX9_count_87 (fun u_14 hv_u_14 m_u_14 => ?_)
      obtain ⟨vu_14, rfl, h_vu_14⟩ := hv_u_14
      refine tg_getN (ci := 3) (ts := ty_POST) (C := RX3) (T := TX3) (N := 9) hx hb hts inX3 hown hK hw h_vu_14 rfl rfl 1 (by decide) (hSD.nest tn_204) (fun _ h9 => h9) (ft := vR 4) rfl dX9_count_90 (fun u_15 hv_u_15 m_u_15 => ?_)
      obtain ⟨vu_15, rfl, h_vu_15⟩ := hv_u_15
      refine lv_iconst (v := 3) hx hb dX9_count_93 (by decide) ?_
      refine tg_iald (lo := 0) (hi := 8) hx hb hK hw h_vu_15 rfl 3 3 rl_3 (by decide) (by decide +kernel) dX9_count_94 (fun v_16 r_v_16 m_v_16 o_v_16 => ?_)
      subst hQ
      exact W.iret (v := v_16) hx hb hr (fun t ht hW => ⟨⟨v_16, (), rfl, ⟨r_v_16.to (by decide), (fun h0 => trivial), (fun h0 => trivial)⟩, by rw [ht]; exact hw.2.1, va_K.moved hW.alike hK, hw.2.2.1⟩, hw.2.2.2.1.F ht⟩) hw.2.2.2.1.2.2 dX9_count_95
    · refine lv_tableIn (tgt := 96) (off := 95) hx hb dX9_count_1 (by omega) (by omega) (by rw [h_1]; rfl) (by decide) ?_
      have r_p1 : RI p1 4 4 := ⟨by omega, by omega⟩
      refine lv_aload_n hx hb dX9_count_96 rfl (lv_at hl 0 rfl) ?_
      refine tg_get (ci := 9) (ts := ty_WP) (C := RX9) (T := TX9) (N := 15) hx hb hts inX9 hown hK hw h_p0 rfl rfl 1 (by decide) (hts _ tw_347) (fun _ h9 => h9) (ft := vR 24) rfl dX9_count_97 (fun u_17 hv_u_17 m_u_17 => ?_)
      obtain ⟨vu_17, rfl, h_vu_17⟩ := hv_u_17
      refine tg_getN (ci := 8) (ts := ty_WORLD) (C := RX8) (T := TX8) (N := 13) hx hb hts inX8 hown hK hw h_vu_17 rfl rfl 0 (by decide) (hSD.nest tn_249) (fun _ h9 => h9) (ft := vR 25) rfl dX9_count_100 (fun u_18 hv_u_18 m_u_18 => ?_)
      obtain ⟨vu_18, rfl, h_vu_18⟩ := hv_u_18
      refine tg_getN (ci := 3) (ts := ty_POST) (C := RX3) (T := TX3) (N := 9) hx hb hts inX3 hown hK hw h_vu_18 rfl rfl 5 (by decide) (hSD.nest tn_215) (fun _ h9 => h9) (ft := vI (-2147483648) 2147483647) rfl dX9_count_103 (fun u_19 hv_u_19 m_u_19 => ?_)
      obtain ⟨vu_19, rfl, r_vu_19⟩ := hv_u_19
      subst hQ
      exact W.iret (v := vu_19) hx hb hr (fun t ht hW => ⟨⟨vu_19, (), rfl, ⟨r_vu_19.to (by decide), (fun h0 => trivial), (fun h0 => trivial)⟩, by rw [ht]; exact hw.2.1, va_K.moved hW.alike hK, hw.2.2.1⟩, hw.2.2.2.1.F ht⟩) hw.2.2.2.1.2.2 dX9_count_106
    · refine lv_tableIn (tgt := 107) (off := 106) hx hb dX9_count_1 (by omega) (by omega) (by rw [h_1]; rfl) (by decide) ?_
      have r_p1 : RI p1 5 5 := ⟨by omega, by omega⟩
      refine lv_aload_n hx hb dX9_count_107 rfl (lv_at hl 0 rfl) ?_
      refine tg_get (ci := 9) (ts := ty_WP) (C := RX9) (T := TX9) (N := 15) hx hb hts inX9 hown hK hw h_p0 rfl rfl 1 (by decide) (hts _ tw_347) (fun _ h9 => h9) (ft := vR 24) rfl dX9_count_108 (fun u_20 hv_u_20 m_u_20 => ?_)
      obtain ⟨vu_20, rfl, h_vu_20⟩ := hv_u_20
      refine tg_getN (ci := 8) (ts := ty_WORLD) (C := RX8) (T := TX8) (N := 13) hx hb hts inX8 hown hK hw h_vu_20 rfl rfl 0 (by decide) (hSD.nest tn_249) (fun _ h9 => h9) (ft := vR 25) rfl dX9_count_111 (fun u_21 hv_u_21 m_u_21 => ?_)
      obtain ⟨vu_21, rfl, h_vu_21⟩ := hv_u_21
      refine tg_getN (ci := 3) (ts := ty_POST) (C := RX3) (T := TX3) (N := 9) hx hb hts inX3 hown hK hw h_vu_21 rfl rfl 6 (by decide) (hSD.nest tn_218) (fun _ h9 => h9) (ft := vI (-2147483648) 2147483647) rfl dX9_count_114 (fun u_22 hv_u_22 m_u_22 => ?_)
      obtain ⟨vu_22, rfl, r_vu_22⟩ := hv_u_22
      subst hQ
      exact W.iret (v := vu_22) hx hb hr (fun t ht hW => ⟨⟨vu_22, (), rfl, ⟨r_vu_22.to (by decide), (fun h0 => trivial), (fun h0 => trivial)⟩, by rw [ht]; exact hw.2.1, va_K.moved hW.alike hK, hw.2.2.1⟩, hw.2.2.2.1.F ht⟩) hw.2.2.2.1.2.2 dX9_count_117
    · refine lv_tableIn (tgt := 118) (off := 117) hx hb dX9_count_1 (by omega) (by omega) (by rw [h_1]; rfl) (by decide) ?_
      have r_p1 : RI p1 6 6 := ⟨by omega, by omega⟩
      refine lv_aload_n hx hb dX9_count_118 rfl (lv_at hl 0 rfl) ?_
      refine tg_get (ci := 9) (ts := ty_WP) (C := RX9) (T := TX9) (N := 15) hx hb hts inX9 hown hK hw h_p0 rfl rfl 0 (by decide) (hts _ tw_346) (fun _ h9 => h9) (ft := vR 26) rfl dX9_count_119 (fun u_23 hv_u_23 m_u_23 => ?_)
      obtain ⟨vu_23, rfl, h_vu_23⟩ := hv_u_23
      refine tg_getN (ci := 7) (ts := ty_TAPE) (C := RX7) (T := TX7) (N := 12) hx hb hts inX7 hown hK hw h_vu_23 rfl rfl 2 (by decide) (hSD.nest tn_90) (fun _ h9 => h9) (ft := vI 0 940) rfl dX9_count_122 (fun u_24 hv_u_24 m_u_24 => ?_)
      obtain ⟨vu_24, rfl, r_vu_24⟩ := hv_u_24
      subst hQ
      exact W.iret (v := vu_24) hx hb hr (fun t ht hW => ⟨⟨vu_24, (), rfl, ⟨r_vu_24.to (by decide), (fun h0 => trivial), (fun h0 => trivial)⟩, by rw [ht]; exact hw.2.1, va_K.moved hW.alike hK, hw.2.2.1⟩, hw.2.2.2.1.F ht⟩) hw.2.2.2.1.2.2 dX9_count_125
abbrev wr_X9_keptIfSome : List (Nat × Nat) := [(1, 1), (1, 2)]
abbrev wa_X9_keptIfSome : List Nat := []
set_option maxHeartbeats 4000000 in
set_option maxRecDepth 100000 in
theorem c_X9_keptIfSome (l : Launch) (D : va_G) (cy : Nat → ClassId) (z : Nat → Nat) (sz : Nat) (Ps : PSI) (w0 : va_W) (hT : HT cy GG Ps w0) (p0 : Nat) (p1 : Int32) (h_p0 : (p0, 33) ∈ Ps) (r_p1 : RI p1 (-2147483648) 2147483647) : Met l yX9_keptIfSome (Cond.code yX9_keptIfSome cX9_keptIfSome 2 (some .int) :: gT) ({ frames := 3, cells := 0, slots := 0, locals := 600 } : Room) (va_Pc [.ref p0, .int p1] (PRE D cy z w0 sz)) (va_Qi (fun (r : Int32) (u : va_W) => (RI r (-2147483648) 2147483647 ∧ (r = 0 → RI p1 (-2147483648) 0 ∧ True) ∧ (¬ r = 0 → True)) ∧ HT cy GG Ps u ∧ FR wr_X9_keptIfSome wa_X9_keptIfSome Ps w0 u) (BB D cy (va_A w0 sz) (fun (u : va_W) => u)) (va_A w0 sz)) 0 0 (va_A w0 sz) := by
  refine Met.ofW (cc := cX9_keptIfSome) (maxL := 2) (ret := (some .int)) (by decide) rfl ?_
  intro p e s m args below meth c s₁ B hml hv
  obtain ⟨rfl, hsz, hP, hK, hD0, hSD⟩ := hv
  have hx := B.exec
  have hb := B.bytes
  have hr := B.returns
  have hlocks := B.notSynchronized
  have hts : ∀ w ∈ gT, w.before _ s = true := fun w h => atoms_spec (ws := Cond.code yX9_keptIfSome cX9_keptIfSome 2 (some .int) :: gT) B.pre w (List.mem_cons_of_mem _ h)
  have hown : s.vm.findClass RX9 = some m.cls := findClass_of_methodNamed B.named
  subst hsz
  have hD := hD0.self (sz := s.heap.size)
  generalize hAe : va_A w0 s.heap.size = A at hD hSD ⊢
  have hA : ∀ q : Nat, s.heap.size ≤ q → A q := fun q h => by rw [← hAe]; exact Or.inr h
  have hl := lv_entry ([.ref p0, .int p1]) (n := 2) (Nat.le_of_ble_eq_true rfl)
  rw [lg_entry_eq]
  generalize (lg_sl ([.ref p0, .int p1]) ++ List.replicate (2 - (lg_sl ([.ref p0, .int p1])).length) Slot.unset).toArray = ls at hl ⊢
  have hl : lv_has ls 2 [(0, .ref p0), (1, .int p1)] := hl
  refine nameQ (fun Q hQ => ?_)
  have hw : WD D cy GG A s wr_X9_keptIfSome wa_X9_keptIfSome Ps w0 Ps w0 s.heap [] := ⟨hT, hP, hD, va_S.rf, FR.rf, hT.1, [], (List.append_nil _).symm⟩
  refine lv_iload_n hx hb dX9_keptIfSome_0 rfl (lv_at hl 1 rfl) ?_
  refine lv_if_le (tgt := 11) hx hb dX9_keptIfSome_1 (by decide) (fun c_1 => ?_) (fun c_1 => ?_)
  · have r_p1 : RI p1 (-2147483648) 0 := rc_le1 r_p1 rl_0 (ti_le c_1) (by decide)
    refine lv_iload_n hx hb dX9_keptIfSome_11 rfl (lv_at hl 1 rfl) ?_
    subst hQ
    exact W.iret (v := p1) hx hb hr (fun t ht hW => ⟨⟨p1, w0, rfl, ⟨⟨r_p1.to (by decide), (fun h0 => ⟨r_p1, trivial⟩), (fun h0 => trivial)⟩, hw.1, hw.2.2.2.2.1⟩, by rw [ht]; exact hw.2.1, va_K.moved hW.alike hK, hw.2.2.1⟩, hw.2.2.2.1.F ht⟩) hw.2.2.2.1.2.2 dX9_keptIfSome_12
  · have r_p1 : RI p1 1 2147483647 := rc_lt2 rl_0 r_p1 (ti_nle c_1) (by decide)
    refine lv_aload_n hx hb dX9_keptIfSome_4 rfl (lv_at hl 0 rfl) ?_
    refine tg_get (ci := 9) (ts := ty_WP) (C := RX9) (T := TX9) (N := 15) hx hb hts inX9 hown hK hw h_p0 rfl rfl 3 (by decide) (hts _ tw_349) (fun _ h9 => h9) (ft := vR 27) rfl dX9_keptIfSome_5 (fun u_1 hv_u_1 m_u_1 => ?_)
    obtain ⟨vu_1, rfl, h_vu_1⟩ := hv_u_1
    refine tk_v (va_runV (As := []) (rest := []) ⟨hx, hb, hml, hown, hts⟩ (c_X1_keep l D cy z s.heap.size Ps w0 hw.1 vu_1 h_vu_1) (cwV 0 hts (gV tw_619 tw_620 tw_621 tw_13 tw_622) rfl rfl rfl (by decide +kernel) ⟨Nat.le_of_ble_eq_true rfl, Nat.le_of_ble_eq_true rfl⟩) (tg_preV hw hK hSD hA (ci := 1) (q := (RX1, TX1, 3)) rfl h_vu_1 rfl) rfl rfl hl.1 rfl (lv_room (Nat.le_of_ble_eq_true rfl)) dX9_keptIfSome_8 ⟨Nat.le_of_ble_eq_true rfl, Nat.le_of_ble_eq_true rfl⟩) hw hA ⟨by decide, by decide⟩ (fun ws H locs hp_v_2 hw hF9 => ?_)
    refine lv_iload_n hx hb dX9_keptIfSome_11 rfl (lv_at hl 1 rfl) ?_
    subst hQ
    exact W.iret (v := p1) hx hb hr (fun t ht hW => ⟨⟨p1, ws, rfl, ⟨⟨r_p1.to (by decide), (fun h0 => absurd (ti_eq h0) (by have h8 := r_p1; unfold RI at h8; rw [Int32.toInt_zero]; omega)), (fun h0 => trivial)⟩, hw.1, hw.2.2.2.2.1⟩, by rw [ht]; exact hw.2.1, va_K.moved hW.alike hK, hw.2.2.1⟩, hw.2.2.2.1.F ht⟩) hw.2.2.2.1.2.2 dX9_keptIfSome_12
abbrev wr_X9_days : List (Nat × Nat) := [(1, 1), (1, 2), (8, 0), (8, 1)]
abbrev wa_X9_days : List Nat := [8, 9, 10, 11, 12, 13, 14]
set_option maxHeartbeats 4000000 in
set_option maxRecDepth 100000 in
theorem c_X9_days (l : Launch) (D : va_G) (cy : Nat → ClassId) (z : Nat → Nat) (sz : Nat) (Ps : PSI) (w0 : va_W) (hT : HT cy GG Ps w0) (p0 : Nat) (p1 : Int32) (h_p0 : (p0, 33) ∈ Ps) (r_p1 : RI p1 (-2147483648) 2147483647) : Met l yX9_days (Cond.code yX9_days cX9_days 2 (some .int) :: gT) ({ frames := 6, cells := 0, slots := 0, locals := 1200 } : Room) (va_Pc [.ref p0, .int p1] (PRE D cy z w0 sz)) (va_Qi (fun (r : Int32) (u : va_W) => (RI r (-2147483648) 2147483647 ∧ (r = 0 → True) ∧ (¬ r = 0 → True)) ∧ HT cy GG Ps u ∧ FR wr_X9_days wa_X9_days Ps w0 u) (BB D cy (va_A w0 sz) (fun (u : va_W) => u)) (va_A w0 sz)) 0 0 (va_A w0 sz) := by
  refine Met.ofW (cc := cX9_days) (maxL := 2) (ret := (some .int)) (by decide) rfl ?_
  intro p e s m args below meth c s₁ B hml hv
  obtain ⟨rfl, hsz, hP, hK, hD0, hSD⟩ := hv
  have hx := B.exec
  have hb := B.bytes
  have hr := B.returns
  have hlocks := B.notSynchronized
  have hts : ∀ w ∈ gT, w.before _ s = true := fun w h => atoms_spec (ws := Cond.code yX9_days cX9_days 2 (some .int) :: gT) B.pre w (List.mem_cons_of_mem _ h)
  have hown : s.vm.findClass RX9 = some m.cls := findClass_of_methodNamed B.named
  subst hsz
  have hD := hD0.self (sz := s.heap.size)
  generalize hAe : va_A w0 s.heap.size = A at hD hSD ⊢
  have hA : ∀ q : Nat, s.heap.size ≤ q → A q := fun q h => by rw [← hAe]; exact Or.inr h
  have hl := lv_entry ([.ref p0, .int p1]) (n := 2) (Nat.le_of_ble_eq_true rfl)
  rw [lg_entry_eq]
  generalize (lg_sl ([.ref p0, .int p1]) ++ List.replicate (2 - (lg_sl ([.ref p0, .int p1])).length) Slot.unset).toArray = ls at hl ⊢
  have hl : lv_has ls 2 [(0, .ref p0), (1, .int p1)] := hl
  refine nameQ (fun Q hQ => ?_)
  have hw : WD D cy GG A s wr_X9_days wa_X9_days Ps w0 Ps w0 s.heap [] := ⟨hT, hP, hD, va_S.rf, FR.rf, hT.1, [], (List.append_nil _).symm⟩
  refine lv_iload_n hx hb dX9_days_0 rfl (lv_at hl 1 rfl) ?_
  refine lv_iconst (v := 1) hx hb dX9_days_1 (by decide) ?_
  refine lv_icmp_lt (tgt := 11) hx hb dX9_days_2 (by decide) (fun c_2 => ?_) (fun c_2 => ?_)
  · have r_p1 : RI p1 (-2147483648) 0 := rc_lt1 r_p1 rl_1 (ti_lt c_2) (by decide)
    refine lv_iconst (v := (-1)) hx hb dX9_days_11 (by decide) ?_
    subst hQ
    exact W.iret (v := (-1)) hx hb hr (fun t ht hW => ⟨⟨(-1), w0, rfl, ⟨⟨rl_m1.to (by decide), (fun _ => trivial), (fun h0 => trivial)⟩, hw.1, hw.2.2.2.2.1⟩, by rw [ht]; exact hw.2.1, va_K.moved hW.alike hK, hw.2.2.1⟩, hw.2.2.2.1.F ht⟩) hw.2.2.2.1.2.2 dX9_days_12
  · have r_p1 : RI p1 1 2147483647 := rc_le2 rl_1 r_p1 (ti_nlt c_2) (by decide)
    refine lv_iload_n hx hb dX9_days_5 rfl (lv_at hl 1 rfl) ?_
    refine lv_bipush (v := 60) hx hb dX9_days_6 (by decide) ?_
    refine lv_icmp_le (tgt := 13) hx hb dX9_days_8 (by decide) (fun c_8 => ?_) (fun c_8 => ?_)
    · have r_p1 : RI p1 1 60 := rc_le1 r_p1 rl_60 (ti_le c_8) (by decide)
      refine lv_aload_n hx hb dX9_days_13 rfl (lv_at hl 0 rfl) ?_
      refine tg_get (ci := 9) (ts := ty_WP) (C := RX9) (T := TX9) (N := 15) hx hb hts inX9 hown hK hw h_p0 rfl rfl 3 (by decide) (hts _ tw_349) (fun _ h9 => h9) (ft := vR 27) rfl dX9_days_14 (fun u_1 hv_u_1 m_u_1 => ?_)
      obtain ⟨vu_1, rfl, h_vu_1⟩ := hv_u_1
      refine lv_aload_n hx hb dX9_days_17 rfl (lv_at hl 0 rfl) ?_
      refine tg_get (ci := 9) (ts := ty_WP) (C := RX9) (T := TX9) (N := 15) hx hb hts inX9 hown hK hw h_p0 rfl rfl 1 (by decide) (hts _ tw_347) (fun _ h9 => h9) (ft := vR 24) rfl dX9_days_18 (fun u_2 hv_u_2 m_u_2 => ?_)
      obtain ⟨vu_2, rfl, h_vu_2⟩ := hv_u_2
      refine tk_v (va_runV (As := [.ref vu_2]) (rest := []) ⟨hx, hb, hml, hown, hts⟩ (c_X1_prepare l D cy z s.heap.size Ps w0 hw.1 vu_1 vu_2 h_vu_1 h_vu_2) (cwV 1 hts (gV tw_606 tw_607 tw_608 tw_13 tw_609) rfl rfl rfl (by decide +kernel) ⟨Nat.le_of_ble_eq_true rfl, Nat.le_of_ble_eq_true rfl⟩) (tg_preV hw hK hSD hA (ci := 1) (q := (RX1, TX1, 3)) rfl h_vu_1 rfl) rfl rfl hl.1 rfl (lv_room (Nat.le_of_ble_eq_true rfl)) dX9_days_21 ⟨Nat.le_of_ble_eq_true rfl, Nat.le_of_ble_eq_true rfl⟩) hw hA ⟨by decide, by decide⟩ (fun ws H locs hp_v_3 hw hF9 => ?_)
      refine lv_aload_n hx hb dX9_days_24 rfl (lv_at hl 0 rfl) ?_
      refine lv_aload_n hx hb dX9_days_25 rfl (lv_at hl 0 rfl) ?_
      refine tg_get (ci := 9) (ts := ty_WP) (C := RX9) (T := TX9) (N := 15) hx hb hts inX9 hown hK hw h_p0 rfl rfl 1 (by decide) (hts _ tw_347) (fun _ h9 => h9) (ft := vR 24) rfl dX9_days_26 (fun u_4 hv_u_4 m_u_4 => ?_)
      obtain ⟨vu_4, rfl, h_vu_4⟩ := hv_u_4
      refine lv_iload_n hx hb dX9_days_29 rfl (lv_at hl 1 rfl) ?_
      refine tk_i (va_runV (As := [.int p1]) (rest := [.ref p0]) ⟨hx, hb, hml, hown, hts⟩ (c_X8_goDays l D cy z H.size Ps ws hw.1 vu_4 p1 h_vu_4 (r_p1.to (by decide))) (cwV 1 hts (gV tw_677 tw_678 tw_679 tw_12 tw_680) rfl rfl rfl (by decide +kernel) ⟨Nat.le_of_ble_eq_true rfl, Nat.le_of_ble_eq_true rfl⟩) (tg_preV hw hK hSD hA (ci := 8) (q := (RX8, TX8, 13)) rfl h_vu_4 rfl) rfl rfl hl.1 rfl (lv_room (Nat.le_of_ble_eq_true rfl)) dX9_days_30 ⟨Nat.le_of_ble_eq_true rfl, Nat.le_of_ble_eq_true rfl⟩) hw hA ⟨by decide, by decide⟩ (fun v_5 ws H locs hp_v_5 hw hF9 => ?_)
      have r_v_5 : RI v_5 (-2147483648) 2147483647 := hp_v_5.1
      refine tk_i (va_runV (As := [.int v_5]) (rest := []) ⟨hx, hb, hml, hown, hts⟩ (c_X9_keptIfSome l D cy z H.size Ps ws hw.1 p0 v_5 h_p0 r_v_5) (cwV 1 hts (gV tw_709 tw_711 ts_17 tw_1 tw_712) rfl rfl rfl (by decide +kernel) ⟨Nat.le_of_ble_eq_true rfl, Nat.le_of_ble_eq_true rfl⟩) (tg_preV hw hK hSD hA (ci := 9) (q := (RX9, TX9, 15)) rfl h_p0 rfl) rfl rfl hl.1 rfl (lv_room (Nat.le_of_ble_eq_true rfl)) dX9_days_33 ⟨Nat.le_of_ble_eq_true rfl, Nat.le_of_ble_eq_true rfl⟩) hw hA ⟨by decide, by decide⟩ (fun v_6 ws H locs hp_v_6 hw hF9 => ?_)
      have r_v_6 : RI v_6 (-2147483648) 2147483647 := hp_v_6.1
      subst hQ
      exact W.iret (v := v_6) hx hb hr (fun t ht hW => ⟨⟨v_6, ws, rfl, ⟨⟨r_v_6.to (by decide), (fun h0 => trivial), (fun h0 => trivial)⟩, hw.1, hw.2.2.2.2.1⟩, by rw [ht]; exact hw.2.1, va_K.moved hW.alike hK, hw.2.2.1⟩, hw.2.2.2.1.F ht⟩) hw.2.2.2.1.2.2 dX9_days_36
    · have r_p1 : RI p1 61 2147483647 := rc_lt2 rl_60 r_p1 (ti_nle c_8) (by decide)
      refine lv_iconst (v := (-1)) hx hb dX9_days_11 (by decide) ?_
      subst hQ
      exact W.iret (v := (-1)) hx hb hr (fun t ht hW => ⟨⟨(-1), w0, rfl, ⟨⟨rl_m1.to (by decide), (fun _ => trivial), (fun h0 => trivial)⟩, hw.1, hw.2.2.2.2.1⟩, by rw [ht]; exact hw.2.1, va_K.moved hW.alike hK, hw.2.2.1⟩, hw.2.2.2.1.F ht⟩) hw.2.2.2.1.2.2 dX9_days_12
abbrev wr_X9_drawn : List (Nat × Nat) := [(1, 1), (1, 2), (8, 0), (8, 1), (8, 12)]
abbrev wa_X9_drawn : List Nat := [8, 9, 10, 11, 12, 13, 14]
set_option maxHeartbeats 4000000 in
set_option maxRecDepth 100000 in
theorem c_X9_drawn (l : Launch) (D : va_G) (cy : Nat → ClassId) (z : Nat → Nat) (sz : Nat) (Ps : PSI) (w0 : va_W) (hT : HT cy GG Ps w0) (p0 : Nat) (p1 : Int32) (p2 : Int32) (h_p0 : (p0, 33) ∈ Ps) (r_p1 : RI p1 (-2147483648) 2147483647) (r_p2 : RI p2 (-2147483648) 2147483647) : Met l yX9_drawn (Cond.code yX9_drawn cX9_drawn 3 (some .int) :: gT) ({ frames := 6, cells := 0, slots := 0, locals := 1200 } : Room) (va_Pc [.ref p0, .int p1, .int p2] (PRE D cy z w0 sz)) (va_Qi (fun (r : Int32) (u : va_W) => (RI r (-2147483648) 2147483647 ∧ (r = 0 → True) ∧ (¬ r = 0 → True)) ∧ HT cy GG Ps u ∧ FR wr_X9_drawn wa_X9_drawn Ps w0 u) (BB D cy (va_A w0 sz) (fun (u : va_W) => u)) (va_A w0 sz)) 0 0 (va_A w0 sz) := by
  refine Met.ofW (cc := cX9_drawn) (maxL := 3) (ret := (some .int)) (by decide) rfl ?_
  intro p e s m args below meth c s₁ B hml hv
  obtain ⟨rfl, hsz, hP, hK, hD0, hSD⟩ := hv
  have hx := B.exec
  have hb := B.bytes
  have hr := B.returns
  have hlocks := B.notSynchronized
  have hts : ∀ w ∈ gT, w.before _ s = true := fun w h => atoms_spec (ws := Cond.code yX9_drawn cX9_drawn 3 (some .int) :: gT) B.pre w (List.mem_cons_of_mem _ h)
  have hown : s.vm.findClass RX9 = some m.cls := findClass_of_methodNamed B.named
  subst hsz
  have hD := hD0.self (sz := s.heap.size)
  generalize hAe : va_A w0 s.heap.size = A at hD hSD ⊢
  have hA : ∀ q : Nat, s.heap.size ≤ q → A q := fun q h => by rw [← hAe]; exact Or.inr h
  have hl := lv_entry ([.ref p0, .int p1, .int p2]) (n := 3) (Nat.le_of_ble_eq_true rfl)
  rw [lg_entry_eq]
  generalize (lg_sl ([.ref p0, .int p1, .int p2]) ++ List.replicate (3 - (lg_sl ([.ref p0, .int p1, .int p2])).length) Slot.unset).toArray = ls at hl ⊢
  have hl : lv_has ls 3 [(0, .ref p0), (1, .int p1), (2, .int p2)] := hl
  refine nameQ (fun Q hQ => ?_)
  have hw : WD D cy GG A s wr_X9_drawn wa_X9_drawn Ps w0 Ps w0 s.heap [] := ⟨hT, hP, hD, va_S.rf, FR.rf, hT.1, [], (List.append_nil _).symm⟩
  refine lv_iload_n hx hb dX9_drawn_0 rfl (lv_at hl 1 rfl) ?_
  refine lv_iconst (v := 1) hx hb dX9_drawn_1 (by decide) ?_
  refine lv_icmp_lt (tgt := 26) hx hb dX9_drawn_2 (by decide) (fun c_2 => ?_) (fun c_2 => ?_)
  · have r_p1 : RI p1 (-2147483648) 0 := rc_lt1 r_p1 rl_1 (ti_lt c_2) (by decide)
    refine lv_iconst (v := (-1)) hx hb dX9_drawn_26 (by decide) ?_
    subst hQ
    exact W.iret (v := (-1)) hx hb hr (fun t ht hW => ⟨⟨(-1), w0, rfl, ⟨⟨rl_m1.to (by decide), (fun _ => trivial), (fun h0 => trivial)⟩, hw.1, hw.2.2.2.2.1⟩, by rw [ht]; exact hw.2.1, va_K.moved hW.alike hK, hw.2.2.1⟩, hw.2.2.2.1.F ht⟩) hw.2.2.2.1.2.2 dX9_drawn_27
  · have r_p1 : RI p1 1 2147483647 := rc_le2 rl_1 r_p1 (ti_nlt c_2) (by decide)
    refine lv_iload_n hx hb dX9_drawn_5 rfl (lv_at hl 1 rfl) ?_
    refine lv_bipush (v := 60) hx hb dX9_drawn_6 (by decide) ?_
    refine lv_icmp_gt (tgt := 26) hx hb dX9_drawn_8 (by decide) (fun c_8 => ?_) (fun c_8 => ?_)
    · have r_p1 : RI p1 61 2147483647 := rc_lt2 rl_60 r_p1 (ti_lt c_8) (by decide)
      refine lv_iconst (v := (-1)) hx hb dX9_drawn_26 (by decide) ?_
      subst hQ
      exact W.iret (v := (-1)) hx hb hr (fun t ht hW => ⟨⟨(-1), w0, rfl, ⟨⟨rl_m1.to (by decide), (fun _ => trivial), (fun h0 => trivial)⟩, hw.1, hw.2.2.2.2.1⟩, by rw [ht]; exact hw.2.1, va_K.moved hW.alike hK, hw.2.2.1⟩, hw.2.2.2.1.F ht⟩) hw.2.2.2.1.2.2 dX9_drawn_27
    · have r_p1 : RI p1 1 60 := rc_le1 r_p1 rl_60 (ti_nlt c_8) (by decide)
      refine lv_aload_n hx hb dX9_drawn_11 rfl (lv_at hl 0 rfl) ?_
      refine tg_get (ci := 9) (ts := ty_WP) (C := RX9) (T := TX9) (N := 15) hx hb hts inX9 hown hK hw h_p0 rfl rfl 1 (by decide) (hts _ tw_347) (fun _ h9 => h9) (ft := vR 24) rfl dX9_drawn_12 (fun u_1 hv_u_1 m_u_1 => ?_)
      obtain ⟨vu_1, rfl, h_vu_1⟩ := hv_u_1
      refine tg_getN (ci := 8) (ts := ty_WORLD) (C := RX8) (T := TX8) (N := 13) hx hb hts inX8 hown hK hw h_vu_1 rfl rfl 0 (by decide) (hSD.nest tn_249) (fun _ h9 => h9) (ft := vR 25) rfl dX9_drawn_15 (fun u_2 hv_u_2 m_u_2 => ?_)
      obtain ⟨vu_2, rfl, h_vu_2⟩ := hv_u_2
      refine tg_getN (ci := 3) (ts := ty_POST) (C := RX3) (T := TX3) (N := 9) hx hb hts inX3 hown hK hw h_vu_2 rfl rfl 1 (by decide) (hSD.nest tn_204) (fun _ h9 => h9) (ft := vR 4) rfl dX9_drawn_18 (fun u_3 hv_u_3 m_u_3 => ?_)
      obtain ⟨vu_3, rfl, h_vu_3⟩ := hv_u_3
      refine lv_iconst (v := 3) hx hb dX9_drawn_21 (by decide) ?_
      refine tg_iald (lo := 0) (hi := 8) hx hb hK hw h_vu_3 rfl 3 3 rl_3 (by decide) (by decide +kernel) dX9_drawn_22 (fun v_4 r_v_4 m_v_4 o_v_4 => ?_)
      refine lv_if_ne (tgt := 28) hx hb dX9_drawn_23 (by decide) (fun c_23 => ?_) (fun c_23 => ?_)
      · have r_v_4 : RI v_4 1 8 := rc_neL r_v_4 rl_0 (ti_ne c_23) (by decide)
        refine lv_aload_n hx hb dX9_drawn_28 rfl (lv_at hl 0 rfl) ?_
        refine tg_get (ci := 9) (ts := ty_WP) (C := RX9) (T := TX9) (N := 15) hx hb hts inX9 hown hK hw h_p0 rfl rfl 3 (by decide) (hts _ tw_349) (fun _ h9 => h9) (ft := vR 27) rfl dX9_drawn_29 (fun u_5 hv_u_5 m_u_5 => ?_)
        obtain ⟨vu_5, rfl, h_vu_5⟩ := hv_u_5
        refine lv_aload_n hx hb dX9_drawn_32 rfl (lv_at hl 0 rfl) ?_
        refine tg_mem (ci := 9) (C := RX9) (T := TX9) (N := 15) hx hb hts inX9 hown hK hw 1 m_u_1 rfl (by decide) (hts _ tw_347) (fun _ h9 => h9) dX9_drawn_33 ?_
        refine tk_v (va_runV (As := [.ref vu_1]) (rest := []) ⟨hx, hb, hml, hown, hts⟩ (c_X1_prepare l D cy z s.heap.size Ps w0 hw.1 vu_5 vu_1 h_vu_5 h_vu_1) (cwV 1 hts (gV tw_606 tw_607 tw_608 tw_13 tw_609) rfl rfl rfl (by decide +kernel) ⟨Nat.le_of_ble_eq_true rfl, Nat.le_of_ble_eq_true rfl⟩) (tg_preV hw hK hSD hA (ci := 1) (q := (RX1, TX1, 3)) rfl h_vu_5 rfl) rfl rfl hl.1 rfl (lv_room (Nat.le_of_ble_eq_true rfl)) dX9_drawn_36 ⟨Nat.le_of_ble_eq_true rfl, Nat.le_of_ble_eq_true rfl⟩) hw hA ⟨by decide, by decide⟩ (fun ws H locs hp_v_6 hw hF9 => ?_)
        refine lv_aload_n hx hb dX9_drawn_39 rfl (lv_at hl 0 rfl) ?_
        refine lv_aload_n hx hb dX9_drawn_40 rfl (lv_at hl 0 rfl) ?_
        refine tg_get (ci := 9) (ts := ty_WP) (C := RX9) (T := TX9) (N := 15) hx hb hts inX9 hown hK hw h_p0 rfl rfl 1 (by decide) (hts _ tw_347) (fun _ h9 => h9) (ft := vR 24) rfl dX9_drawn_41 (fun u_7 hv_u_7 m_u_7 => ?_)
        obtain ⟨vu_7, rfl, h_vu_7⟩ := hv_u_7
        refine lv_iload_n hx hb dX9_drawn_44 rfl (lv_at hl 1 rfl) ?_
        refine lv_iload_n hx hb dX9_drawn_45 rfl (lv_at hl 2 rfl) ?_
        refine tk_i (va_runV (As := [.int p1, .int p2]) (rest := [.ref p0]) ⟨hx, hb, hml, hown, hts⟩ (c_X8_drawDays l D cy z H.size Ps ws hw.1 vu_7 p1 p2 h_vu_7 (r_p1.to (by decide)) r_p2) (cwV 2 hts (gV tw_862 tw_863 tw_864 tw_12 tw_865) rfl rfl rfl (by decide +kernel) ⟨Nat.le_of_ble_eq_true rfl, Nat.le_of_ble_eq_true rfl⟩) (tg_preV hw hK hSD hA (ci := 8) (q := (RX8, TX8, 13)) rfl h_vu_7 rfl) rfl rfl hl.1 rfl (lv_room (Nat.le_of_ble_eq_true rfl)) dX9_drawn_46 ⟨Nat.le_of_ble_eq_true rfl, Nat.le_of_ble_eq_true rfl⟩) hw hA ⟨by decide, by decide⟩ (fun v_8 ws H locs hp_v_8 hw hF9 => ?_)
        have r_v_8 : RI v_8 (-2147483648) 2147483647 := hp_v_8.1
        refine tk_i (va_runV (As := [.int v_8]) (rest := []) ⟨hx, hb, hml, hown, hts⟩ (c_X9_keptIfSome l D cy z H.size Ps ws hw.1 p0 v_8 h_p0 r_v_8) (cwV 1 hts (gV tw_709 tw_711 ts_17 tw_1 tw_712) rfl rfl rfl (by decide +kernel) ⟨Nat.le_of_ble_eq_true rfl, Nat.le_of_ble_eq_true rfl⟩) (tg_preV hw hK hSD hA (ci := 9) (q := (RX9, TX9, 15)) rfl h_p0 rfl) rfl rfl hl.1 rfl (lv_room (Nat.le_of_ble_eq_true rfl)) dX9_drawn_49 ⟨Nat.le_of_ble_eq_true rfl, Nat.le_of_ble_eq_true rfl⟩) hw hA ⟨by decide, by decide⟩ (fun v_9 ws H locs hp_v_9 hw hF9 => ?_)
        have r_v_9 : RI v_9 (-2147483648) 2147483647 := hp_v_9.1
        subst hQ
        exact W.iret (v := v_9) hx hb hr (fun t ht hW => ⟨⟨v_9, ws, rfl, ⟨⟨r_v_9.to (by decide), (fun h0 => trivial), (fun h0 => trivial)⟩, hw.1, hw.2.2.2.2.1⟩, by rw [ht]; exact hw.2.1, va_K.moved hW.alike hK, hw.2.2.1⟩, hw.2.2.2.1.F ht⟩) hw.2.2.2.1.2.2 dX9_drawn_52
      · have r_v_4 : RI v_4 0 0 := rc_eq1 r_v_4 rl_0 (ti_eq c_23) (by decide)
        refine lv_iconst (v := (-1)) hx hb dX9_drawn_26 (by decide) ?_
        subst hQ
        exact W.iret (v := (-1)) hx hb hr (fun t ht hW => ⟨⟨(-1), w0, rfl, ⟨⟨rl_m1.to (by decide), (fun _ => trivial), (fun h0 => trivial)⟩, hw.1, hw.2.2.2.2.1⟩, by rw [ht]; exact hw.2.1, va_K.moved hW.alike hK, hw.2.2.1⟩, hw.2.2.2.1.F ht⟩) hw.2.2.2.1.2.2 dX9_drawn_27
abbrev wr_X9_end : List (Nat × Nat) := [(7, 2)]
abbrev wa_X9_end : List Nat := []
set_option maxHeartbeats 4000000 in
set_option maxRecDepth 100000 in
theorem c_X9_end (l : Launch) (D : va_G) (cy : Nat → ClassId) (z : Nat → Nat) (sz : Nat) (Ps : PSI) (w0 : va_W) (hT : HT cy GG Ps w0) (p0 : Nat) (p1 : Int32) (h_p0 : (p0, 33) ∈ Ps) (r_p1 : RI p1 (-2147483648) 2147483647) : Met l yX9_end (Cond.code yX9_end cX9_end 2 (some .boolean) :: gT) ({ frames := 0, cells := 0, slots := 0, locals := 200 } : Room) (va_Pc [.ref p0, .int p1] (PRE D cy z w0 sz)) (va_Qi (fun (r : Int32) (u : va_W) => (RI r 0 1 ∧ (r = 0 → True) ∧ (¬ r = 0 → True)) ∧ HT cy GG Ps u ∧ FR wr_X9_end wa_X9_end Ps w0 u) (BB D cy (va_A w0 sz) (fun (u : va_W) => u)) (va_A w0 sz)) 0 0 (va_A w0 sz) := by
  refine Met.ofW (cc := cX9_end) (maxL := 2) (ret := (some .boolean)) (by decide) rfl ?_
  intro p e s m args below meth c s₁ B hml hv
  obtain ⟨rfl, hsz, hP, hK, hD0, hSD⟩ := hv
  have hx := B.exec
  have hb := B.bytes
  have hr := B.returns
  have hlocks := B.notSynchronized
  have hts : ∀ w ∈ gT, w.before _ s = true := fun w h => atoms_spec (ws := Cond.code yX9_end cX9_end 2 (some .boolean) :: gT) B.pre w (List.mem_cons_of_mem _ h)
  have hown : s.vm.findClass RX9 = some m.cls := findClass_of_methodNamed B.named
  subst hsz
  have hD := hD0.self (sz := s.heap.size)
  generalize hAe : va_A w0 s.heap.size = A at hD hSD ⊢
  have hA : ∀ q : Nat, s.heap.size ≤ q → A q := fun q h => by rw [← hAe]; exact Or.inr h
  have hl := lv_entry ([.ref p0, .int p1]) (n := 2) (Nat.le_of_ble_eq_true rfl)
  rw [lg_entry_eq]
  generalize (lg_sl ([.ref p0, .int p1]) ++ List.replicate (2 - (lg_sl ([.ref p0, .int p1])).length) Slot.unset).toArray = ls at hl ⊢
  have hl : lv_has ls 2 [(0, .ref p0), (1, .int p1)] := hl
  refine nameQ (fun Q hQ => ?_)
  have hw : WD D cy GG A s wr_X9_end wa_X9_end Ps w0 Ps w0 s.heap [] := ⟨hT, hP, hD, va_S.rf, FR.rf, hT.1, [], (List.append_nil _).symm⟩
  refine lv_iload_n hx hb dX9_end_0 rfl (lv_at hl 1 rfl) ?_
  refine lv_if_lt (tgt := 15) hx hb dX9_end_1 (by decide) (fun c_1 => ?_) (fun c_1 => ?_)
  · have r_p1 : RI p1 (-2147483648) (-1) := rc_lt1 r_p1 rl_0 (ti_lt c_1) (by decide)
    refine lv_iconst (v := 0) hx hb dX9_end_15 (by decide) ?_
    subst hQ
    exact W.zret (v := 0) hx hb hr (rfl) (fun t ht hW => ⟨⟨0, w0, rfl, ⟨⟨rl_0.to (by decide), (fun h0 => trivial), (fun _ => trivial)⟩, hw.1, hw.2.2.2.2.1⟩, by rw [ht]; exact hw.2.1, va_K.moved hW.alike hK, hw.2.2.1⟩, hw.2.2.2.1.F ht⟩) hw.2.2.2.1.2.2 dX9_end_16
  · have r_p1 : RI p1 0 2147483647 := rc_le2 rl_0 r_p1 (ti_nlt c_1) (by decide)
    refine lv_iload_n hx hb dX9_end_4 rfl (lv_at hl 1 rfl) ?_
    refine lv_aload_n hx hb dX9_end_5 rfl (lv_at hl 0 rfl) ?_
    refine tg_get (ci := 9) (ts := ty_WP) (C := RX9) (T := TX9) (N := 15) hx hb hts inX9 hown hK hw h_p0 rfl rfl 0 (by decide) (hts _ tw_346) (fun _ h9 => h9) (ft := vR 26) rfl dX9_end_6 (fun u_1 hv_u_1 m_u_1 => ?_)
    obtain ⟨vu_1, rfl, h_vu_1⟩ := hv_u_1
    refine tg_getN (ci := 7) (ts := ty_TAPE) (C := RX7) (T := TX7) (N := 12) hx hb hts inX7 hown hK hw h_vu_1 rfl rfl 2 (by decide) (hSD.nest tn_90) (fun _ h9 => h9) (ft := vI 0 940) rfl dX9_end_9 (fun u_2 hv_u_2 m_u_2 => ?_)
    obtain ⟨vu_2, rfl, r_vu_2⟩ := hv_u_2
    refine lv_icmp_le (tgt := 17) hx hb dX9_end_12 (by decide) (fun c_12 => ?_) (fun c_12 => ?_)
    · have r_p1 : RI p1 0 940 := rc_le1 r_p1 r_vu_2 (ti_le c_12) (by decide)
      refine lv_aload_n hx hb dX9_end_17 rfl (lv_at hl 0 rfl) ?_
      refine tg_mem (ci := 9) (C := RX9) (T := TX9) (N := 15) hx hb hts inX9 hown hK hw 0 m_u_1 rfl (by decide) (hts _ tw_346) (fun _ h9 => h9) dX9_end_18 ?_
      refine lv_iload_n hx hb dX9_end_21 rfl (lv_at hl 1 rfl) ?_
      refine tg_putN (ci := 7) (ts := ty_TAPE) (v := .int p1) (ty := .int) (C := RX7) (T := TX7) (N := 12) hx hb hts inX7 tyX7 tyX7_ok nmX7 hown hK hw h_vu_1 rfl rfl 2 (by decide) (hSD.nest tn_90) (fun _ h9 => h9) rfl (by decide +kernel) rfl rfl (ft := vI 0 940) rfl ⟨_, rfl, r_p1⟩ (by decide) dX9_end_22 (fun ws H locs hw n_k_3 hF9 => ?_)
      refine lv_iconst (v := 1) hx hb dX9_end_25 (by decide) ?_
      subst hQ
      exact W.zret (v := 1) hx hb hr (rfl) (fun t ht hW => ⟨⟨1, ws, rfl, ⟨⟨rl_1.to (by decide), (fun _ => trivial), (fun h0 => trivial)⟩, hw.1, hw.2.2.2.2.1⟩, by rw [ht]; exact hw.2.1, va_K.moved hW.alike hK, hw.2.2.1⟩, hw.2.2.2.1.F ht⟩) hw.2.2.2.1.2.2 dX9_end_26
    · have r_p1 : RI p1 1 2147483647 := rc_lt2 r_vu_2 r_p1 (ti_nle c_12) (by decide)
      refine lv_iconst (v := 0) hx hb dX9_end_15 (by decide) ?_
      subst hQ
      exact W.zret (v := 0) hx hb hr (rfl) (fun t ht hW => ⟨⟨0, w0, rfl, ⟨⟨rl_0.to (by decide), (fun h0 => trivial), (fun _ => trivial)⟩, hw.1, hw.2.2.2.2.1⟩, by rw [ht]; exact hw.2.1, va_K.moved hW.alike hK, hw.2.2.1⟩, hw.2.2.2.1.F ht⟩) hw.2.2.2.1.2.2 dX9_end_16
abbrev wr_X9_fault : List (Nat × Nat) := []
abbrev wa_X9_fault : List Nat := []
set_option maxHeartbeats 4000000 in
set_option maxRecDepth 100000 in
theorem c_X9_fault (l : Launch) (D : va_G) (cy : Nat → ClassId) (z : Nat → Nat) (sz : Nat) (Ps : PSI) (w0 : va_W) (hT : HT cy GG Ps w0) (p0 : Nat) (h_p0 : (p0, 33) ∈ Ps) : Met l yX9_fault (Cond.code yX9_fault cX9_fault 1 (some .int) :: gT) ({ frames := 0, cells := 0, slots := 0, locals := 200 } : Room) (va_Pc [.ref p0] (PRE D cy z w0 sz)) (va_Qi (fun (r : Int32) (u : Unit) => RI r (-2147483648) 2147483647 ∧ (r = 0 → True) ∧ (¬ r = 0 → True)) (BB D cy (va_A w0 sz) (fun (u : Unit) => w0)) (va_A w0 sz)) 0 0 (va_A w0 sz) := by
  refine Met.ofW (cc := cX9_fault) (maxL := 1) (ret := (some .int)) (by decide) rfl ?_
  intro p e s m args below meth c s₁ B hml hv
  obtain ⟨rfl, hsz, hP, hK, hD0, hSD⟩ := hv
  have hx := B.exec
  have hb := B.bytes
  have hr := B.returns
  have hlocks := B.notSynchronized
  have hts : ∀ w ∈ gT, w.before _ s = true := fun w h => atoms_spec (ws := Cond.code yX9_fault cX9_fault 1 (some .int) :: gT) B.pre w (List.mem_cons_of_mem _ h)
  have hown : s.vm.findClass RX9 = some m.cls := findClass_of_methodNamed B.named
  subst hsz
  have hD := hD0.self (sz := s.heap.size)
  generalize hAe : va_A w0 s.heap.size = A at hD hSD ⊢
  have hA : ∀ q : Nat, s.heap.size ≤ q → A q := fun q h => by rw [← hAe]; exact Or.inr h
  have hl := lv_entry ([.ref p0]) (n := 1) (Nat.le_of_ble_eq_true rfl)
  rw [lg_entry_eq]
  generalize (lg_sl ([.ref p0]) ++ List.replicate (1 - (lg_sl ([.ref p0])).length) Slot.unset).toArray = ls at hl ⊢
  have hl : lv_has ls 1 [(0, .ref p0)] := hl
  refine nameQ (fun Q hQ => ?_)
  have hw : WD D cy GG A s wr_X9_fault wa_X9_fault Ps w0 Ps w0 s.heap [] := ⟨hT, hP, hD, va_S.rf, FR.rf, hT.1, [], (List.append_nil _).symm⟩
  refine lv_aload_n hx hb dX9_fault_0 rfl (lv_at hl 0 rfl) ?_
  refine tg_get (ci := 9) (ts := ty_WP) (C := RX9) (T := TX9) (N := 15) hx hb hts inX9 hown hK hw h_p0 rfl rfl 11 (by decide) (hts _ tw_357) (fun _ h9 => h9) (ft := vI (-2147483648) 2147483647) rfl dX9_fault_1 (fun u_1 hv_u_1 m_u_1 => ?_)
  obtain ⟨vu_1, rfl, r_vu_1⟩ := hv_u_1
  subst hQ
  exact W.iret (v := vu_1) hx hb hr (fun t ht hW => ⟨⟨vu_1, (), rfl, ⟨r_vu_1.to (by decide), (fun h0 => trivial), (fun h0 => trivial)⟩, by rw [ht]; exact hw.2.1, va_K.moved hW.alike hK, hw.2.2.1⟩, hw.2.2.2.1.F ht⟩) hw.2.2.2.1.2.2 dX9_fault_4
abbrev wr_X9_feed : List (Nat × Nat) := [(7, 2)]
abbrev wa_X9_feed : List Nat := [2]
set_option maxHeartbeats 4000000 in
set_option maxRecDepth 100000 in
theorem c_X9_feed (l : Launch) (D : va_G) (cy : Nat → ClassId) (z : Nat → Nat) (sz : Nat) (Ps : PSI) (w0 : va_W) (hT : HT cy GG Ps w0) (p0 : Nat) (p1 : Int32) (p2 : Int32) (p3 : Int32) (p4 : Int32) (p5 : Int32) (h_p0 : (p0, 33) ∈ Ps) (r_p1 : RI p1 (-2147483648) 2147483647) (r_p2 : RI p2 (-2147483648) 2147483647) (r_p3 : RI p3 (-2147483648) 2147483647) (r_p4 : RI p4 (-2147483648) 2147483647) (r_p5 : RI p5 (-2147483648) 2147483647) : Met l yX9_feed (Cond.code yX9_feed cX9_feed 6 (some .int) :: gT) ({ frames := 2, cells := 0, slots := 0, locals := 400 } : Room) (va_Pc [.ref p0, .int p1, .int p2, .int p3, .int p4, .int p5] (PRE D cy z w0 sz)) (va_Qi (fun (r : Int32) (u : va_W) => (RI r (-1) 940 ∧ (r = 0 → True) ∧ (¬ r = 0 → True)) ∧ HT cy GG Ps u ∧ FR wr_X9_feed wa_X9_feed Ps w0 u) (BB D cy (va_A w0 sz) (fun (u : va_W) => u)) (va_A w0 sz)) 0 0 (va_A w0 sz) := by
  refine Met.ofW (cc := cX9_feed) (maxL := 6) (ret := (some .int)) (by decide) rfl ?_
  intro p e s m args below meth c s₁ B hml hv
  obtain ⟨rfl, hsz, hP, hK, hD0, hSD⟩ := hv
  have hx := B.exec
  have hb := B.bytes
  have hr := B.returns
  have hlocks := B.notSynchronized
  have hts : ∀ w ∈ gT, w.before _ s = true := fun w h => atoms_spec (ws := Cond.code yX9_feed cX9_feed 6 (some .int) :: gT) B.pre w (List.mem_cons_of_mem _ h)
  have hown : s.vm.findClass RX9 = some m.cls := findClass_of_methodNamed B.named
  subst hsz
  have hD := hD0.self (sz := s.heap.size)
  generalize hAe : va_A w0 s.heap.size = A at hD hSD ⊢
  have hA : ∀ q : Nat, s.heap.size ≤ q → A q := fun q h => by rw [← hAe]; exact Or.inr h
  have hl := lv_entry ([.ref p0, .int p1, .int p2, .int p3, .int p4, .int p5]) (n := 6) (Nat.le_of_ble_eq_true rfl)
  rw [lg_entry_eq]
  generalize (lg_sl ([.ref p0, .int p1, .int p2, .int p3, .int p4, .int p5]) ++ List.replicate (6 - (lg_sl ([.ref p0, .int p1, .int p2, .int p3, .int p4, .int p5])).length) Slot.unset).toArray = ls at hl ⊢
  have hl : lv_has ls 6 [(0, .ref p0), (1, .int p1), (2, .int p2), (3, .int p3), (4, .int p4), (5, .int p5)] := hl
  refine nameQ (fun Q hQ => ?_)
  have hw : WD D cy GG A s wr_X9_feed wa_X9_feed Ps w0 Ps w0 s.heap [] := ⟨hT, hP, hD, va_S.rf, FR.rf, hT.1, [], (List.append_nil _).symm⟩
  refine lv_aload_n hx hb dX9_feed_0 rfl (lv_at hl 0 rfl) ?_
  refine tg_get (ci := 9) (ts := ty_WP) (C := RX9) (T := TX9) (N := 15) hx hb hts inX9 hown hK hw h_p0 rfl rfl 0 (by decide) (hts _ tw_346) (fun _ h9 => h9) (ft := vR 26) rfl dX9_feed_1 (fun u_1 hv_u_1 m_u_1 => ?_)
  obtain ⟨vu_1, rfl, h_vu_1⟩ := hv_u_1
  refine tk_ir (va_runV (As := []) (rest := []) ⟨hx, hb, hml, hown, hts⟩ (c_X7_hasPlaceForTwenty l D cy z s.heap.size Ps w0 hw.1 vu_1 h_vu_1) (cwV 0 hts (gV tw_396 tw_397 tw_398 tw_2 tw_399) rfl rfl rfl (by decide +kernel) ⟨Nat.le_of_ble_eq_true rfl, Nat.le_of_ble_eq_true rfl⟩) (tg_preV hw hK hSD hA (ci := 7) (q := (RX7, TX7, 12)) rfl h_vu_1 rfl) rfl rfl hl.1 rfl (lv_room (Nat.le_of_ble_eq_true rfl)) dX9_feed_4 ⟨Nat.le_of_ble_eq_true rfl, Nat.le_of_ble_eq_true rfl⟩) hw hA (fun v_2  H locs hp_v_2 hw => ?_)
  have r_v_2 : RI v_2 0 1 := hp_v_2.1
  refine lv_if_ne (tgt := 12) hx hb dX9_feed_7 (by decide) (fun c_7 => ?_) (fun c_7 => ?_)
  · have r_v_2 : RI v_2 1 1 := rc_neL r_v_2 rl_0 (ti_ne c_7) (by decide)
    refine lv_aload_n hx hb dX9_feed_12 rfl (lv_at hl 0 rfl) ?_
    refine tg_mem (ci := 9) (C := RX9) (T := TX9) (N := 15) hx hb hts inX9 hown hK hw 0 m_u_1 rfl (by decide) (hts _ tw_346) (fun _ h9 => h9) dX9_feed_13 ?_
    refine lv_iload_n hx hb dX9_feed_16 rfl (lv_at hl 1 rfl) ?_
    refine tk_v (va_runV (As := [.int p1]) (rest := []) ⟨hx, hb, hml, hown, hts⟩ (c_X7_putFour l D cy z H.size Ps w0 hw.1 vu_1 p1 h_vu_1 r_p1) (cwV 1 hts (gV tw_400 tw_401 tw_402 tw_2 tw_403) rfl rfl rfl (by decide +kernel) ⟨Nat.le_of_ble_eq_true rfl, Nat.le_of_ble_eq_true rfl⟩) (tg_preV hw hK hSD hA (ci := 7) (q := (RX7, TX7, 12)) rfl h_vu_1 rfl) rfl rfl hl.1 rfl (lv_room (Nat.le_of_ble_eq_true rfl)) dX9_feed_17 ⟨Nat.le_of_ble_eq_true rfl, Nat.le_of_ble_eq_true rfl⟩) hw hA ⟨by decide, by decide⟩ (fun ws H locs hp_v_3 hw hF9 => ?_)
    refine lv_aload_n hx hb dX9_feed_20 rfl (lv_at hl 0 rfl) ?_
    refine tg_get (ci := 9) (ts := ty_WP) (C := RX9) (T := TX9) (N := 15) hx hb hts inX9 hown hK hw h_p0 rfl rfl 0 (by decide) (hts _ tw_346) (fun _ h9 => h9) (ft := vR 26) rfl dX9_feed_21 (fun u_4 hv_u_4 m_u_4 => ?_)
    obtain ⟨vu_4, rfl, h_vu_4⟩ := hv_u_4
    refine lv_iload_n hx hb dX9_feed_24 rfl (lv_at hl 2 rfl) ?_
    refine tk_v (va_runV (As := [.int p2]) (rest := []) ⟨hx, hb, hml, hown, hts⟩ (c_X7_putFour l D cy z H.size Ps ws hw.1 vu_4 p2 h_vu_4 r_p2) (cwV 1 hts (gV tw_400 tw_401 tw_402 tw_2 tw_403) rfl rfl rfl (by decide +kernel) ⟨Nat.le_of_ble_eq_true rfl, Nat.le_of_ble_eq_true rfl⟩) (tg_preV hw hK hSD hA (ci := 7) (q := (RX7, TX7, 12)) rfl h_vu_4 rfl) rfl rfl hl.1 rfl (lv_room (Nat.le_of_ble_eq_true rfl)) dX9_feed_25 ⟨Nat.le_of_ble_eq_true rfl, Nat.le_of_ble_eq_true rfl⟩) hw hA ⟨by decide, by decide⟩ (fun ws H locs hp_v_5 hw hF9 => ?_)
    refine lv_aload_n hx hb dX9_feed_28 rfl (lv_at hl 0 rfl) ?_
    refine tg_get (ci := 9) (ts := ty_WP) (C := RX9) (T := TX9) (N := 15) hx hb hts inX9 hown hK hw h_p0 rfl rfl 0 (by decide) (hts _ tw_346) (fun _ h9 => h9) (ft := vR 26) rfl dX9_feed_29 (fun u_6 hv_u_6 m_u_6 => ?_)
    obtain ⟨vu_6, rfl, h_vu_6⟩ := hv_u_6
    refine lv_iload_n hx hb dX9_feed_32 rfl (lv_at hl 3 rfl) ?_
    refine tk_v (va_runV (As := [.int p3]) (rest := []) ⟨hx, hb, hml, hown, hts⟩ (c_X7_putFour l D cy z H.size Ps ws hw.1 vu_6 p3 h_vu_6 r_p3) (cwV 1 hts (gV tw_400 tw_401 tw_402 tw_2 tw_403) rfl rfl rfl (by decide +kernel) ⟨Nat.le_of_ble_eq_true rfl, Nat.le_of_ble_eq_true rfl⟩) (tg_preV hw hK hSD hA (ci := 7) (q := (RX7, TX7, 12)) rfl h_vu_6 rfl) rfl rfl hl.1 rfl (lv_room (Nat.le_of_ble_eq_true rfl)) dX9_feed_33 ⟨Nat.le_of_ble_eq_true rfl, Nat.le_of_ble_eq_true rfl⟩) hw hA ⟨by decide, by decide⟩ (fun ws H locs hp_v_7 hw hF9 => ?_)
    refine lv_aload_n hx hb dX9_feed_36 rfl (lv_at hl 0 rfl) ?_
    refine tg_get (ci := 9) (ts := ty_WP) (C := RX9) (T := TX9) (N := 15) hx hb hts inX9 hown hK hw h_p0 rfl rfl 0 (by decide) (hts _ tw_346) (fun _ h9 => h9) (ft := vR 26) rfl dX9_feed_37 (fun u_8 hv_u_8 m_u_8 => ?_)
    obtain ⟨vu_8, rfl, h_vu_8⟩ := hv_u_8
    refine lv_iload hx hb dX9_feed_40 (lv_at hl 4 rfl) ?_
    refine tk_v (va_runV (As := [.int p4]) (rest := []) ⟨hx, hb, hml, hown, hts⟩ (c_X7_putFour l D cy z H.size Ps ws hw.1 vu_8 p4 h_vu_8 r_p4) (cwV 1 hts (gV tw_400 tw_401 tw_402 tw_2 tw_403) rfl rfl rfl (by decide +kernel) ⟨Nat.le_of_ble_eq_true rfl, Nat.le_of_ble_eq_true rfl⟩) (tg_preV hw hK hSD hA (ci := 7) (q := (RX7, TX7, 12)) rfl h_vu_8 rfl) rfl rfl hl.1 rfl (lv_room (Nat.le_of_ble_eq_true rfl)) dX9_feed_42 ⟨Nat.le_of_ble_eq_true rfl, Nat.le_of_ble_eq_true rfl⟩) hw hA ⟨by decide, by decide⟩ (fun ws H locs hp_v_9 hw hF9 => ?_)
    refine lv_aload_n hx hb dX9_feed_45 rfl (lv_at hl 0 rfl) ?_
    refine tg_get (ci := 9) (ts := ty_WP) (C := RX9) (T := TX9) (N := 15) hx hb hts inX9 hown hK hw h_p0 rfl rfl 0 (by decide) (hts _ tw_346) (fun _ h9 => h9) (ft := vR 26) rfl dX9_feed_46 (fun u_10 hv_u_10 m_u_10 => ?_)
    obtain ⟨vu_10, rfl, h_vu_10⟩ := hv_u_10
    refine lv_iload hx hb dX9_feed_49 (lv_at hl 5 rfl) ?_
    refine tk_v (va_runV (As := [.int p5]) (rest := []) ⟨hx, hb, hml, hown, hts⟩ (c_X7_putFour l D cy z H.size Ps ws hw.1 vu_10 p5 h_vu_10 r_p5) (cwV 1 hts (gV tw_400 tw_401 tw_402 tw_2 tw_403) rfl rfl rfl (by decide +kernel) ⟨Nat.le_of_ble_eq_true rfl, Nat.le_of_ble_eq_true rfl⟩) (tg_preV hw hK hSD hA (ci := 7) (q := (RX7, TX7, 12)) rfl h_vu_10 rfl) rfl rfl hl.1 rfl (lv_room (Nat.le_of_ble_eq_true rfl)) dX9_feed_51 ⟨Nat.le_of_ble_eq_true rfl, Nat.le_of_ble_eq_true rfl⟩) hw hA ⟨by decide, by decide⟩ (fun ws H locs hp_v_11 hw hF9 => ?_)
    refine lv_aload_n hx hb dX9_feed_54 rfl (lv_at hl 0 rfl) ?_
    refine tg_get (ci := 9) (ts := ty_WP) (C := RX9) (T := TX9) (N := 15) hx hb hts inX9 hown hK hw h_p0 rfl rfl 0 (by decide) (hts _ tw_346) (fun _ h9 => h9) (ft := vR 26) rfl dX9_feed_55 (fun u_12 hv_u_12 m_u_12 => ?_)
    obtain ⟨vu_12, rfl, h_vu_12⟩ := hv_u_12
    refine tg_getN (ci := 7) (ts := ty_TAPE) (C := RX7) (T := TX7) (N := 12) hx hb hts inX7 hown hK hw h_vu_12 rfl rfl 2 (by decide) (hSD.nest tn_90) (fun _ h9 => h9) (ft := vI 0 940) rfl dX9_feed_58 (fun u_13 hv_u_13 m_u_13 => ?_)
    obtain ⟨vu_13, rfl, r_vu_13⟩ := hv_u_13
    subst hQ
    exact W.iret (v := vu_13) hx hb hr (fun t ht hW => ⟨⟨vu_13, ws, rfl, ⟨⟨r_vu_13.to (by decide), (fun h0 => trivial), (fun h0 => trivial)⟩, hw.1, hw.2.2.2.2.1⟩, by rw [ht]; exact hw.2.1, va_K.moved hW.alike hK, hw.2.2.1⟩, hw.2.2.2.1.F ht⟩) hw.2.2.2.1.2.2 dX9_feed_61
  · have r_v_2 : RI v_2 0 0 := rc_eq1 r_v_2 rl_0 (ti_eq c_7) (by decide)
    refine lv_iconst (v := (-1)) hx hb dX9_feed_10 (by decide) ?_
    subst hQ
    exact W.iret (v := (-1)) hx hb hr (fun t ht hW => ⟨⟨(-1), w0, rfl, ⟨⟨rl_m1.to (by decide), (fun _ => trivial), (fun h0 => trivial)⟩, hw.1, hw.2.2.2.2.1⟩, by rw [ht]; exact hw.2.1, va_K.moved hW.alike hK, hw.2.2.1⟩, hw.2.2.2.1.F ht⟩) hw.2.2.2.1.2.2 dX9_feed_11
abbrev wr_J6_bitCount_0f7a4 : List (Nat × Nat) := []
abbrev wa_J6_bitCount_0f7a4 : List Nat := []
set_option maxHeartbeats 4000000 in
set_option maxRecDepth 100000 in
theorem c_J6_bitCount_0f7a4 (l : Launch) (D : va_G) (cy : Nat → ClassId) (z : Nat → Nat) (sz : Nat) (Ps : PSI) (w0 : va_W) (hT : HT cy GG Ps w0) (p0 : Int32) (r_p0 : RI p0 (-2147483648) 2147483647) : Met l yJ6_bitCount_0f7a4 (Cond.code yJ6_bitCount_0f7a4 cJ6_bitCount_0f7a4 1 (some .int) :: gT) ({ frames := 0, cells := 0, slots := 0, locals := 200 } : Room) (va_Pc [.int p0] (PRE D cy z w0 sz)) (va_Qi (fun (r : Int32) (u : Unit) => RI r 0 63 ∧ (r = 0 → True) ∧ (¬ r = 0 → True)) (BB D cy (va_A w0 sz) (fun (u : Unit) => w0)) (va_A w0 sz)) 0 0 (va_A w0 sz) := by
  refine Met.ofW (cc := cJ6_bitCount_0f7a4) (maxL := 1) (ret := (some .int)) (by decide) rfl ?_
  intro p e s m args below meth c s₁ B hml hv
  obtain ⟨rfl, hsz, hP, hK, hD0, hSD⟩ := hv
  have hx := B.exec
  have hb := B.bytes
  have hr := B.returns
  have hlocks := B.notSynchronized
  have hts : ∀ w ∈ gT, w.before _ s = true := fun w h => atoms_spec (ws := Cond.code yJ6_bitCount_0f7a4 cJ6_bitCount_0f7a4 1 (some .int) :: gT) B.pre w (List.mem_cons_of_mem _ h)
  have hown : s.vm.findClass RJ6 = some m.cls := findClass_of_methodNamed B.named
  subst hsz
  have hD := hD0.self (sz := s.heap.size)
  generalize hAe : va_A w0 s.heap.size = A at hD hSD ⊢
  have hA : ∀ q : Nat, s.heap.size ≤ q → A q := fun q h => by rw [← hAe]; exact Or.inr h
  have hl := lv_entry ([.int p0]) (n := 1) (Nat.le_of_ble_eq_true rfl)
  rw [lg_entry_eq]
  generalize (lg_sl ([.int p0]) ++ List.replicate (1 - (lg_sl ([.int p0])).length) Slot.unset).toArray = ls at hl ⊢
  have hl : lv_has ls 1 [(0, .int p0)] := hl
  refine nameQ (fun Q hQ => ?_)
  have hw : WD D cy GG A s wr_J6_bitCount_0f7a4 wa_J6_bitCount_0f7a4 Ps w0 Ps w0 s.heap [] := ⟨hT, hP, hD, va_S.rf, FR.rf, hT.1, [], (List.append_nil _).symm⟩
  refine lv_iload_n hx hb dJ6_bitCount_0f7a4_0 rfl (lv_at hl 0 rfl) ?_
  refine lv_iload_n hx hb dJ6_bitCount_0f7a4_1 rfl (lv_at hl 0 rfl) ?_
  refine lv_iconst (v := 1) hx hb dJ6_bitCount_0f7a4_2 (by decide) ?_
  obtain ⟨v_1, e_v_1⟩ : ∃ q9 : Int32, (Int32.toUInt32 p0 >>> (Int32.toUInt32 1 &&& Int32.toUInt32 31)).toInt32 = q9 := ⟨_, rfl⟩
  refine lv_iushr (v := v_1) hx hb dJ6_bitCount_0f7a4_3 e_v_1 ?_
  have r_v_1 := ri_any v_1
  refine lv_ldcw (v := 1431655765) hx hb hown (hts _ tw_741) dJ6_bitCount_0f7a4_4 ?_
  refine lv_iand hx hb dJ6_bitCount_0f7a4_7 (lv_topi (fun v_2 e_v_2 => ?_))
  have r_v_2 : RI v_2 0 1431655765 := by rw [e_v_2]; exact ri_and (d := 1431655765) (rl_1431655765.to (by decide)) (by decide)
  refine lv_isub hx hb dJ6_bitCount_0f7a4_8 (lv_topi (fun v_3 e_v_3 => ?_))
  have r_v_3 := ri_any v_3
  refine lv_istore_n (lv' := [(0, .int v_3)]) hx hb dJ6_bitCount_0f7a4_9 rfl hl (by decide) rfl (fun ls hl => ?_)
  refine lv_iload_n hx hb dJ6_bitCount_0f7a4_10 rfl (lv_at hl 0 rfl) ?_
  refine lv_ldcw (v := 858993459) hx hb hown (hts _ tw_742) dJ6_bitCount_0f7a4_11 ?_
  refine lv_iand hx hb dJ6_bitCount_0f7a4_14 (lv_topi (fun v_4 e_v_4 => ?_))
  have r_v_4 : RI v_4 0 858993459 := by rw [e_v_4]; exact ri_and (d := 858993459) (rl_858993459.to (by decide)) (by decide)
  refine lv_iload_n hx hb dJ6_bitCount_0f7a4_15 rfl (lv_at hl 0 rfl) ?_
  refine lv_iconst (v := 2) hx hb dJ6_bitCount_0f7a4_16 (by decide) ?_
  obtain ⟨v_5, e_v_5⟩ : ∃ q9 : Int32, (Int32.toUInt32 v_3 >>> (Int32.toUInt32 2 &&& Int32.toUInt32 31)).toInt32 = q9 := ⟨_, rfl⟩
  refine lv_iushr (v := v_5) hx hb dJ6_bitCount_0f7a4_17 e_v_5 ?_
  have r_v_5 := ri_any v_5
  refine lv_ldcw (v := 858993459) hx hb hown (hts _ tw_742) dJ6_bitCount_0f7a4_18 ?_
  refine lv_iand hx hb dJ6_bitCount_0f7a4_21 (lv_topi (fun v_6 e_v_6 => ?_))
  have r_v_6 : RI v_6 0 858993459 := by rw [e_v_6]; exact ri_and (d := 858993459) (rl_858993459.to (by decide)) (by decide)
  refine lv_iadd hx hb dJ6_bitCount_0f7a4_22 (lv_topi (fun v_7 e_v_7 => ?_))
  obtain ⟨t_v_7, r_v_7⟩ := tq_add (lo := 0) (hi := 1717986918) r_v_4 r_v_6 (by decide +kernel) e_v_7
  refine lv_istore_n (lv' := [(0, .int v_7)]) hx hb dJ6_bitCount_0f7a4_23 rfl hl (by decide) rfl (fun ls hl => ?_)
  refine lv_iload_n hx hb dJ6_bitCount_0f7a4_24 rfl (lv_at hl 0 rfl) ?_
  refine lv_iload_n hx hb dJ6_bitCount_0f7a4_25 rfl (lv_at hl 0 rfl) ?_
  refine lv_iconst (v := 4) hx hb dJ6_bitCount_0f7a4_26 (by decide) ?_
  obtain ⟨v_8, e_v_8⟩ : ∃ q9 : Int32, (Int32.toUInt32 v_7 >>> (Int32.toUInt32 4 &&& Int32.toUInt32 31)).toInt32 = q9 := ⟨_, rfl⟩
  refine lv_iushr (v := v_8) hx hb dJ6_bitCount_0f7a4_27 e_v_8 ?_
  have r_v_8 := ri_any v_8
  refine lv_iadd hx hb dJ6_bitCount_0f7a4_28 (lv_topi (fun v_9 e_v_9 => ?_))
  have r_v_9 := ri_any v_9
  refine lv_ldcw (v := 252645135) hx hb hown (hts _ tw_743) dJ6_bitCount_0f7a4_29 ?_
  refine lv_iand hx hb dJ6_bitCount_0f7a4_32 (lv_topi (fun v_10 e_v_10 => ?_))
  have r_v_10 : RI v_10 0 252645135 := by rw [e_v_10]; exact ri_and (d := 252645135) (rl_252645135.to (by decide)) (by decide)
  refine lv_istore_n (lv' := [(0, .int v_10)]) hx hb dJ6_bitCount_0f7a4_33 rfl hl (by decide) rfl (fun ls hl => ?_)
  refine lv_iload_n hx hb dJ6_bitCount_0f7a4_34 rfl (lv_at hl 0 rfl) ?_
  refine lv_iload_n hx hb dJ6_bitCount_0f7a4_35 rfl (lv_at hl 0 rfl) ?_
  refine lv_bipush (v := 8) hx hb dJ6_bitCount_0f7a4_36 (by decide) ?_
  obtain ⟨v_11, e_v_11⟩ : ∃ q9 : Int32, (Int32.toUInt32 v_10 >>> (Int32.toUInt32 8 &&& Int32.toUInt32 31)).toInt32 = q9 := ⟨_, rfl⟩
  refine lv_iushr (v := v_11) hx hb dJ6_bitCount_0f7a4_38 e_v_11 ?_
  have r_v_11 : RI v_11 0 16777215 := by rw [← e_v_11]; exact ri_ushr8 _
  refine lv_iadd hx hb dJ6_bitCount_0f7a4_39 (lv_topi (fun v_12 e_v_12 => ?_))
  obtain ⟨t_v_12, r_v_12⟩ := tq_add (lo := 0) (hi := 269422350) r_v_10 r_v_11 (by decide +kernel) e_v_12
  refine lv_istore_n (lv' := [(0, .int v_12)]) hx hb dJ6_bitCount_0f7a4_40 rfl hl (by decide) rfl (fun ls hl => ?_)
  refine lv_iload_n hx hb dJ6_bitCount_0f7a4_41 rfl (lv_at hl 0 rfl) ?_
  refine lv_iload_n hx hb dJ6_bitCount_0f7a4_42 rfl (lv_at hl 0 rfl) ?_
  refine lv_bipush (v := 16) hx hb dJ6_bitCount_0f7a4_43 (by decide) ?_
  obtain ⟨v_13, e_v_13⟩ : ∃ q9 : Int32, (Int32.toUInt32 v_12 >>> (Int32.toUInt32 16 &&& Int32.toUInt32 31)).toInt32 = q9 := ⟨_, rfl⟩
  refine lv_iushr (v := v_13) hx hb dJ6_bitCount_0f7a4_45 e_v_13 ?_
  have r_v_13 := ri_any v_13
  refine lv_iadd hx hb dJ6_bitCount_0f7a4_46 (lv_topi (fun v_14 e_v_14 => ?_))
  have r_v_14 := ri_any v_14
  refine lv_istore_n (lv' := [(0, .int v_14)]) hx hb dJ6_bitCount_0f7a4_47 rfl hl (by decide) rfl (fun ls hl => ?_)
  refine lv_iload_n hx hb dJ6_bitCount_0f7a4_48 rfl (lv_at hl 0 rfl) ?_
  refine lv_bipush (v := 63) hx hb dJ6_bitCount_0f7a4_49 (by decide) ?_
  refine lv_iand hx hb dJ6_bitCount_0f7a4_51 (lv_topi (fun v_15 e_v_15 => ?_))
  have r_v_15 : RI v_15 0 63 := by rw [e_v_15]; exact ri_and (d := 63) (rl_63.to (by decide)) (by decide)
  subst hQ
  exact W.iret (v := v_15) hx hb hr (fun t ht hW => ⟨⟨v_15, (), rfl, ⟨r_v_15.to (by decide), (fun h0 => trivial), (fun h0 => trivial)⟩, by rw [ht]; exact hw.2.1, va_K.moved hW.alike hK, hw.2.2.1⟩, hw.2.2.2.1.F ht⟩) hw.2.2.2.1.2.2 dJ6_bitCount_0f7a4_52
abbrev wr_X9_fewestSitters : List (Nat × Nat) := [(8, 0), (8, 1)]
abbrev wa_X9_fewestSitters : List Nat := [8, 9, 10, 11, 12, 13, 14]
set_option maxHeartbeats 4000000 in
set_option maxRecDepth 100000 in
theorem c_X9_fewestSitters (l : Launch) (D : va_G) (cy : Nat → ClassId) (z : Nat → Nat) (sz : Nat) (Ps : PSI) (w0 : va_W) (hT : HT cy GG Ps w0) (p0 : Nat) (p1 : Int32) (p2 : Int32) (p3 : Int32) (h_p0 : (p0, 33) ∈ Ps) (r_p1 : RI p1 0 5) (r_p2 : RI p2 (-2147483648) 2147483647) (r_p3 : RI p3 (-2147483648) 2147483647) : Met l yX9_fewestSitters (Cond.code yX9_fewestSitters cX9_fewestSitters 7 (some .int) :: gT) ({ frames := 3, cells := 0, slots := 0, locals := 600 } : Room) (va_Pc [.ref p0, .int p1, .int p2, .int p3] (PRE D cy z w0 sz)) (va_Qi (fun (r : Int32) (u : va_W) => (RI r (-1) 255 ∧ (r = 0 → True) ∧ (¬ r = 0 → True)) ∧ HT cy GG Ps u ∧ FR wr_X9_fewestSitters wa_X9_fewestSitters Ps w0 u) (BB D cy (va_A w0 sz) (fun (u : va_W) => u)) (va_A w0 sz)) 0 0 (va_A w0 sz) := by
  refine Met.ofW (cc := cX9_fewestSitters) (maxL := 7) (ret := (some .int)) (by decide) rfl ?_
  intro p e s m args below meth c s₁ B hml hv
  obtain ⟨rfl, hsz, hP, hK, hD0, hSD⟩ := hv
  have hx := B.exec
  have hb := B.bytes
  have hr := B.returns
  have hlocks := B.notSynchronized
  have hts : ∀ w ∈ gT, w.before _ s = true := fun w h => atoms_spec (ws := Cond.code yX9_fewestSitters cX9_fewestSitters 7 (some .int) :: gT) B.pre w (List.mem_cons_of_mem _ h)
  have hown : s.vm.findClass RX9 = some m.cls := findClass_of_methodNamed B.named
  subst hsz
  have hD := hD0.self (sz := s.heap.size)
  generalize hAe : va_A w0 s.heap.size = A at hD hSD ⊢
  have hA : ∀ q : Nat, s.heap.size ≤ q → A q := fun q h => by rw [← hAe]; exact Or.inr h
  have hl := lv_entry ([.ref p0, .int p1, .int p2, .int p3]) (n := 7) (Nat.le_of_ble_eq_true rfl)
  rw [lg_entry_eq]
  generalize (lg_sl ([.ref p0, .int p1, .int p2, .int p3]) ++ List.replicate (7 - (lg_sl ([.ref p0, .int p1, .int p2, .int p3])).length) Slot.unset).toArray = ls at hl ⊢
  have hl : lv_has ls 7 [(0, .ref p0), (1, .int p1), (2, .int p2), (3, .int p3)] := hl
  refine nameQ (fun Q hQ => ?_)
  have hw : WD D cy GG A s wr_X9_fewestSitters wa_X9_fewestSitters Ps w0 Ps w0 s.heap [] := ⟨hT, hP, hD, va_S.rf, FR.rf, hT.1, [], (List.append_nil _).symm⟩
  have B33 : ∀ (nf : Nat) (x4 : Int32) (x5 : Int32) (x6 : Int32) (ws : va_W) (H : Heap) (locs : List Loc) (ls : Array Slot), 256 - x6.toInt < (nf : Int) → RI p1 0 5 → RI p2 (-2147483648) 2147483647 → RI p3 (-2147483648) 2147483647 → RI x4 (-1) 255 → RI x5 1 256 → RI x6 0 256 → WD D cy GG A s wr_X9_fewestSitters wa_X9_fewestSitters Ps w0 Ps ws H locs → lv_has ls 7 [(0, .ref p0), (1, .int p1), (2, .int p2), (3, .int p3), (4, .int x4), (5, .int x5), (6, .int x6)] → W p l e (headSpec (Cond.code yX9_fewestSitters cX9_fewestSitters 7 (some .int) :: gT) ({ frames := 3, cells := 0, slots := 0, locals := 600 } : Room)).room s m ([.ref p0, .int p1, .int p2, .int p3] : List Value).toArray below meth c H locs 0 0 Q (F0 m 33 ls []) := by
    intro nf33
    induction nf33 with
    | zero =>
      intro x4 x5 x6 ws H locs ls hn33 r_p1 r_p2 r_p3 r_x4 r_x5 r_x6 hw hl
      exact absurd hn33 (by have q0 := r_x6.1; have u0 := r_x6.2; omega)
    | succ nf33 ih33 =>
      have B62 : ∀ (x4 : Int32) (x5 : Int32) (x6 : Int32) (ws : va_W) (H : Heap) (locs : List Loc) (ls : Array Slot), RI p1 0 5 → RI p2 (-2147483648) 2147483647 → RI p3 (-2147483648) 2147483647 → RI x4 (-1) 255 → RI x5 1 256 → RI x6 0 255 → 256 - x6.toInt < ((nf33 + 1 : Nat) : Int) → WD D cy GG A s wr_X9_fewestSitters wa_X9_fewestSitters Ps w0 Ps ws H locs → lv_has ls 7 [(0, .ref p0), (1, .int p1), (2, .int p2), (3, .int p3), (4, .int x4), (5, .int x5), (6, .int x6)] → W p l e (headSpec (Cond.code yX9_fewestSitters cX9_fewestSitters 7 (some .int) :: gT) ({ frames := 3, cells := 0, slots := 0, locals := 600 } : Room)).room s m ([.ref p0, .int p1, .int p2, .int p3] : List Value).toArray below meth c H locs 0 0 Q (F0 m 62 ls []) := by
        intro x4 x5 x6 ws H locs ls r_p1 r_p2 r_p3 r_x4 r_x5 r_x6 hn33 hw hl
        refine lv_aload_n hx hb dX9_fewestSitters_62 rfl (lv_at hl 0 rfl) ?_
        refine tg_get (ci := 9) (ts := ty_WP) (C := RX9) (T := TX9) (N := 15) hx hb hts inX9 hown hK hw h_p0 rfl rfl 2 (by decide) (hts _ tw_348) (fun _ h9 => h9) (ft := vR 24) rfl dX9_fewestSitters_63 (fun u_1 hv_u_1 m_u_1 => ?_)
        obtain ⟨vu_1, rfl, h_vu_1⟩ := hv_u_1
        refine lv_iload hx hb dX9_fewestSitters_66 (lv_at hl 6 rfl) ?_
        refine lv_iload_n hx hb dX9_fewestSitters_68 rfl (lv_at hl 1 rfl) ?_
        refine lv_aload_n hx hb dX9_fewestSitters_69 rfl (lv_at hl 0 rfl) ?_
        refine tg_get (ci := 9) (ts := ty_WP) (C := RX9) (T := TX9) (N := 15) hx hb hts inX9 hown hK hw h_p0 rfl rfl 1 (by decide) (hts _ tw_347) (fun _ h9 => h9) (ft := vR 24) rfl dX9_fewestSitters_70 (fun u_2 hv_u_2 m_u_2 => ?_)
        obtain ⟨vu_2, rfl, h_vu_2⟩ := hv_u_2
        refine tk_v (va_runV (As := [.int x6, .int p1, .ref vu_2]) (rest := []) ⟨hx, hb, hml, hown, hts⟩ (c_X8_seatJust l D cy z H.size Ps ws hw.1 vu_1 x6 p1 vu_2 h_vu_1 (r_x6.to (by decide)) r_p1 h_vu_2) (cwV 3 hts (gV tw_744 tw_745 tw_746 tw_12 tw_747) rfl rfl rfl (by decide +kernel) ⟨Nat.le_of_ble_eq_true rfl, Nat.le_of_ble_eq_true rfl⟩) (tg_preV hw hK hSD hA (ci := 8) (q := (RX8, TX8, 13)) rfl h_vu_1 rfl) rfl rfl hl.1 rfl (lv_room (Nat.le_of_ble_eq_true rfl)) dX9_fewestSitters_73 ⟨Nat.le_of_ble_eq_true rfl, Nat.le_of_ble_eq_true rfl⟩) hw hA ⟨by decide, by decide⟩ (fun ws H locs hp_v_3 hw hF9 => ?_)
        refine lv_aload_n hx hb dX9_fewestSitters_76 rfl (lv_at hl 0 rfl) ?_
        refine tg_get (ci := 9) (ts := ty_WP) (C := RX9) (T := TX9) (N := 15) hx hb hts inX9 hown hK hw h_p0 rfl rfl 2 (by decide) (hts _ tw_348) (fun _ h9 => h9) (ft := vR 24) rfl dX9_fewestSitters_77 (fun u_4 hv_u_4 m_u_4 => ?_)
        obtain ⟨vu_4, rfl, h_vu_4⟩ := hv_u_4
        refine lv_iload_n hx hb dX9_fewestSitters_80 rfl (lv_at hl 1 rfl) ?_
        refine tk_i (va_runV (As := [.int p1]) (rest := []) ⟨hx, hb, hml, hown, hts⟩ (c_X8_reckonGain l D cy z H.size Ps ws hw.1 vu_4 p1 h_vu_4 r_p1) (cwV 1 hts (gV tw_727 tw_690 tw_691 tw_12 tw_692) rfl rfl rfl (by decide +kernel) ⟨Nat.le_of_ble_eq_true rfl, Nat.le_of_ble_eq_true rfl⟩) (tg_preV hw hK hSD hA (ci := 8) (q := (RX8, TX8, 13)) rfl h_vu_4 rfl) rfl rfl hl.1 rfl (lv_room (Nat.le_of_ble_eq_true rfl)) dX9_fewestSitters_81 ⟨Nat.le_of_ble_eq_true rfl, Nat.le_of_ble_eq_true rfl⟩) hw hA ⟨by decide, by decide⟩ (fun v_5 ws H locs hp_v_5 hw hF9 => ?_)
        have r_v_5 : RI v_5 0 1 := hp_v_5.1
        refine lv_pop hx hb dX9_fewestSitters_84 rfl ?_
        refine lv_aload_n hx hb dX9_fewestSitters_85 rfl (lv_at hl 0 rfl) ?_
        refine tg_get (ci := 9) (ts := ty_WP) (C := RX9) (T := TX9) (N := 15) hx hb hts inX9 hown hK hw h_p0 rfl rfl 2 (by decide) (hts _ tw_348) (fun _ h9 => h9) (ft := vR 24) rfl dX9_fewestSitters_86 (fun u_6 hv_u_6 m_u_6 => ?_)
        obtain ⟨vu_6, rfl, h_vu_6⟩ := hv_u_6
        refine lv_iload_n hx hb dX9_fewestSitters_89 rfl (lv_at hl 1 rfl) ?_
        refine lv_iload_n hx hb dX9_fewestSitters_90 rfl (lv_at hl 3 rfl) ?_
        refine tk_ir (va_runV (As := [.int p1, .int p3]) (rest := []) ⟨hx, hb, hml, hown, hts⟩ (c_X8_becomes l D cy z H.size Ps ws hw.1 vu_6 p1 p3 h_vu_6 r_p1 r_p3) (cwV 2 hts (gV tw_728 tw_574 tw_575 tw_12 tw_576) rfl rfl rfl (by decide +kernel) ⟨Nat.le_of_ble_eq_true rfl, Nat.le_of_ble_eq_true rfl⟩) (tg_preV hw hK hSD hA (ci := 8) (q := (RX8, TX8, 13)) rfl h_vu_6 rfl) rfl rfl hl.1 rfl (lv_room (Nat.le_of_ble_eq_true rfl)) dX9_fewestSitters_91 ⟨Nat.le_of_ble_eq_true rfl, Nat.le_of_ble_eq_true rfl⟩) hw hA (fun v_7  H locs hp_v_7 hw => ?_)
        have r_v_7 : RI v_7 (-1) 5 := hp_v_7.1
        refine lv_iload_n hx hb dX9_fewestSitters_94 rfl (lv_at hl 2 rfl) ?_
        refine lv_icmp_ne (tgt := 102) hx hb dX9_fewestSitters_95 (by decide) (fun c_95 => ?_) (fun c_95 => ?_)
        · obtain ⟨v_8, e_v_8⟩ : ∃ q9 : Int32, q9 = x6 + Int32.ofInt 1 := ⟨_, rfl⟩
          obtain ⟨t_v_8, r_v_8⟩ := tq_add (lo := 1) (hi := 256) r_x6 (show RI (Int32.ofInt 1) 1 1 by unfold RI; decide +kernel) (by decide +kernel) e_v_8
          have t_v_8 : v_8.toInt = x6.toInt + 1 := t_v_8
          refine lv_iinc (v := v_8) (lv' := [(6, .int v_8), (0, .ref p0), (1, .int p1), (2, .int p2), (3, .int p3), (4, .int x4), (5, .int x5)]) hx hb dX9_fewestSitters_102 hl (k := 6) rfl e_v_8.symm (by decide) rfl (fun ls hl => ?_)
          refine lv_goto (tgt := 33) hx hb dX9_fewestSitters_105 (by decide) ?_
          exact ih33 x4 x5 v_8 ws _ _ ls (by have q0 := r_v_8.1; have u0 := r_v_8.2; have o0 := r_x6.1; have p0 := r_x6.2; omega) r_p1 r_p2 r_p3 r_x4 r_x5 (r_v_8.to (by decide)) hw (lv_sub hl [1, 2, 3, 4, 5, 6, 0] rfl)
        · have r_p2 : RI p2 (-1) 5 := rc_eq2 r_v_7 r_p2 (ti_eq c_95) (by decide)
          refine lv_iload hx hb dX9_fewestSitters_98 (lv_at hl 6 rfl) ?_
          refine lv_istore (lv' := [(4, .int x6), (0, .ref p0), (1, .int p1), (2, .int p2), (3, .int p3), (5, .int x5), (6, .int x6)]) hx hb dX9_fewestSitters_100 hl (by decide) rfl (fun ls hl => ?_)
          obtain ⟨v_9, e_v_9⟩ : ∃ q9 : Int32, q9 = x6 + Int32.ofInt 1 := ⟨_, rfl⟩
          obtain ⟨t_v_9, r_v_9⟩ := tq_add (lo := 1) (hi := 256) r_x6 (show RI (Int32.ofInt 1) 1 1 by unfold RI; decide +kernel) (by decide +kernel) e_v_9
          have t_v_9 : v_9.toInt = x6.toInt + 1 := t_v_9
          refine lv_iinc (v := v_9) (lv' := [(6, .int v_9), (4, .int x6), (0, .ref p0), (1, .int p1), (2, .int p2), (3, .int p3), (5, .int x5)]) hx hb dX9_fewestSitters_102 hl (k := 6) rfl e_v_9.symm (by decide) rfl (fun ls hl => ?_)
          refine lv_goto (tgt := 33) hx hb dX9_fewestSitters_105 (by decide) ?_
          exact ih33 x6 x5 v_9 ws _ _ ls (by have q0 := r_v_9.1; have u0 := r_v_9.2; have o0 := r_x6.1; have p0 := r_x6.2; omega) r_p1 (r_p2.to (by decide)) r_p3 (r_x6.to (by decide)) r_x5 (r_v_9.to (by decide)) hw (lv_sub hl [2, 3, 4, 5, 1, 6, 0] rfl)
      intro x4 x5 x6 ws H locs ls hn33 r_p1 r_p2 r_p3 r_x4 r_x5 r_x6 hw hl
      refine lv_iload hx hb dX9_fewestSitters_33 (lv_at hl 6 rfl) ?_
      refine lv_iload hx hb dX9_fewestSitters_35 (lv_at hl 5 rfl) ?_
      refine lv_icmp_ge (tgt := 108) hx hb dX9_fewestSitters_37 (by decide) (fun c_37 => ?_) (fun c_37 => ?_)
      · have r_x6 : RI x6 1 256 := rc_le2 r_x5 r_x6 (ti_le c_37) (by decide)
        refine lv_iload hx hb dX9_fewestSitters_108 (lv_at hl 4 rfl) ?_
        subst hQ
        exact W.iret (v := x4) hx hb hr (fun t ht hW => ⟨⟨x4, ws, rfl, ⟨⟨r_x4.to (by decide), (fun h0 => trivial), (fun h0 => trivial)⟩, hw.1, hw.2.2.2.2.1⟩, by rw [ht]; exact hw.2.1, va_K.moved hW.alike hK, hw.2.2.1⟩, hw.2.2.2.1.F ht⟩) hw.2.2.2.1.2.2 dX9_fewestSitters_110
      · have r_x6 : RI x6 0 255 := rc_lt1 r_x6 r_x5 (ti_nle c_37) (by decide)
        refine lv_iload hx hb dX9_fewestSitters_40 (lv_at hl 4 rfl) ?_
        refine lv_iconst (v := (-1)) hx hb dX9_fewestSitters_42 (by decide) ?_
        refine lv_icmp_eq (tgt := 62) hx hb dX9_fewestSitters_43 (by decide) (fun c_43 => ?_) (fun c_43 => ?_)
        · have r_x4 : RI x4 (-1) (-1) := rc_eq1 r_x4 rl_m1 (ti_eq c_43) (by decide)
          exact B62 x4 x5 x6 ws _ _ ls r_p1 r_p2 r_p3 (r_x4.to (by decide)) r_x5 r_x6 (by have q0 := r_x6.1; have u0 := r_x6.2; omega) hw hl
        · have r_x4 : RI x4 0 255 := rc_neL r_x4 rl_m1 (ti_ne c_43) (by decide)
          refine lv_iload hx hb dX9_fewestSitters_46 (lv_at hl 6 rfl) ?_
          refine tk_ir (va_runS (As := [.int x6]) (rest := []) ⟨hx, hb, hml, hown, hts⟩ (c_J6_bitCount_0f7a4 l D cy z H.size Ps ws hw.1 x6 (r_x6.to (by decide))) (va_cwS 1 hts (gS tw_738 tw_739 tw_22 tw_740) rfl rfl rfl (by decide +kernel) ⟨Nat.le_of_ble_eq_true rfl, Nat.le_of_ble_eq_true rfl⟩) (tg_preS hw hK hSD hA) rfl rfl hl.1 rfl (lv_room (Nat.le_of_ble_eq_true rfl)) dX9_fewestSitters_48 ⟨Nat.le_of_ble_eq_true rfl, Nat.le_of_ble_eq_true rfl⟩) hw hA (fun v_10  H locs hp_v_10 hw => ?_)
          have r_v_10 : RI v_10 0 63 := hp_v_10.1
          refine lv_iload hx hb dX9_fewestSitters_51 (lv_at hl 4 rfl) ?_
          refine tk_ir (va_runS (As := [.int x4]) (rest := [.int v_10]) ⟨hx, hb, hml, hown, hts⟩ (c_J6_bitCount_0f7a4 l D cy z H.size Ps ws hw.1 x4 (r_x4.to (by decide))) (va_cwS 1 hts (gS tw_738 tw_739 tw_22 tw_740) rfl rfl rfl (by decide +kernel) ⟨Nat.le_of_ble_eq_true rfl, Nat.le_of_ble_eq_true rfl⟩) (tg_preS hw hK hSD hA) rfl rfl hl.1 rfl (lv_room (Nat.le_of_ble_eq_true rfl)) dX9_fewestSitters_53 ⟨Nat.le_of_ble_eq_true rfl, Nat.le_of_ble_eq_true rfl⟩) hw hA (fun v_11  H locs hp_v_11 hw => ?_)
          have r_v_11 : RI v_11 0 63 := hp_v_11.1
          refine lv_icmp_lt (tgt := 62) hx hb dX9_fewestSitters_56 (by decide) (fun c_56 => ?_) (fun c_56 => ?_)
          · have r_v_10 : RI v_10 0 62 := rc_lt1 r_v_10 r_v_11 (ti_lt c_56) (by decide)
            have r_v_11 : RI v_11 1 63 := rc_lt2 r_v_10 r_v_11 (ti_lt c_56) (by decide)
            exact B62 x4 x5 x6 ws _ _ ls r_p1 r_p2 r_p3 (r_x4.to (by decide)) r_x5 r_x6 (by have q0 := r_x6.1; have u0 := r_x6.2; omega) hw hl
          · refine lv_goto (tgt := 102) hx hb dX9_fewestSitters_59 (by decide) ?_
            obtain ⟨v_12, e_v_12⟩ : ∃ q9 : Int32, q9 = x6 + Int32.ofInt 1 := ⟨_, rfl⟩
            obtain ⟨t_v_12, r_v_12⟩ := tq_add (lo := 1) (hi := 256) r_x6 (show RI (Int32.ofInt 1) 1 1 by unfold RI; decide +kernel) (by decide +kernel) e_v_12
            have t_v_12 : v_12.toInt = x6.toInt + 1 := t_v_12
            refine lv_iinc (v := v_12) (lv' := [(6, .int v_12), (0, .ref p0), (1, .int p1), (2, .int p2), (3, .int p3), (4, .int x4), (5, .int x5)]) hx hb dX9_fewestSitters_102 hl (k := 6) rfl e_v_12.symm (by decide) rfl (fun ls hl => ?_)
            refine lv_goto (tgt := 33) hx hb dX9_fewestSitters_105 (by decide) ?_
            exact ih33 x4 x5 v_12 ws _ _ ls (by have q0 := r_v_12.1; have u0 := r_v_12.2; have o0 := r_x6.1; have p0 := r_x6.2; omega) r_p1 r_p2 r_p3 (r_x4.to (by decide)) r_x5 (r_v_12.to (by decide)) hw (lv_sub hl [1, 2, 3, 4, 5, 6, 0] rfl)
  refine lv_aload_n hx hb dX9_fewestSitters_0 rfl (lv_at hl 0 rfl) ?_
  refine tg_get (ci := 9) (ts := ty_WP) (C := RX9) (T := TX9) (N := 15) hx hb hts inX9 hown hK hw h_p0 rfl rfl 2 (by decide) (hts _ tw_348) (fun _ h9 => h9) (ft := vR 24) rfl dX9_fewestSitters_1 (fun u_13 hv_u_13 m_u_13 => ?_)
  obtain ⟨vu_13, rfl, h_vu_13⟩ := hv_u_13
  refine lv_aload_n hx hb dX9_fewestSitters_4 rfl (lv_at hl 0 rfl) ?_
  refine tg_get (ci := 9) (ts := ty_WP) (C := RX9) (T := TX9) (N := 15) hx hb hts inX9 hown hK hw h_p0 rfl rfl 1 (by decide) (hts _ tw_347) (fun _ h9 => h9) (ft := vR 24) rfl dX9_fewestSitters_5 (fun u_14 hv_u_14 m_u_14 => ?_)
  obtain ⟨vu_14, rfl, h_vu_14⟩ := hv_u_14
  refine tk_v (va_runV (As := [.ref vu_14]) (rest := []) ⟨hx, hb, hml, hown, hts⟩ (c_X8_takeFrom l D cy z s.heap.size Ps w0 hw.1 vu_13 vu_14 h_vu_13 h_vu_14) (cwV 1 hts (gV tw_521 tw_522 tw_523 tw_12 tw_524) rfl rfl rfl (by decide +kernel) ⟨Nat.le_of_ble_eq_true rfl, Nat.le_of_ble_eq_true rfl⟩) (tg_preV hw hK hSD hA (ci := 8) (q := (RX8, TX8, 13)) rfl h_vu_13 rfl) rfl rfl hl.1 rfl (lv_room (Nat.le_of_ble_eq_true rfl)) dX9_fewestSitters_8 ⟨Nat.le_of_ble_eq_true rfl, Nat.le_of_ble_eq_true rfl⟩) hw hA ⟨by decide, by decide⟩ (fun ws H locs hp_v_15 hw hF9 => ?_)
  refine lv_iconst (v := (-1)) hx hb dX9_fewestSitters_11 (by decide) ?_
  refine lv_istore (lv' := [(4, .int (-1)), (0, .ref p0), (1, .int p1), (2, .int p2), (3, .int p3)]) hx hb dX9_fewestSitters_12 hl (by decide) rfl (fun ls hl => ?_)
  refine lv_iconst (v := 1) hx hb dX9_fewestSitters_14 (by decide) ?_
  refine lv_aload_n hx hb dX9_fewestSitters_15 rfl (lv_at hl 1 rfl) ?_
  refine tg_get (ci := 9) (ts := ty_WP) (C := RX9) (T := TX9) (N := 15) hx hb hts inX9 hown hK hw h_p0 rfl rfl 1 (by decide) (hts _ tw_347) (fun _ h9 => h9) (ft := vR 24) rfl dX9_fewestSitters_16 (fun u_16 hv_u_16 m_u_16 => ?_)
  obtain ⟨vu_16, rfl, h_vu_16⟩ := hv_u_16
  refine tg_getN (ci := 8) (ts := ty_WORLD) (C := RX8) (T := TX8) (N := 13) hx hb hts inX8 hown hK hw h_vu_16 rfl rfl 0 (by decide) (hSD.nest tn_249) (fun _ h9 => h9) (ft := vR 25) rfl dX9_fewestSitters_19 (fun u_17 hv_u_17 m_u_17 => ?_)
  obtain ⟨vu_17, rfl, h_vu_17⟩ := hv_u_17
  refine tg_getN (ci := 3) (ts := ty_POST) (C := RX3) (T := TX3) (N := 9) hx hb hts inX3 hown hK hw h_vu_17 rfl rfl 1 (by decide) (hSD.nest tn_204) (fun _ h9 => h9) (ft := vR 4) rfl dX9_fewestSitters_22 (fun u_18 hv_u_18 m_u_18 => ?_)
  obtain ⟨vu_18, rfl, h_vu_18⟩ := hv_u_18
  refine lv_iconst (v := 3) hx hb dX9_fewestSitters_25 (by decide) ?_
  refine tg_iald (lo := 0) (hi := 8) hx hb hK hw h_vu_18 rfl 3 3 rl_3 (by decide) (by decide +kernel) dX9_fewestSitters_26 (fun v_19 r_v_19 m_v_19 o_v_19 => ?_)
  refine lv_ishl hx hb dX9_fewestSitters_27 (lv_topi (fun v_20 e_v_20 => ?_))
  have r_v_20 : RI v_20 1 256 := by rw [e_v_20]; exact ri_shl1 (r_v_19.to (c := 0) (d := 8) (by decide)) (by decide)
  refine lv_istore (lv' := [(5, .int v_20), (4, .int (-1)), (0, .ref p0), (1, .int p1), (2, .int p2), (3, .int p3)]) hx hb dX9_fewestSitters_28 hl (by decide) rfl (fun ls hl => ?_)
  refine lv_iconst (v := 0) hx hb dX9_fewestSitters_30 (by decide) ?_
  refine lv_istore (lv' := [(6, .int 0), (5, .int v_20), (4, .int (-1)), (0, .ref p0), (1, .int p1), (2, .int p2), (3, .int p3)]) hx hb dX9_fewestSitters_31 hl (by decide) rfl (fun ls hl => ?_)
  exact B33 4294967298 (-1) v_20 0 ws _ _ ls (by have q0 := rl_0.1; have u0 := rl_0.2; omega) r_p1 r_p2 r_p3 (rl_m1.to (by decide)) r_v_20 (rl_0.to (by decide)) hw (lv_sub hl [3, 4, 5, 6, 2, 1, 0] rfl)
abbrev wr_X9_greatest : List (Nat × Nat) := []
abbrev wa_X9_greatest : List Nat := []
set_option maxHeartbeats 4000000 in
set_option maxRecDepth 100000 in
theorem c_X9_greatest (l : Launch) (D : va_G) (cy : Nat → ClassId) (z : Nat → Nat) (sz : Nat) (Ps : PSI) (w0 : va_W) (hT : HT cy GG Ps w0) (p0 : Nat) (h_p0 : (p0, 33) ∈ Ps) : Met l yX9_greatest (Cond.code yX9_greatest cX9_greatest 3 (some .int) :: gT) ({ frames := 3, cells := 0, slots := 0, locals := 600 } : Room) (va_Pc [.ref p0] (PRE D cy z w0 sz)) (va_Qi (fun (r : Int32) (u : Unit) => RI r (-1) 5 ∧ (r = 0 → True) ∧ (¬ r = 0 → True)) (BB D cy (va_A w0 sz) (fun (u : Unit) => w0)) (va_A w0 sz)) 0 0 (va_A w0 sz) := by
  refine Met.ofW (cc := cX9_greatest) (maxL := 3) (ret := (some .int)) (by decide) rfl ?_
  intro p e s m args below meth c s₁ B hml hv
  obtain ⟨rfl, hsz, hP, hK, hD0, hSD⟩ := hv
  have hx := B.exec
  have hb := B.bytes
  have hr := B.returns
  have hlocks := B.notSynchronized
  have hts : ∀ w ∈ gT, w.before _ s = true := fun w h => atoms_spec (ws := Cond.code yX9_greatest cX9_greatest 3 (some .int) :: gT) B.pre w (List.mem_cons_of_mem _ h)
  have hown : s.vm.findClass RX9 = some m.cls := findClass_of_methodNamed B.named
  subst hsz
  have hD := hD0.self (sz := s.heap.size)
  generalize hAe : va_A w0 s.heap.size = A at hD hSD ⊢
  have hA : ∀ q : Nat, s.heap.size ≤ q → A q := fun q h => by rw [← hAe]; exact Or.inr h
  have hl := lv_entry ([.ref p0]) (n := 3) (Nat.le_of_ble_eq_true rfl)
  rw [lg_entry_eq]
  generalize (lg_sl ([.ref p0]) ++ List.replicate (3 - (lg_sl ([.ref p0])).length) Slot.unset).toArray = ls at hl ⊢
  have hl : lv_has ls 3 [(0, .ref p0)] := hl
  refine nameQ (fun Q hQ => ?_)
  have hw : WD D cy GG A s wr_X9_greatest wa_X9_greatest Ps w0 Ps w0 s.heap [] := ⟨hT, hP, hD, va_S.rf, FR.rf, hT.1, [], (List.append_nil _).symm⟩
  have B4 : ∀ (nf : Nat) (x1 : Int32) (x2 : Int32) (H : Heap) (locs : List Loc) (ls : Array Slot), 6 - x2.toInt < (nf : Int) → RI x1 (-1) 5 → RI x2 0 6 → WD D cy GG A s wr_X9_greatest wa_X9_greatest Ps w0 Ps w0 H locs → lv_has ls 3 [(0, .ref p0), (1, .int x1), (2, .int x2)] → W p l e (headSpec (Cond.code yX9_greatest cX9_greatest 3 (some .int) :: gT) ({ frames := 3, cells := 0, slots := 0, locals := 600 } : Room)).room s m ([.ref p0] : List Value).toArray below meth c H locs 0 0 Q (F0 m 4 ls []) := by
    intro nf4
    induction nf4 with
    | zero =>
      intro x1 x2 H locs ls hn4 r_x1 r_x2 hw hl
      exact absurd hn4 (by have q0 := r_x2.1; have u0 := r_x2.2; omega)
    | succ nf4 ih4 =>
      have B55 : ∀ (x1 : Int32) (x2 : Int32) (H : Heap) (locs : List Loc) (ls : Array Slot), RI x1 (-1) 5 → RI x2 0 5 → 6 - x2.toInt < ((nf4 + 1 : Nat) : Int) → WD D cy GG A s wr_X9_greatest wa_X9_greatest Ps w0 Ps w0 H locs → lv_has ls 3 [(0, .ref p0), (1, .int x1), (2, .int x2)] → W p l e (headSpec (Cond.code yX9_greatest cX9_greatest 3 (some .int) :: gT) ({ frames := 3, cells := 0, slots := 0, locals := 600 } : Room)).room s m ([.ref p0] : List Value).toArray below meth c H locs 0 0 Q (F0 m 55 ls []) := by
        intro x1 x2 H locs ls r_x1 r_x2 hn4 hw hl
        refine lv_iload_n hx hb dX9_greatest_55 rfl (lv_at hl 2 rfl) ?_
        refine lv_istore_n (lv' := [(1, .int x2), (0, .ref p0), (2, .int x2)]) hx hb dX9_greatest_56 rfl hl (by decide) rfl (fun ls hl => ?_)
        obtain ⟨v_1, e_v_1⟩ : ∃ q9 : Int32, q9 = x2 + Int32.ofInt 1 := ⟨_, rfl⟩
        obtain ⟨t_v_1, r_v_1⟩ := tq_add (lo := 1) (hi := 6) r_x2 (show RI (Int32.ofInt 1) 1 1 by unfold RI; decide +kernel) (by decide +kernel) e_v_1
        have t_v_1 : v_1.toInt = x2.toInt + 1 := t_v_1
        refine lv_iinc (v := v_1) (lv' := [(2, .int v_1), (1, .int x2), (0, .ref p0)]) hx hb dX9_greatest_57 hl (k := 2) rfl e_v_1.symm (by decide) rfl (fun ls hl => ?_)
        refine lv_goto (tgt := 4) hx hb dX9_greatest_60 (by decide) ?_
        exact ih4 x2 v_1 _ _ ls (by have q0 := r_v_1.1; have u0 := r_v_1.2; have o0 := r_x2.1; have p0 := r_x2.2; omega) (r_x2.to (by decide)) (r_v_1.to (by decide)) hw (lv_sub hl [2, 1, 0] rfl)
      intro x1 x2 H locs ls hn4 r_x1 r_x2 hw hl
      refine lv_iload_n hx hb dX9_greatest_4 rfl (lv_at hl 2 rfl) ?_
      refine lv_aload_n hx hb dX9_greatest_5 rfl (lv_at hl 0 rfl) ?_
      refine tg_get (ci := 9) (ts := ty_WP) (C := RX9) (T := TX9) (N := 15) hx hb hts inX9 hown hK hw h_p0 rfl rfl 1 (by decide) (hts _ tw_347) (fun _ h9 => h9) (ft := vR 24) rfl dX9_greatest_6 (fun u_2 hv_u_2 m_u_2 => ?_)
      obtain ⟨vu_2, rfl, h_vu_2⟩ := hv_u_2
      refine tg_getN (ci := 8) (ts := ty_WORLD) (C := RX8) (T := TX8) (N := 13) hx hb hts inX8 hown hK hw h_vu_2 rfl rfl 0 (by decide) (hSD.nest tn_249) (fun _ h9 => h9) (ft := vR 25) rfl dX9_greatest_9 (fun u_3 hv_u_3 m_u_3 => ?_)
      obtain ⟨vu_3, rfl, h_vu_3⟩ := hv_u_3
      refine tg_getN (ci := 3) (ts := ty_POST) (C := RX3) (T := TX3) (N := 9) hx hb hts inX3 hown hK hw h_vu_3 rfl rfl 1 (by decide) (hSD.nest tn_204) (fun _ h9 => h9) (ft := vR 4) rfl dX9_greatest_12 (fun u_4 hv_u_4 m_u_4 => ?_)
      obtain ⟨vu_4, rfl, h_vu_4⟩ := hv_u_4
      refine lv_iconst (v := 2) hx hb dX9_greatest_15 (by decide) ?_
      refine tg_iald (lo := 0) (hi := 6) hx hb hK hw h_vu_4 rfl 2 2 rl_2 (by decide) (by decide +kernel) dX9_greatest_16 (fun v_5 r_v_5 m_v_5 o_v_5 => ?_)
      refine lv_icmp_ge (tgt := 63) hx hb dX9_greatest_17 (by decide) (fun c_17 => ?_) (fun c_17 => ?_)
      · refine lv_iload_n hx hb dX9_greatest_63 rfl (lv_at hl 1 rfl) ?_
        subst hQ
        exact W.iret (v := x1) hx hb hr (fun t ht hW => ⟨⟨x1, (), rfl, ⟨r_x1.to (by decide), (fun h0 => trivial), (fun h0 => trivial)⟩, by rw [ht]; exact hw.2.1, va_K.moved hW.alike hK, hw.2.2.1⟩, hw.2.2.2.1.F ht⟩) hw.2.2.2.1.2.2 dX9_greatest_64
      · have r_x2 : RI x2 0 5 := rc_lt1 r_x2 r_v_5 (ti_nle c_17) (by decide)
        have r_v_5 : RI v_5 1 6 := rc_lt2 r_x2 r_v_5 (ti_nle c_17) (by decide)
        refine lv_aload_n hx hb dX9_greatest_20 rfl (lv_at hl 0 rfl) ?_
        refine tg_mem (ci := 9) (C := RX9) (T := TX9) (N := 15) hx hb hts inX9 hown hK hw 1 m_u_2 rfl (by decide) (hts _ tw_347) (fun _ h9 => h9) dX9_greatest_21 ?_
        refine lv_iload_n hx hb dX9_greatest_24 rfl (lv_at hl 2 rfl) ?_
        refine tk_ir (va_runV (As := [.int x2]) (rest := []) ⟨hx, hb, hml, hown, hts⟩ (c_X8_isOpen l D cy z H.size Ps w0 hw.1 vu_2 x2 h_vu_2 r_x2) (cwV 1 hts (gV tw_733 tw_562 tw_563 tw_12 tw_564) rfl rfl rfl (by decide +kernel) ⟨Nat.le_of_ble_eq_true rfl, Nat.le_of_ble_eq_true rfl⟩) (tg_preV hw hK hSD hA (ci := 8) (q := (RX8, TX8, 13)) rfl h_vu_2 rfl) rfl rfl hl.1 rfl (lv_room (Nat.le_of_ble_eq_true rfl)) dX9_greatest_25 ⟨Nat.le_of_ble_eq_true rfl, Nat.le_of_ble_eq_true rfl⟩) hw hA (fun v_6  H locs hp_v_6 hw => ?_)
        have r_v_6 : RI v_6 0 1 := hp_v_6.1
        refine lv_if_ne (tgt := 57) hx hb dX9_greatest_28 (by decide) (fun c_28 => ?_) (fun c_28 => ?_)
        · have r_v_6 : RI v_6 1 1 := rc_neL r_v_6 rl_0 (ti_ne c_28) (by decide)
          obtain ⟨v_7, e_v_7⟩ : ∃ q9 : Int32, q9 = x2 + Int32.ofInt 1 := ⟨_, rfl⟩
          obtain ⟨t_v_7, r_v_7⟩ := tq_add (lo := 1) (hi := 6) r_x2 (show RI (Int32.ofInt 1) 1 1 by unfold RI; decide +kernel) (by decide +kernel) e_v_7
          have t_v_7 : v_7.toInt = x2.toInt + 1 := t_v_7
          refine lv_iinc (v := v_7) (lv' := [(2, .int v_7), (0, .ref p0), (1, .int x1)]) hx hb dX9_greatest_57 hl (k := 2) rfl e_v_7.symm (by decide) rfl (fun ls hl => ?_)
          refine lv_goto (tgt := 4) hx hb dX9_greatest_60 (by decide) ?_
          exact ih4 x1 v_7 _ _ ls (by have q0 := r_v_7.1; have u0 := r_v_7.2; have o0 := r_x2.1; have p0 := r_x2.2; omega) r_x1 (r_v_7.to (by decide)) hw (lv_sub hl [1, 2, 0] rfl)
        · have r_v_6 : RI v_6 0 0 := rc_eq1 r_v_6 rl_0 (ti_eq c_28) (by decide)
          refine lv_iload_n hx hb dX9_greatest_31 rfl (lv_at hl 1 rfl) ?_
          refine lv_iconst (v := (-1)) hx hb dX9_greatest_32 (by decide) ?_
          refine lv_icmp_eq (tgt := 55) hx hb dX9_greatest_33 (by decide) (fun c_33 => ?_) (fun c_33 => ?_)
          · have r_x1 : RI x1 (-1) (-1) := rc_eq1 r_x1 rl_m1 (ti_eq c_33) (by decide)
            exact B55 x1 x2 _ _ ls (r_x1.to (by decide)) r_x2 (by have q0 := r_x2.1; have u0 := r_x2.2; omega) hw hl
          · have r_x1 : RI x1 0 5 := rc_neL r_x1 rl_m1 (ti_ne c_33) (by decide)
            refine lv_aload_n hx hb dX9_greatest_36 rfl (lv_at hl 0 rfl) ?_
            refine tg_mem (ci := 9) (C := RX9) (T := TX9) (N := 15) hx hb hts inX9 hown hK hw 1 m_u_2 rfl (by decide) (hts _ tw_347) (fun _ h9 => h9) dX9_greatest_37 ?_
            refine lv_iload_n hx hb dX9_greatest_40 rfl (lv_at hl 2 rfl) ?_
            refine tk_ir (va_runV (As := [.int x2]) (rest := []) ⟨hx, hb, hml, hown, hts⟩ (c_X8_sizeOf l D cy z H.size Ps w0 hw.1 vu_2 x2 h_vu_2 r_x2) (cwV 1 hts (gV tw_828 tw_594 tw_595 tw_12 tw_596) rfl rfl rfl (by decide +kernel) ⟨Nat.le_of_ble_eq_true rfl, Nat.le_of_ble_eq_true rfl⟩) (tg_preV hw hK hSD hA (ci := 8) (q := (RX8, TX8, 13)) rfl h_vu_2 rfl) rfl rfl hl.1 rfl (lv_room (Nat.le_of_ble_eq_true rfl)) dX9_greatest_41 ⟨Nat.le_of_ble_eq_true rfl, Nat.le_of_ble_eq_true rfl⟩) hw hA (fun v_8  H locs hp_v_8 hw => ?_)
            have r_v_8 : RI v_8 (-2147483648) 2147483647 := hp_v_8.1
            refine lv_aload_n hx hb dX9_greatest_44 rfl (lv_at hl 0 rfl) ?_
            refine tg_mem (ci := 9) (C := RX9) (T := TX9) (N := 15) hx hb hts inX9 hown hK hw 1 m_u_2 rfl (by decide) (hts _ tw_347) (fun _ h9 => h9) dX9_greatest_45 ?_
            refine lv_iload_n hx hb dX9_greatest_48 rfl (lv_at hl 1 rfl) ?_
            refine tk_ir (va_runV (As := [.int x1]) (rest := [.int v_8]) ⟨hx, hb, hml, hown, hts⟩ (c_X8_sizeOf l D cy z H.size Ps w0 hw.1 vu_2 x1 h_vu_2 r_x1) (cwV 1 hts (gV tw_828 tw_594 tw_595 tw_12 tw_596) rfl rfl rfl (by decide +kernel) ⟨Nat.le_of_ble_eq_true rfl, Nat.le_of_ble_eq_true rfl⟩) (tg_preV hw hK hSD hA (ci := 8) (q := (RX8, TX8, 13)) rfl h_vu_2 rfl) rfl rfl hl.1 rfl (lv_room (Nat.le_of_ble_eq_true rfl)) dX9_greatest_49 ⟨Nat.le_of_ble_eq_true rfl, Nat.le_of_ble_eq_true rfl⟩) hw hA (fun v_9  H locs hp_v_9 hw => ?_)
            have r_v_9 : RI v_9 (-2147483648) 2147483647 := hp_v_9.1
            refine lv_icmp_le (tgt := 57) hx hb dX9_greatest_52 (by decide) (fun c_52 => ?_) (fun c_52 => ?_)
            · obtain ⟨v_10, e_v_10⟩ : ∃ q9 : Int32, q9 = x2 + Int32.ofInt 1 := ⟨_, rfl⟩
              obtain ⟨t_v_10, r_v_10⟩ := tq_add (lo := 1) (hi := 6) r_x2 (show RI (Int32.ofInt 1) 1 1 by unfold RI; decide +kernel) (by decide +kernel) e_v_10
              have t_v_10 : v_10.toInt = x2.toInt + 1 := t_v_10
              refine lv_iinc (v := v_10) (lv' := [(2, .int v_10), (0, .ref p0), (1, .int x1)]) hx hb dX9_greatest_57 hl (k := 2) rfl e_v_10.symm (by decide) rfl (fun ls hl => ?_)
              refine lv_goto (tgt := 4) hx hb dX9_greatest_60 (by decide) ?_
              exact ih4 x1 v_10 _ _ ls (by have q0 := r_v_10.1; have u0 := r_v_10.2; have o0 := r_x2.1; have p0 := r_x2.2; omega) (r_x1.to (by decide)) (r_v_10.to (by decide)) hw (lv_sub hl [1, 2, 0] rfl)
            · have r_v_9 : RI v_9 (-2147483648) 2147483646 := rc_lt1 r_v_9 r_v_8 (ti_nle c_52) (by decide)
              have r_v_8 : RI v_8 (-2147483647) 2147483647 := rc_lt2 r_v_9 r_v_8 (ti_nle c_52) (by decide)
              exact B55 x1 x2 _ _ ls (r_x1.to (by decide)) r_x2 (by have q0 := r_x2.1; have u0 := r_x2.2; omega) hw hl
  refine lv_iconst (v := (-1)) hx hb dX9_greatest_0 (by decide) ?_
  refine lv_istore_n (lv' := [(1, .int (-1)), (0, .ref p0)]) hx hb dX9_greatest_1 rfl hl (by decide) rfl (fun ls hl => ?_)
  refine lv_iconst (v := 0) hx hb dX9_greatest_2 (by decide) ?_
  refine lv_istore_n (lv' := [(2, .int 0), (1, .int (-1)), (0, .ref p0)]) hx hb dX9_greatest_3 rfl hl (by decide) rfl (fun ls hl => ?_)
  exact B4 4294967298 (-1) 0 _ _ ls (by have q0 := rl_0.1; have u0 := rl_0.2; omega) (rl_m1.to (by decide)) (rl_0.to (by decide)) hw (lv_sub hl [2, 1, 0] rfl)
abbrev wr_X9_isOf__2 : List (Nat × Nat) := []
abbrev wa_X9_isOf__2 : List Nat := []
set_option maxHeartbeats 4000000 in
set_option maxRecDepth 100000 in
theorem c_X9_isOf__2 (l : Launch) (D : va_G) (cy : Nat → ClassId) (z : Nat → Nat) (sz : Nat) (Ps : PSI) (w0 : va_W) (hT : HT cy GG Ps w0) (p0 : Nat) (p1 : Int32) (p2 : Int32) (h_p0 : (p0, 33) ∈ Ps) (r_p1 : RI p1 3 3) (r_p2 : RI p2 (-2147483648) 2147483647) : Met l yX9_isOf (Cond.code yX9_isOf cX9_isOf 3 (some .boolean) :: gT) ({ frames := 0, cells := 0, slots := 0, locals := 200 } : Room) (va_Pc [.ref p0, .int p1, .int p2] (PRE D cy z w0 sz)) (va_Qi (fun (r : Int32) (u : Unit) => RI r 0 1 ∧ (r = 0 → True) ∧ (¬ r = 0 → RI p2 0 7 ∧ True)) (BB D cy (va_A w0 sz) (fun (u : Unit) => w0)) (va_A w0 sz)) 0 0 (va_A w0 sz) := by
  refine Met.ofW (cc := cX9_isOf) (maxL := 3) (ret := (some .boolean)) (by decide) rfl ?_
  intro p e s m args below meth c s₁ B hml hv
  obtain ⟨rfl, hsz, hP, hK, hD0, hSD⟩ := hv
  have hx := B.exec
  have hb := B.bytes
  have hr := B.returns
  have hlocks := B.notSynchronized
  have hts : ∀ w ∈ gT, w.before _ s = true := fun w h => atoms_spec (ws := Cond.code yX9_isOf cX9_isOf 3 (some .boolean) :: gT) B.pre w (List.mem_cons_of_mem _ h)
  have hown : s.vm.findClass RX9 = some m.cls := findClass_of_methodNamed B.named
  subst hsz
  have hD := hD0.self (sz := s.heap.size)
  generalize hAe : va_A w0 s.heap.size = A at hD hSD ⊢
  have hA : ∀ q : Nat, s.heap.size ≤ q → A q := fun q h => by rw [← hAe]; exact Or.inr h
  have hl := lv_entry ([.ref p0, .int p1, .int p2]) (n := 3) (Nat.le_of_ble_eq_true rfl)
  rw [lg_entry_eq]
  generalize (lg_sl ([.ref p0, .int p1, .int p2]) ++ List.replicate (3 - (lg_sl ([.ref p0, .int p1, .int p2])).length) Slot.unset).toArray = ls at hl ⊢
  have hl : lv_has ls 3 [(0, .ref p0), (1, .int p1), (2, .int p2)] := hl
  refine nameQ (fun Q hQ => ?_)
  have hw : WD D cy GG A s wr_X9_isOf__2 wa_X9_isOf__2 Ps w0 Ps w0 s.heap [] := ⟨hT, hP, hD, va_S.rf, FR.rf, hT.1, [], (List.append_nil _).symm⟩
  refine lv_iload_n hx hb dX9_isOf_0 rfl (lv_at hl 2 rfl) ?_
  refine lv_if_lt (tgt := 24) hx hb dX9_isOf_1 (by decide) (fun c_1 => ?_) (fun c_1 => ?_)
  · have r_p2 : RI p2 (-2147483648) (-1) := rc_lt1 r_p2 rl_0 (ti_lt c_1) (by decide)
    refine lv_iconst (v := 0) hx hb dX9_isOf_24 (by decide) ?_
    subst hQ
    exact W.zret (v := 0) hx hb hr (rfl) (fun t ht hW => ⟨⟨0, (), rfl, ⟨rl_0.to (by decide), (fun h0 => trivial), (fun h0 => absurd rfl h0)⟩, by rw [ht]; exact hw.2.1, va_K.moved hW.alike hK, hw.2.2.1⟩, hw.2.2.2.1.F ht⟩) hw.2.2.2.1.2.2 dX9_isOf_25
  · have r_p2 : RI p2 0 2147483647 := rc_le2 rl_0 r_p2 (ti_nlt c_1) (by decide)
    refine lv_iload_n hx hb dX9_isOf_4 rfl (lv_at hl 2 rfl) ?_
    refine lv_aload_n hx hb dX9_isOf_5 rfl (lv_at hl 0 rfl) ?_
    refine tg_get (ci := 9) (ts := ty_WP) (C := RX9) (T := TX9) (N := 15) hx hb hts inX9 hown hK hw h_p0 rfl rfl 1 (by decide) (hts _ tw_347) (fun _ h9 => h9) (ft := vR 24) rfl dX9_isOf_6 (fun u_1 hv_u_1 m_u_1 => ?_)
    obtain ⟨vu_1, rfl, h_vu_1⟩ := hv_u_1
    refine tg_getN (ci := 8) (ts := ty_WORLD) (C := RX8) (T := TX8) (N := 13) hx hb hts inX8 hown hK hw h_vu_1 rfl rfl 0 (by decide) (hSD.nest tn_249) (fun _ h9 => h9) (ft := vR 25) rfl dX9_isOf_9 (fun u_2 hv_u_2 m_u_2 => ?_)
    obtain ⟨vu_2, rfl, h_vu_2⟩ := hv_u_2
    refine tg_getN (ci := 3) (ts := ty_POST) (C := RX3) (T := TX3) (N := 9) hx hb hts inX3 hown hK hw h_vu_2 rfl rfl 1 (by decide) (hSD.nest tn_204) (fun _ h9 => h9) (ft := vR 4) rfl dX9_isOf_12 (fun u_3 hv_u_3 m_u_3 => ?_)
    obtain ⟨vu_3, rfl, h_vu_3⟩ := hv_u_3
    refine lv_iload_n hx hb dX9_isOf_15 rfl (lv_at hl 1 rfl) ?_
    refine tg_iald (lo := 0) (hi := 8) hx hb hK hw h_vu_3 rfl 3 3 r_p1 (by decide) (by decide +kernel) dX9_isOf_16 (fun v_4 r_v_4 m_v_4 o_v_4 => ?_)
    refine lv_icmp_ge (tgt := 24) hx hb dX9_isOf_17 (by decide) (fun c_17 => ?_) (fun c_17 => ?_)
    · refine lv_iconst (v := 0) hx hb dX9_isOf_24 (by decide) ?_
      subst hQ
      exact W.zret (v := 0) hx hb hr (rfl) (fun t ht hW => ⟨⟨0, (), rfl, ⟨rl_0.to (by decide), (fun h0 => trivial), (fun h0 => absurd rfl h0)⟩, by rw [ht]; exact hw.2.1, va_K.moved hW.alike hK, hw.2.2.1⟩, hw.2.2.2.1.F ht⟩) hw.2.2.2.1.2.2 dX9_isOf_25
    · have r_p2 : RI p2 0 7 := rc_lt1 r_p2 r_v_4 (ti_nle c_17) (by decide)
      have r_v_4 : RI v_4 1 8 := rc_lt2 r_p2 r_v_4 (ti_nle c_17) (by decide)
      refine lv_iconst (v := 1) hx hb dX9_isOf_20 (by decide) ?_
      refine lv_goto (tgt := 25) hx hb dX9_isOf_21 (by decide) ?_
      subst hQ
      exact W.zret (v := 1) hx hb hr (rfl) (fun t ht hW => ⟨⟨1, (), rfl, ⟨rl_1.to (by decide), (fun _ => trivial), (fun h0 => ⟨r_p2, trivial⟩)⟩, by rw [ht]; exact hw.2.1, va_K.moved hW.alike hK, hw.2.2.1⟩, hw.2.2.2.1.F ht⟩) hw.2.2.2.1.2.2 dX9_isOf_25
abbrev wr_X9_isOf__3 : List (Nat × Nat) := []
abbrev wa_X9_isOf__3 : List Nat := []
set_option maxHeartbeats 4000000 in
set_option maxRecDepth 100000 in
theorem c_X9_isOf__3 (l : Launch) (D : va_G) (cy : Nat → ClassId) (z : Nat → Nat) (sz : Nat) (Ps : PSI) (w0 : va_W) (hT : HT cy GG Ps w0) (p0 : Nat) (p1 : Int32) (p2 : Int32) (h_p0 : (p0, 33) ∈ Ps) (r_p1 : RI p1 0 0) (r_p2 : RI p2 (-2147483648) 2147483647) : Met l yX9_isOf (Cond.code yX9_isOf cX9_isOf 3 (some .boolean) :: gT) ({ frames := 0, cells := 0, slots := 0, locals := 200 } : Room) (va_Pc [.ref p0, .int p1, .int p2] (PRE D cy z w0 sz)) (va_Qi (fun (r : Int32) (u : Unit) => RI r 0 1 ∧ (r = 0 → True) ∧ (¬ r = 0 → RI p2 0 5 ∧ True)) (BB D cy (va_A w0 sz) (fun (u : Unit) => w0)) (va_A w0 sz)) 0 0 (va_A w0 sz) := by
  refine Met.ofW (cc := cX9_isOf) (maxL := 3) (ret := (some .boolean)) (by decide) rfl ?_
  intro p e s m args below meth c s₁ B hml hv
  obtain ⟨rfl, hsz, hP, hK, hD0, hSD⟩ := hv
  have hx := B.exec
  have hb := B.bytes
  have hr := B.returns
  have hlocks := B.notSynchronized
  have hts : ∀ w ∈ gT, w.before _ s = true := fun w h => atoms_spec (ws := Cond.code yX9_isOf cX9_isOf 3 (some .boolean) :: gT) B.pre w (List.mem_cons_of_mem _ h)
  have hown : s.vm.findClass RX9 = some m.cls := findClass_of_methodNamed B.named
  subst hsz
  have hD := hD0.self (sz := s.heap.size)
  generalize hAe : va_A w0 s.heap.size = A at hD hSD ⊢
  have hA : ∀ q : Nat, s.heap.size ≤ q → A q := fun q h => by rw [← hAe]; exact Or.inr h
  have hl := lv_entry ([.ref p0, .int p1, .int p2]) (n := 3) (Nat.le_of_ble_eq_true rfl)
  rw [lg_entry_eq]
  generalize (lg_sl ([.ref p0, .int p1, .int p2]) ++ List.replicate (3 - (lg_sl ([.ref p0, .int p1, .int p2])).length) Slot.unset).toArray = ls at hl ⊢
  have hl : lv_has ls 3 [(0, .ref p0), (1, .int p1), (2, .int p2)] := hl
  refine nameQ (fun Q hQ => ?_)
  have hw : WD D cy GG A s wr_X9_isOf__3 wa_X9_isOf__3 Ps w0 Ps w0 s.heap [] := ⟨hT, hP, hD, va_S.rf, FR.rf, hT.1, [], (List.append_nil _).symm⟩
  refine lv_iload_n hx hb dX9_isOf_0 rfl (lv_at hl 2 rfl) ?_
  refine lv_if_lt (tgt := 24) hx hb dX9_isOf_1 (by decide) (fun c_1 => ?_) (fun c_1 => ?_)
  · have r_p2 : RI p2 (-2147483648) (-1) := rc_lt1 r_p2 rl_0 (ti_lt c_1) (by decide)
    refine lv_iconst (v := 0) hx hb dX9_isOf_24 (by decide) ?_
    subst hQ
    exact W.zret (v := 0) hx hb hr (rfl) (fun t ht hW => ⟨⟨0, (), rfl, ⟨rl_0.to (by decide), (fun h0 => trivial), (fun h0 => absurd rfl h0)⟩, by rw [ht]; exact hw.2.1, va_K.moved hW.alike hK, hw.2.2.1⟩, hw.2.2.2.1.F ht⟩) hw.2.2.2.1.2.2 dX9_isOf_25
  · have r_p2 : RI p2 0 2147483647 := rc_le2 rl_0 r_p2 (ti_nlt c_1) (by decide)
    refine lv_iload_n hx hb dX9_isOf_4 rfl (lv_at hl 2 rfl) ?_
    refine lv_aload_n hx hb dX9_isOf_5 rfl (lv_at hl 0 rfl) ?_
    refine tg_get (ci := 9) (ts := ty_WP) (C := RX9) (T := TX9) (N := 15) hx hb hts inX9 hown hK hw h_p0 rfl rfl 1 (by decide) (hts _ tw_347) (fun _ h9 => h9) (ft := vR 24) rfl dX9_isOf_6 (fun u_1 hv_u_1 m_u_1 => ?_)
    obtain ⟨vu_1, rfl, h_vu_1⟩ := hv_u_1
    refine tg_getN (ci := 8) (ts := ty_WORLD) (C := RX8) (T := TX8) (N := 13) hx hb hts inX8 hown hK hw h_vu_1 rfl rfl 0 (by decide) (hSD.nest tn_249) (fun _ h9 => h9) (ft := vR 25) rfl dX9_isOf_9 (fun u_2 hv_u_2 m_u_2 => ?_)
    obtain ⟨vu_2, rfl, h_vu_2⟩ := hv_u_2
    refine tg_getN (ci := 3) (ts := ty_POST) (C := RX3) (T := TX3) (N := 9) hx hb hts inX3 hown hK hw h_vu_2 rfl rfl 1 (by decide) (hSD.nest tn_204) (fun _ h9 => h9) (ft := vR 4) rfl dX9_isOf_12 (fun u_3 hv_u_3 m_u_3 => ?_)
    obtain ⟨vu_3, rfl, h_vu_3⟩ := hv_u_3
    refine lv_iload_n hx hb dX9_isOf_15 rfl (lv_at hl 1 rfl) ?_
    refine tg_iald (lo := 0) (hi := 6) hx hb hK hw h_vu_3 rfl 0 0 r_p1 (by decide) (by decide +kernel) dX9_isOf_16 (fun v_4 r_v_4 m_v_4 o_v_4 => ?_)
    refine lv_icmp_ge (tgt := 24) hx hb dX9_isOf_17 (by decide) (fun c_17 => ?_) (fun c_17 => ?_)
    · refine lv_iconst (v := 0) hx hb dX9_isOf_24 (by decide) ?_
      subst hQ
      exact W.zret (v := 0) hx hb hr (rfl) (fun t ht hW => ⟨⟨0, (), rfl, ⟨rl_0.to (by decide), (fun h0 => trivial), (fun h0 => absurd rfl h0)⟩, by rw [ht]; exact hw.2.1, va_K.moved hW.alike hK, hw.2.2.1⟩, hw.2.2.2.1.F ht⟩) hw.2.2.2.1.2.2 dX9_isOf_25
    · have r_p2 : RI p2 0 5 := rc_lt1 r_p2 r_v_4 (ti_nle c_17) (by decide)
      have r_v_4 : RI v_4 1 6 := rc_lt2 r_p2 r_v_4 (ti_nle c_17) (by decide)
      refine lv_iconst (v := 1) hx hb dX9_isOf_20 (by decide) ?_
      refine lv_goto (tgt := 25) hx hb dX9_isOf_21 (by decide) ?_
      subst hQ
      exact W.zret (v := 1) hx hb hr (rfl) (fun t ht hW => ⟨⟨1, (), rfl, ⟨rl_1.to (by decide), (fun _ => trivial), (fun h0 => ⟨r_p2, trivial⟩)⟩, by rw [ht]; exact hw.2.1, va_K.moved hW.alike hK, hw.2.2.1⟩, hw.2.2.2.1.F ht⟩) hw.2.2.2.1.2.2 dX9_isOf_25
abbrev wr_X9_guess : List (Nat × Nat) := [(1, 1), (1, 2), (8, 0), (8, 1)]
abbrev wa_X9_guess : List Nat := [8, 9, 10, 11, 12, 13]
set_option maxHeartbeats 4000000 in
set_option maxRecDepth 100000 in
theorem c_X9_guess (l : Launch) (D : va_G) (cy : Nat → ClassId) (z : Nat → Nat) (sz : Nat) (Ps : PSI) (w0 : va_W) (hT : HT cy GG Ps w0) (p0 : Nat) (p1 : Int32) (p2 : Int32) (h_p0 : (p0, 33) ∈ Ps) (r_p1 : RI p1 (-2147483648) 2147483647) (r_p2 : RI p2 (-2147483648) 2147483647) : Met l yX9_guess (Cond.code yX9_guess cX9_guess 4 (some .int) :: gT) ({ frames := 5, cells := 0, slots := 0, locals := 1000 } : Room) (va_Pc [.ref p0, .int p1, .int p2] (PRE D cy z w0 sz)) (va_Qi (fun (r : Int32) (u : va_W) => (RI r (-3) 1 ∧ (r = 0 → True) ∧ (¬ r = 0 → True)) ∧ HT cy GG Ps u ∧ FR wr_X9_guess wa_X9_guess Ps w0 u) (BB D cy (va_A w0 sz) (fun (u : va_W) => u)) (va_A w0 sz)) 0 0 (va_A w0 sz) := by
  refine Met.ofW (cc := cX9_guess) (maxL := 4) (ret := (some .int)) (by decide) rfl ?_
  intro p e s m args below meth c s₁ B hml hv
  obtain ⟨rfl, hsz, hP, hK, hD0, hSD⟩ := hv
  have hx := B.exec
  have hb := B.bytes
  have hr := B.returns
  have hlocks := B.notSynchronized
  have hts : ∀ w ∈ gT, w.before _ s = true := fun w h => atoms_spec (ws := Cond.code yX9_guess cX9_guess 4 (some .int) :: gT) B.pre w (List.mem_cons_of_mem _ h)
  have hown : s.vm.findClass RX9 = some m.cls := findClass_of_methodNamed B.named
  subst hsz
  have hD := hD0.self (sz := s.heap.size)
  generalize hAe : va_A w0 s.heap.size = A at hD hSD ⊢
  have hA : ∀ q : Nat, s.heap.size ≤ q → A q := fun q h => by rw [← hAe]; exact Or.inr h
  have hl := lv_entry ([.ref p0, .int p1, .int p2]) (n := 4) (Nat.le_of_ble_eq_true rfl)
  rw [lg_entry_eq]
  generalize (lg_sl ([.ref p0, .int p1, .int p2]) ++ List.replicate (4 - (lg_sl ([.ref p0, .int p1, .int p2])).length) Slot.unset).toArray = ls at hl ⊢
  have hl : lv_has ls 4 [(0, .ref p0), (1, .int p1), (2, .int p2)] := hl
  refine nameQ (fun Q hQ => ?_)
  have hw : WD D cy GG A s wr_X9_guess wa_X9_guess Ps w0 Ps w0 s.heap [] := ⟨hT, hP, hD, va_S.rf, FR.rf, hT.1, [], (List.append_nil _).symm⟩
  refine lv_aload_n hx hb dX9_guess_0 rfl (lv_at hl 0 rfl) ?_
  refine lv_iconst (v := 3) hx hb dX9_guess_1 (by decide) ?_
  refine lv_iload_n hx hb dX9_guess_2 rfl (lv_at hl 1 rfl) ?_
  refine tk_ir (va_runV (As := [.int 3, .int p1]) (rest := []) ⟨hx, hb, hml, hown, hts⟩ (c_X9_isOf__2 l D cy z s.heap.size Ps w0 hw.1 p0 3 p1 h_p0 rl_3 r_p1) (cwV 2 hts (gV tw_540 tw_542 ts_10 tw_1 tw_543) rfl rfl rfl (by decide +kernel) ⟨Nat.le_of_ble_eq_true rfl, Nat.le_of_ble_eq_true rfl⟩) (tg_preV hw hK hSD hA (ci := 9) (q := (RX9, TX9, 15)) rfl h_p0 rfl) rfl rfl hl.1 rfl (lv_room (Nat.le_of_ble_eq_true rfl)) dX9_guess_3 ⟨Nat.le_of_ble_eq_true rfl, Nat.le_of_ble_eq_true rfl⟩) hw hA (fun v_1  H locs hp_v_1 hw => ?_)
  have r_v_1 : RI v_1 0 1 := hp_v_1.1
  refine lv_if_eq (tgt := 18) hx hb dX9_guess_6 (by decide) (fun c_6 => ?_) (fun c_6 => ?_)
  · have r_v_1 : RI v_1 0 0 := rc_eq1 r_v_1 rl_0 (ti_eq c_6) (by decide)
    refine lv_iconst (v := (-1)) hx hb dX9_guess_18 (by decide) ?_
    subst hQ
    exact W.iret (v := (-1)) hx hb hr (fun t ht hW => ⟨⟨(-1), w0, rfl, ⟨⟨rl_m1.to (by decide), (fun _ => trivial), (fun h0 => trivial)⟩, hw.1, hw.2.2.2.2.1⟩, by rw [ht]; exact hw.2.1, va_K.moved hW.alike hK, hw.2.2.1⟩, hw.2.2.2.1.F ht⟩) hw.2.2.2.1.2.2 dX9_guess_19
  · have r_v_1 : RI v_1 1 1 := rc_neL r_v_1 rl_0 (ti_ne c_6) (by decide)
    have r_p1 : RI p1 0 7 := ((hp_v_1.2.2 c_6).1)
    refine lv_aload_n hx hb dX9_guess_9 rfl (lv_at hl 0 rfl) ?_
    refine lv_iconst (v := 0) hx hb dX9_guess_10 (by decide) ?_
    refine lv_iload_n hx hb dX9_guess_11 rfl (lv_at hl 2 rfl) ?_
    refine tk_ir (va_runV (As := [.int 0, .int p2]) (rest := []) ⟨hx, hb, hml, hown, hts⟩ (c_X9_isOf__3 l D cy z H.size Ps w0 hw.1 p0 0 p2 h_p0 rl_0 r_p2) (cwV 2 hts (gV tw_540 tw_542 ts_10 tw_1 tw_543) rfl rfl rfl (by decide +kernel) ⟨Nat.le_of_ble_eq_true rfl, Nat.le_of_ble_eq_true rfl⟩) (tg_preV hw hK hSD hA (ci := 9) (q := (RX9, TX9, 15)) rfl h_p0 rfl) rfl rfl hl.1 rfl (lv_room (Nat.le_of_ble_eq_true rfl)) dX9_guess_12 ⟨Nat.le_of_ble_eq_true rfl, Nat.le_of_ble_eq_true rfl⟩) hw hA (fun v_2  H locs hp_v_2 hw => ?_)
    have r_v_2 : RI v_2 0 1 := hp_v_2.1
    refine lv_if_ne (tgt := 20) hx hb dX9_guess_15 (by decide) (fun c_15 => ?_) (fun c_15 => ?_)
    · have r_v_2 : RI v_2 1 1 := rc_neL r_v_2 rl_0 (ti_ne c_15) (by decide)
      have r_p2 : RI p2 0 5 := ((hp_v_2.2.2 c_15).1)
      refine lv_aload_n hx hb dX9_guess_20 rfl (lv_at hl 0 rfl) ?_
      refine tg_get (ci := 9) (ts := ty_WP) (C := RX9) (T := TX9) (N := 15) hx hb hts inX9 hown hK hw h_p0 rfl rfl 1 (by decide) (hts _ tw_347) (fun _ h9 => h9) (ft := vR 24) rfl dX9_guess_21 (fun u_3 hv_u_3 m_u_3 => ?_)
      obtain ⟨vu_3, rfl, h_vu_3⟩ := hv_u_3
      refine lv_iload_n hx hb dX9_guess_24 rfl (lv_at hl 1 rfl) ?_
      refine tk_ir (va_runV (As := [.int p1]) (rest := []) ⟨hx, hb, hml, hown, hts⟩ (c_X8_whyNoGuess l D cy z H.size Ps w0 hw.1 vu_3 p1 h_vu_3 r_p1) (cwV 1 hts (gV tw_644 tw_645 tw_646 tw_12 tw_647) rfl rfl rfl (by decide +kernel) ⟨Nat.le_of_ble_eq_true rfl, Nat.le_of_ble_eq_true rfl⟩) (tg_preV hw hK hSD hA (ci := 8) (q := (RX8, TX8, 13)) rfl h_vu_3 rfl) rfl rfl hl.1 rfl (lv_room (Nat.le_of_ble_eq_true rfl)) dX9_guess_25 ⟨Nat.le_of_ble_eq_true rfl, Nat.le_of_ble_eq_true rfl⟩) hw hA (fun v_4  H locs hp_v_4 hw => ?_)
      have r_v_4 : RI v_4 0 2 := hp_v_4.1
      refine lv_istore_n (lv' := [(3, .int v_4), (0, .ref p0), (1, .int p1), (2, .int p2)]) hx hb dX9_guess_28 rfl hl (by decide) rfl (fun ls hl => ?_)
      refine lv_iload_n hx hb dX9_guess_29 rfl (lv_at hl 0 rfl) ?_
      refine lv_if_eq (tgt := 37) hx hb dX9_guess_30 (by decide) (fun c_30 => ?_) (fun c_30 => ?_)
      · have r_v_4 : RI v_4 0 0 := rc_eq1 r_v_4 rl_0 (ti_eq c_30) (by decide)
        refine lv_aload_n hx hb dX9_guess_37 rfl (lv_at hl 1 rfl) ?_
        refine tg_get (ci := 9) (ts := ty_WP) (C := RX9) (T := TX9) (N := 15) hx hb hts inX9 hown hK hw h_p0 rfl rfl 3 (by decide) (hts _ tw_349) (fun _ h9 => h9) (ft := vR 27) rfl dX9_guess_38 (fun u_5 hv_u_5 m_u_5 => ?_)
        obtain ⟨vu_5, rfl, h_vu_5⟩ := hv_u_5
        refine lv_aload_n hx hb dX9_guess_41 rfl (lv_at hl 1 rfl) ?_
        refine tg_mem (ci := 9) (C := RX9) (T := TX9) (N := 15) hx hb hts inX9 hown hK hw 1 m_u_3 rfl (by decide) (hts _ tw_347) (fun _ h9 => h9) dX9_guess_42 ?_
        refine tk_v (va_runV (As := [.ref vu_3]) (rest := []) ⟨hx, hb, hml, hown, hts⟩ (c_X1_prepare l D cy z H.size Ps w0 hw.1 vu_5 vu_3 h_vu_5 h_vu_3) (cwV 1 hts (gV tw_606 tw_607 tw_608 tw_13 tw_609) rfl rfl rfl (by decide +kernel) ⟨Nat.le_of_ble_eq_true rfl, Nat.le_of_ble_eq_true rfl⟩) (tg_preV hw hK hSD hA (ci := 1) (q := (RX1, TX1, 3)) rfl h_vu_5 rfl) rfl rfl hl.1 rfl (lv_room (Nat.le_of_ble_eq_true rfl)) dX9_guess_45 ⟨Nat.le_of_ble_eq_true rfl, Nat.le_of_ble_eq_true rfl⟩) hw hA ⟨by decide, by decide⟩ (fun ws H locs hp_v_6 hw hF9 => ?_)
        refine lv_aload_n hx hb dX9_guess_48 rfl (lv_at hl 1 rfl) ?_
        refine tg_get (ci := 9) (ts := ty_WP) (C := RX9) (T := TX9) (N := 15) hx hb hts inX9 hown hK hw h_p0 rfl rfl 3 (by decide) (hts _ tw_349) (fun _ h9 => h9) (ft := vR 27) rfl dX9_guess_49 (fun u_7 hv_u_7 m_u_7 => ?_)
        obtain ⟨vu_7, rfl, h_vu_7⟩ := hv_u_7
        refine tk_v (va_runV (As := []) (rest := []) ⟨hx, hb, hml, hown, hts⟩ (c_X1_keep l D cy z H.size Ps ws hw.1 vu_7 h_vu_7) (cwV 0 hts (gV tw_619 tw_620 tw_621 tw_13 tw_622) rfl rfl rfl (by decide +kernel) ⟨Nat.le_of_ble_eq_true rfl, Nat.le_of_ble_eq_true rfl⟩) (tg_preV hw hK hSD hA (ci := 1) (q := (RX1, TX1, 3)) rfl h_vu_7 rfl) rfl rfl hl.1 rfl (lv_room (Nat.le_of_ble_eq_true rfl)) dX9_guess_52 ⟨Nat.le_of_ble_eq_true rfl, Nat.le_of_ble_eq_true rfl⟩) hw hA ⟨by decide, by decide⟩ (fun ws H locs hp_v_8 hw hF9 => ?_)
        refine lv_aload_n hx hb dX9_guess_55 rfl (lv_at hl 1 rfl) ?_
        refine tg_get (ci := 9) (ts := ty_WP) (C := RX9) (T := TX9) (N := 15) hx hb hts inX9 hown hK hw h_p0 rfl rfl 1 (by decide) (hts _ tw_347) (fun _ h9 => h9) (ft := vR 24) rfl dX9_guess_56 (fun u_9 hv_u_9 m_u_9 => ?_)
        obtain ⟨vu_9, rfl, h_vu_9⟩ := hv_u_9
        refine lv_iload_n hx hb dX9_guess_59 rfl (lv_at hl 2 rfl) ?_
        refine lv_iload_n hx hb dX9_guess_60 rfl (lv_at hl 3 rfl) ?_
        refine tk_i (va_runV (As := [.int p1, .int p2]) (rest := []) ⟨hx, hb, hml, hown, hts⟩ (c_X8_guessAt l D cy z H.size Ps ws hw.1 vu_9 p1 p2 h_vu_9 r_p1 r_p2) (cwV 2 hts (gV tw_648 tw_649 tw_650 tw_12 tw_651) rfl rfl rfl (by decide +kernel) ⟨Nat.le_of_ble_eq_true rfl, Nat.le_of_ble_eq_true rfl⟩) (tg_preV hw hK hSD hA (ci := 8) (q := (RX8, TX8, 13)) rfl h_vu_9 rfl) rfl rfl hl.1 rfl (lv_room (Nat.le_of_ble_eq_true rfl)) dX9_guess_61 ⟨Nat.le_of_ble_eq_true rfl, Nat.le_of_ble_eq_true rfl⟩) hw hA ⟨by decide, by decide⟩ (fun v_10 ws H locs hp_v_10 hw hF9 => ?_)
        have r_v_10 : RI v_10 0 1 := hp_v_10.1
        refine lv_if_eq (tgt := 71) hx hb dX9_guess_64 (by decide) (fun c_64 => ?_) (fun c_64 => ?_)
        · have r_v_10 : RI v_10 0 0 := rc_eq1 r_v_10 rl_0 (ti_eq c_64) (by decide)
          refine lv_iconst (v := 0) hx hb dX9_guess_71 (by decide) ?_
          subst hQ
          exact W.iret (v := 0) hx hb hr (fun t ht hW => ⟨⟨0, ws, rfl, ⟨⟨rl_0.to (by decide), (fun h0 => trivial), (fun _ => trivial)⟩, hw.1, hw.2.2.2.2.1⟩, by rw [ht]; exact hw.2.1, va_K.moved hW.alike hK, hw.2.2.1⟩, hw.2.2.2.1.F ht⟩) hw.2.2.2.1.2.2 dX9_guess_72
        · have r_v_10 : RI v_10 1 1 := rc_neL r_v_10 rl_0 (ti_ne c_64) (by decide)
          refine lv_iconst (v := 1) hx hb dX9_guess_67 (by decide) ?_
          refine lv_goto (tgt := 72) hx hb dX9_guess_68 (by decide) ?_
          subst hQ
          exact W.iret (v := 1) hx hb hr (fun t ht hW => ⟨⟨1, ws, rfl, ⟨⟨rl_1.to (by decide), (fun _ => trivial), (fun h0 => trivial)⟩, hw.1, hw.2.2.2.2.1⟩, by rw [ht]; exact hw.2.1, va_K.moved hW.alike hK, hw.2.2.1⟩, hw.2.2.2.1.F ht⟩) hw.2.2.2.1.2.2 dX9_guess_72
      · have r_v_4 : RI v_4 1 2 := rc_neL r_v_4 rl_0 (ti_ne c_30) (by decide)
        refine lv_iconst (v := (-1)) hx hb dX9_guess_33 (by decide) ?_
        refine lv_iload_n hx hb dX9_guess_34 rfl (lv_at hl 0 rfl) ?_
        refine lv_isub hx hb dX9_guess_35 (lv_topi (fun v_11 e_v_11 => ?_))
        obtain ⟨t_v_11, r_v_11⟩ := tq_sub (lo := (-3)) (hi := (-2)) rl_m1 r_v_4 (by decide +kernel) e_v_11
        have t_v_11 : v_11.toInt = (-1) - v_4.toInt := t_v_11
        subst hQ
        exact W.iret (v := v_11) hx hb hr (fun t ht hW => ⟨⟨v_11, w0, rfl, ⟨⟨r_v_11.to (by decide), (fun _ => trivial), (fun h0 => trivial)⟩, hw.1, hw.2.2.2.2.1⟩, by rw [ht]; exact hw.2.1, va_K.moved hW.alike hK, hw.2.2.1⟩, hw.2.2.2.1.F ht⟩) hw.2.2.2.1.2.2 dX9_guess_36
    · have r_v_2 : RI v_2 0 0 := rc_eq1 r_v_2 rl_0 (ti_eq c_15) (by decide)
      refine lv_iconst (v := (-1)) hx hb dX9_guess_18 (by decide) ?_
      subst hQ
      exact W.iret (v := (-1)) hx hb hr (fun t ht hW => ⟨⟨(-1), w0, rfl, ⟨⟨rl_m1.to (by decide), (fun _ => trivial), (fun h0 => trivial)⟩, hw.1, hw.2.2.2.2.1⟩, by rw [ht]; exact hw.2.1, va_K.moved hW.alike hK, hw.2.2.1⟩, hw.2.2.2.1.F ht⟩) hw.2.2.2.1.2.2 dX9_guess_19
abbrev wr_X9_image : List (Nat × Nat) := [(2, 1), (2, 2), (8, 0), (8, 1)]
abbrev wa_X9_image : List Nat := [8, 9, 10, 11, 12, 13]
set_option maxHeartbeats 4000000 in
set_option maxRecDepth 100000 in
theorem c_X9_image (l : Launch) (D : va_G) (cy : Nat → ClassId) (z : Nat → Nat) (sz : Nat) (Ps : PSI) (w0 : va_W) (hT : HT cy GG Ps w0) (p0 : Nat) (p1 : Int32) (h_p0 : (p0, 33) ∈ Ps) (r_p1 : RI p1 (-2147483648) 2147483647) : Met l yX9_image (Cond.code yX9_image cX9_image 2 (some .boolean) :: gT) ({ frames := 4, cells := 0, slots := 0, locals := 800 } : Room) (va_Pc [.ref p0, .int p1] (PRE D cy z w0 sz)) (va_Qi (fun (r : Int32) (u : va_W) => (RI r 0 1 ∧ (r = 0 → True) ∧ (¬ r = 0 → True)) ∧ HT cy GG Ps u ∧ FR wr_X9_image wa_X9_image Ps w0 u) (BB D cy (va_A w0 sz) (fun (u : va_W) => u)) (va_A w0 sz)) 0 0 (va_A w0 sz) := by
  refine Met.ofW (cc := cX9_image) (maxL := 2) (ret := (some .boolean)) (by decide) rfl ?_
  intro p e s m args below meth c s₁ B hml hv
  obtain ⟨rfl, hsz, hP, hK, hD0, hSD⟩ := hv
  have hx := B.exec
  have hb := B.bytes
  have hr := B.returns
  have hlocks := B.notSynchronized
  have hts : ∀ w ∈ gT, w.before _ s = true := fun w h => atoms_spec (ws := Cond.code yX9_image cX9_image 2 (some .boolean) :: gT) B.pre w (List.mem_cons_of_mem _ h)
  have hown : s.vm.findClass RX9 = some m.cls := findClass_of_methodNamed B.named
  subst hsz
  have hD := hD0.self (sz := s.heap.size)
  generalize hAe : va_A w0 s.heap.size = A at hD hSD ⊢
  have hA : ∀ q : Nat, s.heap.size ≤ q → A q := fun q h => by rw [← hAe]; exact Or.inr h
  have hl := lv_entry ([.ref p0, .int p1]) (n := 2) (Nat.le_of_ble_eq_true rfl)
  rw [lg_entry_eq]
  generalize (lg_sl ([.ref p0, .int p1]) ++ List.replicate (2 - (lg_sl ([.ref p0, .int p1])).length) Slot.unset).toArray = ls at hl ⊢
  have hl : lv_has ls 2 [(0, .ref p0), (1, .int p1)] := hl
  refine nameQ (fun Q hQ => ?_)
  have hw : WD D cy GG A s wr_X9_image wa_X9_image Ps w0 Ps w0 s.heap [] := ⟨hT, hP, hD, va_S.rf, FR.rf, hT.1, [], (List.append_nil _).symm⟩
  refine lv_iload_n hx hb dX9_image_0 rfl (lv_at hl 1 rfl) ?_
  refine lv_if_lt (tgt := 13) hx hb dX9_image_1 (by decide) (fun c_1 => ?_) (fun c_1 => ?_)
  · have r_p1 : RI p1 (-2147483648) (-1) := rc_lt1 r_p1 rl_0 (ti_lt c_1) (by decide)
    refine lv_iconst (v := 0) hx hb dX9_image_13 (by decide) ?_
    subst hQ
    exact W.zret (v := 0) hx hb hr (rfl) (fun t ht hW => ⟨⟨0, w0, rfl, ⟨⟨rl_0.to (by decide), (fun h0 => trivial), (fun _ => trivial)⟩, hw.1, hw.2.2.2.2.1⟩, by rw [ht]; exact hw.2.1, va_K.moved hW.alike hK, hw.2.2.1⟩, hw.2.2.2.1.F ht⟩) hw.2.2.2.1.2.2 dX9_image_14
  · have r_p1 : RI p1 0 2147483647 := rc_le2 rl_0 r_p1 (ti_nlt c_1) (by decide)
    refine lv_iload_n hx hb dX9_image_4 rfl (lv_at hl 1 rfl) ?_
    refine lv_aload_n hx hb dX9_image_5 rfl (lv_at hl 0 rfl) ?_
    refine tg_get (ci := 9) (ts := ty_WP) (C := RX9) (T := TX9) (N := 15) hx hb hts inX9 hown hK hw h_p0 rfl rfl 4 (by decide) (hts _ tw_350) (fun _ h9 => h9) (ft := vR 23) rfl dX9_image_6 (fun u_1 hv_u_1 m_u_1 => ?_)
    obtain ⟨vu_1, rfl, h_vu_1⟩ := hv_u_1
    refine tg_alenQ (t0 := 5) (v := 2) hx hb hK hw h_vu_1 rfl rfl rfl dX9_image_9 ?_
    refine lv_icmp_lt (tgt := 15) hx hb dX9_image_10 (by decide) (fun c_10 => ?_) (fun c_10 => ?_)
    · have r_p1 : RI p1 0 1 := rc_lt1 r_p1 rl_2 (ti_lt c_10) (by decide)
      refine lv_aload_n hx hb dX9_image_15 rfl (lv_at hl 0 rfl) ?_
      refine tg_mem (ci := 9) (C := RX9) (T := TX9) (N := 15) hx hb hts inX9 hown hK hw 4 m_u_1 rfl (by decide) (hts _ tw_350) (fun _ h9 => h9) dX9_image_16 ?_
      refine lv_iload_n hx hb dX9_image_19 rfl (lv_at hl 1 rfl) ?_
      refine tg_aald (u := 28) hx hb hK hw h_vu_1 rfl rfl 0 1 r_p1 (by decide) (fun _ _ _ => rfl) dX9_image_20 (fun b_2 h_b_2 => ?_)
      refine lv_aload_n hx hb dX9_image_21 rfl (lv_at hl 0 rfl) ?_
      refine tg_get (ci := 9) (ts := ty_WP) (C := RX9) (T := TX9) (N := 15) hx hb hts inX9 hown hK hw h_p0 rfl rfl 1 (by decide) (hts _ tw_347) (fun _ h9 => h9) (ft := vR 24) rfl dX9_image_22 (fun u_3 hv_u_3 m_u_3 => ?_)
      obtain ⟨vu_3, rfl, h_vu_3⟩ := hv_u_3
      refine lv_aload_n hx hb dX9_image_25 rfl (lv_at hl 0 rfl) ?_
      refine tg_get (ci := 9) (ts := ty_WP) (C := RX9) (T := TX9) (N := 15) hx hb hts inX9 hown hK hw h_p0 rfl rfl 5 (by decide) (hts _ tw_351) (fun _ h9 => h9) (ft := vN 32) rfl dX9_image_26 (fun u_4 hv_u_4 m_u_4 => ?_)
      rcases hv_u_4 with rfl | ⟨vu_4, rfl, h_vu_4⟩
      · refine tk_v (va_runV (As := [.ref vu_3, .null]) (rest := []) ⟨hx, hb, hml, hown, hts⟩ (c_X2_take__1 l D cy z s.heap.size Ps w0 hw.1 b_2 vu_3 h_b_2 h_vu_3) (cwV 2 hts (gV tw_1022 tw_1023 tw_1024 tw_14 tw_1025) rfl rfl rfl (by decide +kernel) ⟨Nat.le_of_ble_eq_true rfl, Nat.le_of_ble_eq_true rfl⟩) (tg_preV hw hK hSD hA (ci := 2) (q := (RX2, TX2, 3)) rfl h_b_2 rfl) rfl rfl hl.1 rfl (lv_room (Nat.le_of_ble_eq_true rfl)) dX9_image_29 ⟨Nat.le_of_ble_eq_true rfl, Nat.le_of_ble_eq_true rfl⟩) hw hA ⟨by decide, by decide⟩ (fun ws H locs hp_v_5 hw hF9 => ?_)
        refine lv_iconst (v := 1) hx hb dX9_image_32 (by decide) ?_
        subst hQ
        exact W.zret (v := 1) hx hb hr (rfl) (fun t ht hW => ⟨⟨1, ws, rfl, ⟨⟨rl_1.to (by decide), (fun _ => trivial), (fun h0 => trivial)⟩, hw.1, hw.2.2.2.2.1⟩, by rw [ht]; exact hw.2.1, va_K.moved hW.alike hK, hw.2.2.1⟩, hw.2.2.2.1.F ht⟩) hw.2.2.2.1.2.2 dX9_image_33
      · refine tk_v (va_runV (As := [.ref vu_3, .ref vu_4]) (rest := []) ⟨hx, hb, hml, hown, hts⟩ (c_X2_take l D cy z s.heap.size Ps w0 hw.1 b_2 vu_3 vu_4 h_b_2 h_vu_3 h_vu_4) (cwV 2 hts (gV tw_1022 tw_1023 tw_1024 tw_14 tw_1025) rfl rfl rfl (by decide +kernel) ⟨Nat.le_of_ble_eq_true rfl, Nat.le_of_ble_eq_true rfl⟩) (tg_preV hw hK hSD hA (ci := 2) (q := (RX2, TX2, 3)) rfl h_b_2 rfl) rfl rfl hl.1 rfl (lv_room (Nat.le_of_ble_eq_true rfl)) dX9_image_29 ⟨Nat.le_of_ble_eq_true rfl, Nat.le_of_ble_eq_true rfl⟩) hw hA ⟨by decide, by decide⟩ (fun ws H locs hp_v_6 hw hF9 => ?_)
        refine lv_iconst (v := 1) hx hb dX9_image_32 (by decide) ?_
        subst hQ
        exact W.zret (v := 1) hx hb hr (rfl) (fun t ht hW => ⟨⟨1, ws, rfl, ⟨⟨rl_1.to (by decide), (fun _ => trivial), (fun h0 => trivial)⟩, hw.1, hw.2.2.2.2.1⟩, by rw [ht]; exact hw.2.1, va_K.moved hW.alike hK, hw.2.2.1⟩, hw.2.2.2.1.F ht⟩) hw.2.2.2.1.2.2 dX9_image_33
    · have r_p1 : RI p1 2 2147483647 := rc_le2 rl_2 r_p1 (ti_nlt c_10) (by decide)
      refine lv_iconst (v := 0) hx hb dX9_image_13 (by decide) ?_
      subst hQ
      exact W.zret (v := 0) hx hb hr (rfl) (fun t ht hW => ⟨⟨0, w0, rfl, ⟨⟨rl_0.to (by decide), (fun h0 => trivial), (fun _ => trivial)⟩, hw.1, hw.2.2.2.2.1⟩, by rw [ht]; exact hw.2.1, va_K.moved hW.alike hK, hw.2.2.1⟩, hw.2.2.2.1.F ht⟩) hw.2.2.2.1.2.2 dX9_image_14
abbrev wr_X9_let : List (Nat × Nat) := [(8, 0), (8, 1)]
abbrev wa_X9_let : List Nat := [8, 9, 10, 11, 12, 13]
set_option maxHeartbeats 4000000 in
set_option maxRecDepth 100000 in
theorem c_X9_let (l : Launch) (D : va_G) (cy : Nat → ClassId) (z : Nat → Nat) (sz : Nat) (Ps : PSI) (w0 : va_W) (hT : HT cy GG Ps w0) (p0 : Nat) (p1 : Int32) (h_p0 : (p0, 33) ∈ Ps) (r_p1 : RI p1 (-2147483648) 2147483647) : Met l yX9_let (Cond.code yX9_let cX9_let 3 (some .int) :: gT) ({ frames := 4, cells := 0, slots := 0, locals := 800 } : Room) (va_Pc [.ref p0, .int p1] (PRE D cy z w0 sz)) (va_Qi (fun (r : Int32) (u : va_W) => (RI r (-1) 594 ∧ (r = 0 → True) ∧ (¬ r = 0 → True)) ∧ HT cy GG Ps u ∧ FR wr_X9_let wa_X9_let Ps w0 u) (BB D cy (va_A w0 sz) (fun (u : va_W) => u)) (va_A w0 sz)) 0 0 (va_A w0 sz) := by
  refine Met.ofW (cc := cX9_let) (maxL := 3) (ret := (some .int)) (by decide) rfl ?_
  intro p e s m args below meth c s₁ B hml hv
  obtain ⟨rfl, hsz, hP, hK, hD0, hSD⟩ := hv
  have hx := B.exec
  have hb := B.bytes
  have hr := B.returns
  have hlocks := B.notSynchronized
  have hts : ∀ w ∈ gT, w.before _ s = true := fun w h => atoms_spec (ws := Cond.code yX9_let cX9_let 3 (some .int) :: gT) B.pre w (List.mem_cons_of_mem _ h)
  have hown : s.vm.findClass RX9 = some m.cls := findClass_of_methodNamed B.named
  subst hsz
  have hD := hD0.self (sz := s.heap.size)
  generalize hAe : va_A w0 s.heap.size = A at hD hSD ⊢
  have hA : ∀ q : Nat, s.heap.size ≤ q → A q := fun q h => by rw [← hAe]; exact Or.inr h
  have hl := lv_entry ([.ref p0, .int p1]) (n := 3) (Nat.le_of_ble_eq_true rfl)
  rw [lg_entry_eq]
  generalize (lg_sl ([.ref p0, .int p1]) ++ List.replicate (3 - (lg_sl ([.ref p0, .int p1])).length) Slot.unset).toArray = ls at hl ⊢
  have hl : lv_has ls 3 [(0, .ref p0), (1, .int p1)] := hl
  refine nameQ (fun Q hQ => ?_)
  have hw : WD D cy GG A s wr_X9_let wa_X9_let Ps w0 Ps w0 s.heap [] := ⟨hT, hP, hD, va_S.rf, FR.rf, hT.1, [], (List.append_nil _).symm⟩
  have B24 : ∀ (nf : Nat) (x2 : Int32) (ws : va_W) (H : Heap) (locs : List Loc) (ls : Array Slot), 594 - x2.toInt < (nf : Int) → RI p1 0 5 → RI x2 0 594 → WD D cy GG A s wr_X9_let wa_X9_let Ps w0 Ps ws H locs → lv_has ls 3 [(0, .ref p0), (1, .int p1), (2, .int x2)] → W p l e (headSpec (Cond.code yX9_let cX9_let 3 (some .int) :: gT) ({ frames := 4, cells := 0, slots := 0, locals := 800 } : Room)).room s m ([.ref p0, .int p1] : List Value).toArray below meth c H locs 0 0 Q (F0 m 24 ls []) := by
    intro nf24
    induction nf24 with
    | zero =>
      intro x2 ws H locs ls hn24 r_p1 r_x2 hw hl
      exact absurd hn24 (by have q0 := r_x2.1; have u0 := r_x2.2; omega)
    | succ nf24 ih24 =>
      intro x2 ws H locs ls hn24 r_p1 r_x2 hw hl
      refine lv_iload_n hx hb dX9_let_24 rfl (lv_at hl 2 rfl) ?_
      refine lv_sipush (v := 594) hx hb dX9_let_25 (by decide) ?_
      refine lv_icmp_ge (tgt := 65) hx hb dX9_let_28 (by decide) (fun c_28 => ?_) (fun c_28 => ?_)
      · have r_x2 : RI x2 594 594 := rc_le2 rl_594 r_x2 (ti_le c_28) (by decide)
        refine lv_iload_n hx hb dX9_let_65 rfl (lv_at hl 2 rfl) ?_
        subst hQ
        exact W.iret (v := x2) hx hb hr (fun t ht hW => ⟨⟨x2, ws, rfl, ⟨⟨r_x2.to (by decide), (fun _ => trivial), (fun h0 => trivial)⟩, hw.1, hw.2.2.2.2.1⟩, by rw [ht]; exact hw.2.1, va_K.moved hW.alike hK, hw.2.2.1⟩, hw.2.2.2.1.F ht⟩) hw.2.2.2.1.2.2 dX9_let_66
      · have r_x2 : RI x2 0 593 := rc_lt1 r_x2 rl_594 (ti_nle c_28) (by decide)
        refine lv_aload_n hx hb dX9_let_31 rfl (lv_at hl 0 rfl) ?_
        refine tg_get (ci := 9) (ts := ty_WP) (C := RX9) (T := TX9) (N := 15) hx hb hts inX9 hown hK hw h_p0 rfl rfl 2 (by decide) (hts _ tw_348) (fun _ h9 => h9) (ft := vR 24) rfl dX9_let_32 (fun u_1 hv_u_1 m_u_1 => ?_)
        obtain ⟨vu_1, rfl, h_vu_1⟩ := hv_u_1
        refine lv_iload_n hx hb dX9_let_35 rfl (lv_at hl 1 rfl) ?_
        refine tk_ir (va_runV (As := [.int p1]) (rest := []) ⟨hx, hb, hml, hown, hts⟩ (c_X8_isNow l D cy z H.size Ps ws hw.1 vu_1 p1 h_vu_1 r_p1) (cwV 1 hts (gV tw_783 tw_570 tw_571 tw_12 tw_572) rfl rfl rfl (by decide +kernel) ⟨Nat.le_of_ble_eq_true rfl, Nat.le_of_ble_eq_true rfl⟩) (tg_preV hw hK hSD hA (ci := 8) (q := (RX8, TX8, 13)) rfl h_vu_1 rfl) rfl rfl hl.1 rfl (lv_room (Nat.le_of_ble_eq_true rfl)) dX9_let_36 ⟨Nat.le_of_ble_eq_true rfl, Nat.le_of_ble_eq_true rfl⟩) hw hA (fun v_2  H locs hp_v_2 hw => ?_)
        have r_v_2 : RI v_2 (-1) 5 := hp_v_2.1
        by_cases c9_v_2 : v_2.toInt < 0
        · have r_v_2 : RI v_2 (-1) (-1) := by unfold RI at r_v_2 ⊢; omega
          have x_NBQ_vu_1_p1 := (hp_v_2.2.2.2.2.1 (by omega)).1
          refine lv_iconst (v := (-1)) hx hb dX9_let_39 (by decide) ?_
          refine lv_icmp_eq (tgt := 65) hx hb dX9_let_40 (by decide) (fun c_40 => ?_) (fun c_40 => ?_)
          · refine lv_iload_n hx hb dX9_let_65 rfl (lv_at hl 2 rfl) ?_
            subst hQ
            exact W.iret (v := x2) hx hb hr (fun t ht hW => ⟨⟨x2, ws, rfl, ⟨⟨r_x2.to (by decide), (fun h0 => trivial), (fun h0 => trivial)⟩, hw.1, hw.2.2.2.2.1⟩, by rw [ht]; exact hw.2.1, va_K.moved hW.alike hK, hw.2.2.1⟩, hw.2.2.2.1.F ht⟩) hw.2.2.2.1.2.2 dX9_let_66
          · exact absurd (r_v_2.eq.trans rl_m1.eq.symm) ((ti_ne c_40))
        · have r_v_2 : RI v_2 0 5 := by unfold RI at r_v_2 ⊢; omega
          have x_WBQ_vu_1_p1 := (hp_v_2.2.2.2.2.2 (by omega)).1
          refine lv_iconst (v := (-1)) hx hb dX9_let_39 (by decide) ?_
          refine lv_icmp_eq (tgt := 65) hx hb dX9_let_40 (by decide) (fun c_40 => ?_) (fun c_40 => ?_)
          · have r_v_2 : RI v_2 0 (-1) := rc_eq1 r_v_2 rl_m1 (ti_eq c_40) (by decide)
            exact (r_v_2.no (by decide)).elim
          · refine lv_aload_n hx hb dX9_let_43 rfl (lv_at hl 0 rfl) ?_
            refine tg_mem (ci := 9) (C := RX9) (T := TX9) (N := 15) hx hb hts inX9 hown hK hw 2 m_u_1 rfl (by decide) (hts _ tw_348) (fun _ h9 => h9) dX9_let_44 ?_
            refine lv_iload_n hx hb dX9_let_47 rfl (lv_at hl 1 rfl) ?_
            refine lv_aload_n hx hb dX9_let_48 rfl (lv_at hl 0 rfl) ?_
            refine tg_mem (ci := 9) (C := RX9) (T := TX9) (N := 15) hx hb hts inX9 hown hK hw 2 m_u_1 rfl (by decide) (hts _ tw_348) (fun _ h9 => h9) dX9_let_49 ?_
            refine lv_iload_n hx hb dX9_let_52 rfl (lv_at hl 1 rfl) ?_
            refine tk_ir (va_runV (As := [.int p1]) (rest := [.int p1, .ref vu_1]) ⟨hx, hb, hml, hown, hts⟩ (c_X8_isNow l D cy z H.size Ps ws hw.1 vu_1 p1 h_vu_1 r_p1) (cwV 1 hts (gV tw_783 tw_570 tw_571 tw_12 tw_572) rfl rfl rfl (by decide +kernel) ⟨Nat.le_of_ble_eq_true rfl, Nat.le_of_ble_eq_true rfl⟩) (tg_preV hw hK hSD hA (ci := 8) (q := (RX8, TX8, 13)) rfl h_vu_1 rfl) rfl rfl hl.1 rfl (lv_room (Nat.le_of_ble_eq_true rfl)) dX9_let_53 ⟨Nat.le_of_ble_eq_true rfl, Nat.le_of_ble_eq_true rfl⟩) hw hA (fun v_3  H locs hp_v_3 hw => ?_)
            have r_v_3 : RI v_3 (-1) 5 := hp_v_3.1
            by_cases c9_v_3 : v_3.toInt < 0
            · have r_v_3 : RI v_3 (-1) (-1) := by unfold RI at r_v_3 ⊢; omega
              have x_NBQ_vu_1_p1 := (hp_v_3.2.2.2.2.1 (by omega)).1
              exact (WX.no hw x_NBQ_vu_1_p1 x_WBQ_vu_1_p1).elim
            · have r_v_3 : RI v_3 0 5 := by unfold RI at r_v_3 ⊢; omega
              have x_WBQ_vu_1_p1 := (hp_v_3.2.2.2.2.2 (by omega)).1
              refine tk_v (va_runV (As := [.int p1, .int v_3]) (rest := []) ⟨hx, hb, hml, hown, hts⟩ (c_X8_lessBy l D cy z H.size Ps ws hw.1 vu_1 p1 v_3 h_vu_1 r_p1 r_v_3) (cwV 2 hts (gV tw_784 tw_653 tw_654 tw_12 tw_655) rfl rfl rfl (by decide +kernel) ⟨Nat.le_of_ble_eq_true rfl, Nat.le_of_ble_eq_true rfl⟩) (tg_preV hw hK hSD hA (ci := 8) (q := (RX8, TX8, 13)) rfl h_vu_1 rfl) rfl rfl hl.1 rfl (lv_room (Nat.le_of_ble_eq_true rfl)) dX9_let_56 ⟨Nat.le_of_ble_eq_true rfl, Nat.le_of_ble_eq_true rfl⟩) hw hA ⟨by decide, by decide⟩ (fun ws H locs hp_v_4 hw hF9 => ?_)
              obtain ⟨v_5, e_v_5⟩ : ∃ q9 : Int32, q9 = x2 + Int32.ofInt 1 := ⟨_, rfl⟩
              obtain ⟨t_v_5, r_v_5⟩ := tq_add (lo := 1) (hi := 594) r_x2 (show RI (Int32.ofInt 1) 1 1 by unfold RI; decide +kernel) (by decide +kernel) e_v_5
              have t_v_5 : v_5.toInt = x2.toInt + 1 := t_v_5
              refine lv_iinc (v := v_5) (lv' := [(2, .int v_5), (0, .ref p0), (1, .int p1)]) hx hb dX9_let_59 hl (k := 2) rfl e_v_5.symm (by decide) rfl (fun ls hl => ?_)
              refine lv_goto (tgt := 24) hx hb dX9_let_62 (by decide) ?_
              exact ih24 v_5 ws _ _ ls (by have q0 := r_v_5.1; have u0 := r_v_5.2; have o0 := r_x2.1; have p0 := r_x2.2; omega) r_p1 (r_v_5.to (by decide)) hw (lv_sub hl [1, 2, 0] rfl)
  refine lv_aload_n hx hb dX9_let_0 rfl (lv_at hl 0 rfl) ?_
  refine lv_iconst (v := 2) hx hb dX9_let_1 (by decide) ?_
  refine lv_iload_n hx hb dX9_let_2 rfl (lv_at hl 1 rfl) ?_
  refine tk_ir (va_runV (As := [.int 2, .int p1]) (rest := []) ⟨hx, hb, hml, hown, hts⟩ (c_X9_isOf l D cy z s.heap.size Ps w0 hw.1 p0 2 p1 h_p0 rl_2 r_p1) (cwV 2 hts (gV tw_540 tw_542 ts_10 tw_1 tw_543) rfl rfl rfl (by decide +kernel) ⟨Nat.le_of_ble_eq_true rfl, Nat.le_of_ble_eq_true rfl⟩) (tg_preV hw hK hSD hA (ci := 9) (q := (RX9, TX9, 15)) rfl h_p0 rfl) rfl rfl hl.1 rfl (lv_room (Nat.le_of_ble_eq_true rfl)) dX9_let_3 ⟨Nat.le_of_ble_eq_true rfl, Nat.le_of_ble_eq_true rfl⟩) hw hA (fun v_6  H locs hp_v_6 hw => ?_)
  have r_v_6 : RI v_6 0 1 := hp_v_6.1
  refine lv_if_ne (tgt := 11) hx hb dX9_let_6 (by decide) (fun c_6 => ?_) (fun c_6 => ?_)
  · have r_v_6 : RI v_6 1 1 := rc_neL r_v_6 rl_0 (ti_ne c_6) (by decide)
    have r_p1 : RI p1 0 5 := ((hp_v_6.2.2 c_6).1)
    refine lv_aload_n hx hb dX9_let_11 rfl (lv_at hl 0 rfl) ?_
    refine tg_get (ci := 9) (ts := ty_WP) (C := RX9) (T := TX9) (N := 15) hx hb hts inX9 hown hK hw h_p0 rfl rfl 2 (by decide) (hts _ tw_348) (fun _ h9 => h9) (ft := vR 24) rfl dX9_let_12 (fun u_7 hv_u_7 m_u_7 => ?_)
    obtain ⟨vu_7, rfl, h_vu_7⟩ := hv_u_7
    refine lv_aload_n hx hb dX9_let_15 rfl (lv_at hl 0 rfl) ?_
    refine tg_get (ci := 9) (ts := ty_WP) (C := RX9) (T := TX9) (N := 15) hx hb hts inX9 hown hK hw h_p0 rfl rfl 1 (by decide) (hts _ tw_347) (fun _ h9 => h9) (ft := vR 24) rfl dX9_let_16 (fun u_8 hv_u_8 m_u_8 => ?_)
    obtain ⟨vu_8, rfl, h_vu_8⟩ := hv_u_8
    refine tk_v (va_runV (As := [.ref vu_8]) (rest := []) ⟨hx, hb, hml, hown, hts⟩ (c_X8_takeFrom l D cy z H.size Ps w0 hw.1 vu_7 vu_8 h_vu_7 h_vu_8) (cwV 1 hts (gV tw_521 tw_522 tw_523 tw_12 tw_524) rfl rfl rfl (by decide +kernel) ⟨Nat.le_of_ble_eq_true rfl, Nat.le_of_ble_eq_true rfl⟩) (tg_preV hw hK hSD hA (ci := 8) (q := (RX8, TX8, 13)) rfl h_vu_7 rfl) rfl rfl hl.1 rfl (lv_room (Nat.le_of_ble_eq_true rfl)) dX9_let_19 ⟨Nat.le_of_ble_eq_true rfl, Nat.le_of_ble_eq_true rfl⟩) hw hA ⟨by decide, by decide⟩ (fun ws H locs hp_v_9 hw hF9 => ?_)
    refine lv_iconst (v := 0) hx hb dX9_let_22 (by decide) ?_
    refine lv_istore_n (lv' := [(2, .int 0), (0, .ref p0), (1, .int p1)]) hx hb dX9_let_23 rfl hl (by decide) rfl (fun ls hl => ?_)
    exact B24 4294967298 0 ws _ _ ls (by have q0 := rl_0.1; have u0 := rl_0.2; omega) r_p1 (rl_0.to (by decide)) hw (lv_sub hl [1, 2, 0] rfl)
  · have r_v_6 : RI v_6 0 0 := rc_eq1 r_v_6 rl_0 (ti_eq c_6) (by decide)
    refine lv_iconst (v := (-1)) hx hb dX9_let_9 (by decide) ?_
    subst hQ
    exact W.iret (v := (-1)) hx hb hr (fun t ht hW => ⟨⟨(-1), w0, rfl, ⟨⟨rl_m1.to (by decide), (fun _ => trivial), (fun h0 => trivial)⟩, hw.1, hw.2.2.2.2.1⟩, by rw [ht]; exact hw.2.1, va_K.moved hW.alike hK, hw.2.2.1⟩, hw.2.2.2.1.F ht⟩) hw.2.2.2.1.2.2 dX9_let_10
abbrev wr_X9_much : List (Nat × Nat) := []
abbrev wa_X9_much : List Nat := []
set_option maxHeartbeats 4000000 in
set_option maxRecDepth 100000 in
theorem c_X9_much (l : Launch) (D : va_G) (cy : Nat → ClassId) (z : Nat → Nat) (sz : Nat) (Ps : PSI) (w0 : va_W) (hT : HT cy GG Ps w0) (p0 : Nat) (p1 : Int32) (p2 : Int32) (h_p0 : (p0, 33) ∈ Ps) (r_p1 : RI p1 (-2147483648) 2147483647) (r_p2 : RI p2 (-2147483648) 2147483647) : Met l yX9_much (Cond.code yX9_much cX9_much 3 (some .int) :: gT) ({ frames := 2, cells := 0, slots := 0, locals := 400 } : Room) (va_Pc [.ref p0, .int p1, .int p2] (PRE D cy z w0 sz)) (va_Qi (fun (r : Int32) (u : Unit) => RI r (-2147483648) 2147483647 ∧ (r = 0 → True) ∧ (¬ r = 0 → True)) (BB D cy (va_A w0 sz) (fun (u : Unit) => w0)) (va_A w0 sz)) 0 0 (va_A w0 sz) := by
  refine Met.ofW (cc := cX9_much) (maxL := 3) (ret := (some .int)) (by decide) rfl ?_
  intro p e s m args below meth c s₁ B hml hv
  obtain ⟨rfl, hsz, hP, hK, hD0, hSD⟩ := hv
  have hx := B.exec
  have hb := B.bytes
  have hr := B.returns
  have hlocks := B.notSynchronized
  have hts : ∀ w ∈ gT, w.before _ s = true := fun w h => atoms_spec (ws := Cond.code yX9_much cX9_much 3 (some .int) :: gT) B.pre w (List.mem_cons_of_mem _ h)
  have hown : s.vm.findClass RX9 = some m.cls := findClass_of_methodNamed B.named
  subst hsz
  have hD := hD0.self (sz := s.heap.size)
  generalize hAe : va_A w0 s.heap.size = A at hD hSD ⊢
  have hA : ∀ q : Nat, s.heap.size ≤ q → A q := fun q h => by rw [← hAe]; exact Or.inr h
  have hl := lv_entry ([.ref p0, .int p1, .int p2]) (n := 3) (Nat.le_of_ble_eq_true rfl)
  rw [lg_entry_eq]
  generalize (lg_sl ([.ref p0, .int p1, .int p2]) ++ List.replicate (3 - (lg_sl ([.ref p0, .int p1, .int p2])).length) Slot.unset).toArray = ls at hl ⊢
  have hl : lv_has ls 3 [(0, .ref p0), (1, .int p1), (2, .int p2)] := hl
  refine nameQ (fun Q hQ => ?_)
  have hw : WD D cy GG A s wr_X9_much wa_X9_much Ps w0 Ps w0 s.heap [] := ⟨hT, hP, hD, va_S.rf, FR.rf, hT.1, [], (List.append_nil _).symm⟩
  refine lv_aload_n hx hb dX9_much_0 rfl (lv_at hl 0 rfl) ?_
  refine lv_iconst (v := 2) hx hb dX9_much_1 (by decide) ?_
  refine lv_iload_n hx hb dX9_much_2 rfl (lv_at hl 1 rfl) ?_
  refine tk_ir (va_runV (As := [.int 2, .int p1]) (rest := []) ⟨hx, hb, hml, hown, hts⟩ (c_X9_isOf l D cy z s.heap.size Ps w0 hw.1 p0 2 p1 h_p0 rl_2 r_p1) (cwV 2 hts (gV tw_540 tw_542 ts_10 tw_1 tw_543) rfl rfl rfl (by decide +kernel) ⟨Nat.le_of_ble_eq_true rfl, Nat.le_of_ble_eq_true rfl⟩) (tg_preV hw hK hSD hA (ci := 9) (q := (RX9, TX9, 15)) rfl h_p0 rfl) rfl rfl hl.1 rfl (lv_room (Nat.le_of_ble_eq_true rfl)) dX9_much_3 ⟨Nat.le_of_ble_eq_true rfl, Nat.le_of_ble_eq_true rfl⟩) hw hA (fun v_1  H locs hp_v_1 hw => ?_)
  have r_v_1 : RI v_1 0 1 := hp_v_1.1
  refine lv_if_eq (tgt := 30) hx hb dX9_much_6 (by decide) (fun c_6 => ?_) (fun c_6 => ?_)
  · have r_v_1 : RI v_1 0 0 := rc_eq1 r_v_1 rl_0 (ti_eq c_6) (by decide)
    refine lv_iconst (v := (-1)) hx hb dX9_much_30 (by decide) ?_
    subst hQ
    exact W.iret (v := (-1)) hx hb hr (fun t ht hW => ⟨⟨(-1), (), rfl, ⟨rl_m1.to (by decide), (fun _ => trivial), (fun h0 => trivial)⟩, by rw [ht]; exact hw.2.1, va_K.moved hW.alike hK, hw.2.2.1⟩, hw.2.2.2.1.F ht⟩) hw.2.2.2.1.2.2 dX9_much_31
  · have r_v_1 : RI v_1 1 1 := rc_neL r_v_1 rl_0 (ti_ne c_6) (by decide)
    have r_p1 : RI p1 0 5 := ((hp_v_1.2.2 c_6).1)
    refine lv_aload_n hx hb dX9_much_9 rfl (lv_at hl 0 rfl) ?_
    refine lv_iconst (v := 0) hx hb dX9_much_10 (by decide) ?_
    refine lv_iload_n hx hb dX9_much_11 rfl (lv_at hl 2 rfl) ?_
    refine tk_ir (va_runV (As := [.int 0, .int p2]) (rest := []) ⟨hx, hb, hml, hown, hts⟩ (c_X9_isOf__3 l D cy z H.size Ps w0 hw.1 p0 0 p2 h_p0 rl_0 r_p2) (cwV 2 hts (gV tw_540 tw_542 ts_10 tw_1 tw_543) rfl rfl rfl (by decide +kernel) ⟨Nat.le_of_ble_eq_true rfl, Nat.le_of_ble_eq_true rfl⟩) (tg_preV hw hK hSD hA (ci := 9) (q := (RX9, TX9, 15)) rfl h_p0 rfl) rfl rfl hl.1 rfl (lv_room (Nat.le_of_ble_eq_true rfl)) dX9_much_12 ⟨Nat.le_of_ble_eq_true rfl, Nat.le_of_ble_eq_true rfl⟩) hw hA (fun v_2  H locs hp_v_2 hw => ?_)
    have r_v_2 : RI v_2 0 1 := hp_v_2.1
    refine lv_if_eq (tgt := 30) hx hb dX9_much_15 (by decide) (fun c_15 => ?_) (fun c_15 => ?_)
    · have r_v_2 : RI v_2 0 0 := rc_eq1 r_v_2 rl_0 (ti_eq c_15) (by decide)
      refine lv_iconst (v := (-1)) hx hb dX9_much_30 (by decide) ?_
      subst hQ
      exact W.iret (v := (-1)) hx hb hr (fun t ht hW => ⟨⟨(-1), (), rfl, ⟨rl_m1.to (by decide), (fun _ => trivial), (fun h0 => trivial)⟩, by rw [ht]; exact hw.2.1, va_K.moved hW.alike hK, hw.2.2.1⟩, hw.2.2.2.1.F ht⟩) hw.2.2.2.1.2.2 dX9_much_31
    · have r_v_2 : RI v_2 1 1 := rc_neL r_v_2 rl_0 (ti_ne c_15) (by decide)
      have r_p2 : RI p2 0 5 := ((hp_v_2.2.2 c_15).1)
      refine lv_aload_n hx hb dX9_much_18 rfl (lv_at hl 0 rfl) ?_
      refine tg_get (ci := 9) (ts := ty_WP) (C := RX9) (T := TX9) (N := 15) hx hb hts inX9 hown hK hw h_p0 rfl rfl 1 (by decide) (hts _ tw_347) (fun _ h9 => h9) (ft := vR 24) rfl dX9_much_19 (fun u_3 hv_u_3 m_u_3 => ?_)
      obtain ⟨vu_3, rfl, h_vu_3⟩ := hv_u_3
      refine lv_iload_n hx hb dX9_much_22 rfl (lv_at hl 1 rfl) ?_
      refine lv_iload_n hx hb dX9_much_23 rfl (lv_at hl 2 rfl) ?_
      refine tk_ir (va_runV (As := [.int p1, .int p2]) (rest := []) ⟨hx, hb, hml, hown, hts⟩ (c_X8_has l D cy z H.size Ps w0 hw.1 vu_3 p1 p2 h_vu_3 r_p1 r_p2) (cwV 2 hts (gV tw_544 tw_474 tw_475 tw_12 tw_476) rfl rfl rfl (by decide +kernel) ⟨Nat.le_of_ble_eq_true rfl, Nat.le_of_ble_eq_true rfl⟩) (tg_preV hw hK hSD hA (ci := 8) (q := (RX8, TX8, 13)) rfl h_vu_3 rfl) rfl rfl hl.1 rfl (lv_room (Nat.le_of_ble_eq_true rfl)) dX9_much_24 ⟨Nat.le_of_ble_eq_true rfl, Nat.le_of_ble_eq_true rfl⟩) hw hA (fun v_4  H locs hp_v_4 hw => ?_)
      have r_v_4 : RI v_4 (-2147483648) 2147483647 := hp_v_4.1
      refine lv_goto (tgt := 31) hx hb dX9_much_27 (by decide) ?_
      subst hQ
      exact W.iret (v := v_4) hx hb hr (fun t ht hW => ⟨⟨v_4, (), rfl, ⟨r_v_4.to (by decide), (fun h0 => trivial), (fun h0 => trivial)⟩, by rw [ht]; exact hw.2.1, va_K.moved hW.alike hK, hw.2.2.1⟩, hw.2.2.2.1.F ht⟩) hw.2.2.2.1.2.2 dX9_much_31
abbrev wr_X9_need : List (Nat × Nat) := []
abbrev wa_X9_need : List Nat := []
set_option maxHeartbeats 4000000 in
set_option maxRecDepth 100000 in
theorem c_X9_need (l : Launch) (D : va_G) (cy : Nat → ClassId) (z : Nat → Nat) (sz : Nat) (Ps : PSI) (w0 : va_W) (hT : HT cy GG Ps w0) (p0 : Nat) (p1 : Int32) (h_p0 : (p0, 33) ∈ Ps) (r_p1 : RI p1 (-2147483648) 2147483647) : Met l yX9_need (Cond.code yX9_need cX9_need 2 (some .int) :: gT) ({ frames := 2, cells := 0, slots := 0, locals := 400 } : Room) (va_Pc [.ref p0, .int p1] (PRE D cy z w0 sz)) (va_Qi (fun (r : Int32) (u : Unit) => RI r (-2147483648) 2147483647 ∧ (r = 0 → True) ∧ (¬ r = 0 → True)) (BB D cy (va_A w0 sz) (fun (u : Unit) => w0)) (va_A w0 sz)) 0 0 (va_A w0 sz) := by
  refine Met.ofW (cc := cX9_need) (maxL := 2) (ret := (some .int)) (by decide) rfl ?_
  intro p e s m args below meth c s₁ B hml hv
  obtain ⟨rfl, hsz, hP, hK, hD0, hSD⟩ := hv
  have hx := B.exec
  have hb := B.bytes
  have hr := B.returns
  have hlocks := B.notSynchronized
  have hts : ∀ w ∈ gT, w.before _ s = true := fun w h => atoms_spec (ws := Cond.code yX9_need cX9_need 2 (some .int) :: gT) B.pre w (List.mem_cons_of_mem _ h)
  have hown : s.vm.findClass RX9 = some m.cls := findClass_of_methodNamed B.named
  subst hsz
  have hD := hD0.self (sz := s.heap.size)
  generalize hAe : va_A w0 s.heap.size = A at hD hSD ⊢
  have hA : ∀ q : Nat, s.heap.size ≤ q → A q := fun q h => by rw [← hAe]; exact Or.inr h
  have hl := lv_entry ([.ref p0, .int p1]) (n := 2) (Nat.le_of_ble_eq_true rfl)
  rw [lg_entry_eq]
  generalize (lg_sl ([.ref p0, .int p1]) ++ List.replicate (2 - (lg_sl ([.ref p0, .int p1])).length) Slot.unset).toArray = ls at hl ⊢
  have hl : lv_has ls 2 [(0, .ref p0), (1, .int p1)] := hl
  refine nameQ (fun Q hQ => ?_)
  have hw : WD D cy GG A s wr_X9_need wa_X9_need Ps w0 Ps w0 s.heap [] := ⟨hT, hP, hD, va_S.rf, FR.rf, hT.1, [], (List.append_nil _).symm⟩
  refine lv_aload_n hx hb dX9_need_0 rfl (lv_at hl 0 rfl) ?_
  refine lv_iconst (v := 0) hx hb dX9_need_1 (by decide) ?_
  refine lv_iload_n hx hb dX9_need_2 rfl (lv_at hl 1 rfl) ?_
  refine tk_ir (va_runV (As := [.int 0, .int p1]) (rest := []) ⟨hx, hb, hml, hown, hts⟩ (c_X9_isOf__3 l D cy z s.heap.size Ps w0 hw.1 p0 0 p1 h_p0 rl_0 r_p1) (cwV 2 hts (gV tw_540 tw_542 ts_10 tw_1 tw_543) rfl rfl rfl (by decide +kernel) ⟨Nat.le_of_ble_eq_true rfl, Nat.le_of_ble_eq_true rfl⟩) (tg_preV hw hK hSD hA (ci := 9) (q := (RX9, TX9, 15)) rfl h_p0 rfl) rfl rfl hl.1 rfl (lv_room (Nat.le_of_ble_eq_true rfl)) dX9_need_3 ⟨Nat.le_of_ble_eq_true rfl, Nat.le_of_ble_eq_true rfl⟩) hw hA (fun v_1  H locs hp_v_1 hw => ?_)
  have r_v_1 : RI v_1 0 1 := hp_v_1.1
  refine lv_if_eq (tgt := 24) hx hb dX9_need_6 (by decide) (fun c_6 => ?_) (fun c_6 => ?_)
  · have r_v_1 : RI v_1 0 0 := rc_eq1 r_v_1 rl_0 (ti_eq c_6) (by decide)
    refine lv_iconst (v := (-1)) hx hb dX9_need_24 (by decide) ?_
    subst hQ
    exact W.iret (v := (-1)) hx hb hr (fun t ht hW => ⟨⟨(-1), (), rfl, ⟨rl_m1.to (by decide), (fun _ => trivial), (fun h0 => trivial)⟩, by rw [ht]; exact hw.2.1, va_K.moved hW.alike hK, hw.2.2.1⟩, hw.2.2.2.1.F ht⟩) hw.2.2.2.1.2.2 dX9_need_25
  · have r_v_1 : RI v_1 1 1 := rc_neL r_v_1 rl_0 (ti_ne c_6) (by decide)
    have r_p1 : RI p1 0 5 := ((hp_v_1.2.2 c_6).1)
    refine lv_aload_n hx hb dX9_need_9 rfl (lv_at hl 0 rfl) ?_
    refine tg_get (ci := 9) (ts := ty_WP) (C := RX9) (T := TX9) (N := 15) hx hb hts inX9 hown hK hw h_p0 rfl rfl 1 (by decide) (hts _ tw_347) (fun _ h9 => h9) (ft := vR 24) rfl dX9_need_10 (fun u_2 hv_u_2 m_u_2 => ?_)
    obtain ⟨vu_2, rfl, h_vu_2⟩ := hv_u_2
    refine tg_getN (ci := 8) (ts := ty_WORLD) (C := RX8) (T := TX8) (N := 13) hx hb hts inX8 hown hK hw h_vu_2 rfl rfl 0 (by decide) (hSD.nest tn_249) (fun _ h9 => h9) (ft := vR 25) rfl dX9_need_13 (fun u_3 hv_u_3 m_u_3 => ?_)
    obtain ⟨vu_3, rfl, h_vu_3⟩ := hv_u_3
    refine tg_getN (ci := 3) (ts := ty_POST) (C := RX3) (T := TX3) (N := 9) hx hb hts inX3 hown hK hw h_vu_3 rfl rfl 2 (by decide) (hSD.nest tn_207) (fun _ h9 => h9) (ft := vR 5) rfl dX9_need_16 (fun u_4 hv_u_4 m_u_4 => ?_)
    obtain ⟨vu_4, rfl, h_vu_4⟩ := hv_u_4
    refine lv_iload_n hx hb dX9_need_19 rfl (lv_at hl 1 rfl) ?_
    refine tg_iald (lo := (-2147483648)) (hi := 2147483647) hx hb hK hw h_vu_4 rfl 0 5 r_p1 (by decide) (by exact fun _ _ _ => ⟨Int.le_refl _, Int.le_refl _⟩) dX9_need_20 (fun v_5 r_v_5 m_v_5 o_v_5 => ?_)
    refine lv_goto (tgt := 25) hx hb dX9_need_21 (by decide) ?_
    subst hQ
    exact W.iret (v := v_5) hx hb hr (fun t ht hW => ⟨⟨v_5, (), rfl, ⟨r_v_5.to (by decide), (fun h0 => trivial), (fun h0 => trivial)⟩, by rw [ht]; exact hw.2.1, va_K.moved hW.alike hK, hw.2.2.1⟩, hw.2.2.2.1.F ht⟩) hw.2.2.2.1.2.2 dX9_need_25
abbrev wr_X9_noteFault : List (Nat × Nat) := [(7, 2), (9, 11)]
abbrev wa_X9_noteFault : List Nat := []
set_option maxHeartbeats 4000000 in
set_option maxRecDepth 100000 in
theorem c_X9_noteFault (l : Launch) (D : va_G) (cy : Nat → ClassId) (z : Nat → Nat) (sz : Nat) (Ps : PSI) (w0 : va_W) (hT : HT cy GG Ps w0) (p0 : Nat) (h_p0 : (p0, 33) ∈ Ps) : Met l yX9_noteFault (Cond.code yX9_noteFault cX9_noteFault 1 none :: gT) ({ frames := 0, cells := 0, slots := 0, locals := 200 } : Room) (va_Pc [.ref p0] (PRE D cy z w0 sz)) (va_Qv (fun (u : va_W) => (True) ∧ HT cy GG Ps u ∧ FR wr_X9_noteFault wa_X9_noteFault Ps w0 u) (BB D cy (va_A w0 sz) (fun (u : va_W) => u)) (va_A w0 sz)) 0 0 (va_A w0 sz) := by
  refine Met.ofW (cc := cX9_noteFault) (maxL := 1) (ret := none) (by decide) rfl ?_
  intro p e s m args below meth c s₁ B hml hv
  obtain ⟨rfl, hsz, hP, hK, hD0, hSD⟩ := hv
  have hx := B.exec
  have hb := B.bytes
  have hr := B.returns
  have hlocks := B.notSynchronized
  have hts : ∀ w ∈ gT, w.before _ s = true := fun w h => atoms_spec (ws := Cond.code yX9_noteFault cX9_noteFault 1 none :: gT) B.pre w (List.mem_cons_of_mem _ h)
  have hown : s.vm.findClass RX9 = some m.cls := findClass_of_methodNamed B.named
  subst hsz
  have hD := hD0.self (sz := s.heap.size)
  generalize hAe : va_A w0 s.heap.size = A at hD hSD ⊢
  have hA : ∀ q : Nat, s.heap.size ≤ q → A q := fun q h => by rw [← hAe]; exact Or.inr h
  have hl := lv_entry ([.ref p0]) (n := 1) (Nat.le_of_ble_eq_true rfl)
  rw [lg_entry_eq]
  generalize (lg_sl ([.ref p0]) ++ List.replicate (1 - (lg_sl ([.ref p0])).length) Slot.unset).toArray = ls at hl ⊢
  have hl : lv_has ls 1 [(0, .ref p0)] := hl
  refine nameQ (fun Q hQ => ?_)
  have hw : WD D cy GG A s wr_X9_noteFault wa_X9_noteFault Ps w0 Ps w0 s.heap [] := ⟨hT, hP, hD, va_S.rf, FR.rf, hT.1, [], (List.append_nil _).symm⟩
  refine lv_aload_n hx hb dX9_noteFault_0 rfl (lv_at hl 0 rfl) ?_
  refine lv_aload_n hx hb dX9_noteFault_1 rfl (lv_at hl 0 rfl) ?_
  refine tg_get (ci := 9) (ts := ty_WP) (C := RX9) (T := TX9) (N := 15) hx hb hts inX9 hown hK hw h_p0 rfl rfl 0 (by decide) (hts _ tw_346) (fun _ h9 => h9) (ft := vR 26) rfl dX9_noteFault_2 (fun u_1 hv_u_1 m_u_1 => ?_)
  obtain ⟨vu_1, rfl, h_vu_1⟩ := hv_u_1
  refine tg_getN (ci := 7) (ts := ty_TAPE) (C := RX7) (T := TX7) (N := 12) hx hb hts inX7 hown hK hw h_vu_1 rfl rfl 10 (by decide) (hSD.nest tn_106) (fun _ h9 => h9) (ft := vI 0 4) rfl dX9_noteFault_5 (fun u_2 hv_u_2 m_u_2 => ?_)
  obtain ⟨vu_2, rfl, r_vu_2⟩ := hv_u_2
  refine tg_put (ci := 9) (ts := ty_WP) (v := .int vu_2) (ty := .int) (C := RX9) (T := TX9) (N := 15) hx hb hts inX9 tyX9 tyX9_ok nmX9 hown hK hw h_p0 rfl rfl 11 (by decide) (hts _ tw_357) (fun _ h9 => h9) rfl (by decide +kernel) rfl rfl (ft := vI (-2147483648) 2147483647) rfl ⟨_, rfl, (r_vu_2.to (by decide))⟩ (by decide) dX9_noteFault_8 (fun ws H locs hw n_k_3 hF9 => ?_)
  have m_u_2 := FLD.over hF9 m_u_2 (by decide)
  refine lv_aload_n hx hb dX9_noteFault_11 rfl (lv_at hl 0 rfl) ?_
  refine tg_get (ci := 9) (ts := ty_WP) (C := RX9) (T := TX9) (N := 15) hx hb hts inX9 hown hK hw h_p0 rfl rfl 0 (by decide) (hts _ tw_346) (fun _ h9 => h9) (ft := vR 26) rfl dX9_noteFault_12 (fun u_4 hv_u_4 m_u_4 => ?_)
  obtain ⟨vu_4, rfl, h_vu_4⟩ := hv_u_4
  refine lv_iconst (v := 0) hx hb dX9_noteFault_15 (by decide) ?_
  refine tg_putN (ci := 7) (ts := ty_TAPE) (v := .int 0) (ty := .int) (C := RX7) (T := TX7) (N := 12) hx hb hts inX7 tyX7 tyX7_ok nmX7 hown hK hw h_vu_4 rfl rfl 2 (by decide) (hSD.nest tn_90) (fun _ h9 => h9) rfl (by decide +kernel) rfl rfl (ft := vI 0 940) rfl ⟨_, rfl, (rl_0.to (by decide))⟩ (by decide) dX9_noteFault_16 (fun ws H locs hw n_k_5 hF9 => ?_)
  have m_u_2 := FLD.over hF9 m_u_2 (by decide)
  have n_k_3 := FLD.over hF9 n_k_3 (by decide)
  subst hQ
  exact W.vret hx hb hr (fun t ht hW => ⟨⟨ws, rfl, ⟨trivial, hw.1, hw.2.2.2.2.1⟩, by rw [ht]; exact hw.2.1, va_K.moved hW.alike hK, hw.2.2.1⟩, hw.2.2.2.1.F ht⟩) hw.2.2.2.1.2.2 dX9_noteFault_19
abbrev wr_X9_now : List (Nat × Nat) := []
abbrev wa_X9_now : List Nat := []
set_option maxHeartbeats 4000000 in
set_option maxRecDepth 100000 in
theorem c_X9_now (l : Launch) (D : va_G) (cy : Nat → ClassId) (z : Nat → Nat) (sz : Nat) (Ps : PSI) (w0 : va_W) (hT : HT cy GG Ps w0) (p0 : Nat) (p1 : Int32) (h_p0 : (p0, 33) ∈ Ps) (r_p1 : RI p1 (-2147483648) 2147483647) : Met l yX9_now (Cond.code yX9_now cX9_now 2 (some .int) :: gT) ({ frames := 5, cells := 0, slots := 0, locals := 1000 } : Room) (va_Pc [.ref p0, .int p1] (PRE D cy z w0 sz)) (va_Qi (fun (r : Int32) (u : Unit) => RI r (-2147483648) 2147483647 ∧ (r = 0 → True) ∧ (¬ r = 0 → True)) (BB D cy (va_A w0 sz) (fun (u : Unit) => w0)) (va_A w0 sz)) 0 0 (va_A w0 sz) := by
  refine Met.ofW (cc := cX9_now) (maxL := 2) (ret := (some .int)) (by decide) rfl ?_
  intro p e s m args below meth c s₁ B hml hv
  obtain ⟨rfl, hsz, hP, hK, hD0, hSD⟩ := hv
  have hx := B.exec
  have hb := B.bytes
  have hr := B.returns
  have hlocks := B.notSynchronized
  have hts : ∀ w ∈ gT, w.before _ s = true := fun w h => atoms_spec (ws := Cond.code yX9_now cX9_now 2 (some .int) :: gT) B.pre w (List.mem_cons_of_mem _ h)
  have hown : s.vm.findClass RX9 = some m.cls := findClass_of_methodNamed B.named
  subst hsz
  have hD := hD0.self (sz := s.heap.size)
  generalize hAe : va_A w0 s.heap.size = A at hD hSD ⊢
  have hA : ∀ q : Nat, s.heap.size ≤ q → A q := fun q h => by rw [← hAe]; exact Or.inr h
  have hl := lv_entry ([.ref p0, .int p1]) (n := 2) (Nat.le_of_ble_eq_true rfl)
  rw [lg_entry_eq]
  generalize (lg_sl ([.ref p0, .int p1]) ++ List.replicate (2 - (lg_sl ([.ref p0, .int p1])).length) Slot.unset).toArray = ls at hl ⊢
  have hl : lv_has ls 2 [(0, .ref p0), (1, .int p1)] := hl
  refine nameQ (fun Q hQ => ?_)
  have hw : WD D cy GG A s wr_X9_now wa_X9_now Ps w0 Ps w0 s.heap [] := ⟨hT, hP, hD, va_S.rf, FR.rf, hT.1, [], (List.append_nil _).symm⟩
  refine lv_iload_n hx hb dX9_now_0 rfl (lv_at hl 1 rfl) ?_
  have w_1 := r_p1
  by_cases cl_1 : p1.toInt < 0 ∨ 6 < p1.toInt
  · refine lv_tableOut (tgt := 114) hx hb dX9_now_1 cl_1 (by decide) ?_
    refine lv_iconst (v := (-1)) hx hb dX9_now_114 (by decide) ?_
    subst hQ
    exact W.iret (v := (-1)) hx hb hr (fun t ht hW => ⟨⟨(-1), (), rfl, ⟨rl_m1.to (by decide), (fun _ => trivial), (fun h0 => trivial)⟩, by rw [ht]; exact hw.2.1, va_K.moved hW.alike hK, hw.2.2.1⟩, hw.2.2.2.1.F ht⟩) hw.2.2.2.1.2.2 dX9_now_115
  · have e_1 : p1.toInt = 0 ∨ p1.toInt = 1 ∨ p1.toInt = 2 ∨ p1.toInt = 3 ∨ p1.toInt = 4 ∨ p1.toInt = 5 ∨ p1.toInt = 6 := by omega
    rcases e_1 with h_1 | h_1 | h_1 | h_1 | h_1 | h_1 | h_1
    · refine lv_tableIn (tgt := 44) (off := 43) hx hb dX9_now_1 (by omega) (by omega) (by rw [h_1]; rfl) (by decide) ?_
      have r_p1 : RI p1 0 0 := ⟨by omega, by omega⟩
      refine lv_aload_n hx hb dX9_now_44 rfl (lv_at hl 0 rfl) ?_
      refine tg_get (ci := 9) (ts := ty_WP) (C := RX9) (T := TX9) (N := 15) hx hb hts inX9 hown hK hw h_p0 rfl rfl 1 (by decide) (hts _ tw_347) (fun _ h9 => h9) (ft := vR 24) rfl dX9_now_45 (fun u_1 hv_u_1 m_u_1 => ?_)
      obtain ⟨vu_1, rfl, h_vu_1⟩ := hv_u_1
      refine tg_getN (ci := 8) (ts := ty_WORLD) (C := RX8) (T := TX8) (N := 13) hx hb hts inX8 hown hK hw h_vu_1 rfl rfl 1 (by decide) (hSD.nest tn_251) (fun _ h9 => h9) (ft := vI (-2147483648) 2147483647) rfl dX9_now_48 (fun u_2 hv_u_2 m_u_2 => ?_)
      obtain ⟨vu_2, rfl, r_vu_2⟩ := hv_u_2
      subst hQ
      exact W.iret (v := vu_2) hx hb hr (fun t ht hW => ⟨⟨vu_2, (), rfl, ⟨r_vu_2.to (by decide), (fun h0 => trivial), (fun h0 => trivial)⟩, by rw [ht]; exact hw.2.1, va_K.moved hW.alike hK, hw.2.2.1⟩, hw.2.2.2.1.F ht⟩) hw.2.2.2.1.2.2 dX9_now_51
    · refine lv_tableIn (tgt := 52) (off := 51) hx hb dX9_now_1 (by omega) (by omega) (by rw [h_1]; rfl) (by decide) ?_
      have r_p1 : RI p1 1 1 := ⟨by omega, by omega⟩
      refine lv_aload_n hx hb dX9_now_52 rfl (lv_at hl 0 rfl) ?_
      refine tg_get (ci := 9) (ts := ty_WP) (C := RX9) (T := TX9) (N := 15) hx hb hts inX9 hown hK hw h_p0 rfl rfl 1 (by decide) (hts _ tw_347) (fun _ h9 => h9) (ft := vR 24) rfl dX9_now_53 (fun u_3 hv_u_3 m_u_3 => ?_)
      obtain ⟨vu_3, rfl, h_vu_3⟩ := hv_u_3
      refine tk_ir (va_runV (As := []) (rest := []) ⟨hx, hb, hml, hown, hts⟩ (c_X8_whichAreOpen l D cy z s.heap.size Ps w0 hw.1 vu_3 h_vu_3) (cwV 0 hts (gV tw_557 tw_558 tw_559 tw_12 tw_560) rfl rfl rfl (by decide +kernel) ⟨Nat.le_of_ble_eq_true rfl, Nat.le_of_ble_eq_true rfl⟩) (tg_preV hw hK hSD hA (ci := 8) (q := (RX8, TX8, 13)) rfl h_vu_3 rfl) rfl rfl hl.1 rfl (lv_room (Nat.le_of_ble_eq_true rfl)) dX9_now_56 ⟨Nat.le_of_ble_eq_true rfl, Nat.le_of_ble_eq_true rfl⟩) hw hA (fun v_4  H locs hp_v_4 hw => ?_)
      have r_v_4 : RI v_4 (-2147483648) 2147483647 := hp_v_4.1
      subst hQ
      exact W.iret (v := v_4) hx hb hr (fun t ht hW => ⟨⟨v_4, (), rfl, ⟨r_v_4.to (by decide), (fun h0 => trivial), (fun h0 => trivial)⟩, by rw [ht]; exact hw.2.1, va_K.moved hW.alike hK, hw.2.2.1⟩, hw.2.2.2.1.F ht⟩) hw.2.2.2.1.2.2 dX9_now_59
    · refine lv_tableIn (tgt := 60) (off := 59) hx hb dX9_now_1 (by omega) (by omega) (by rw [h_1]; rfl) (by decide) ?_
      have r_p1 : RI p1 2 2 := ⟨by omega, by omega⟩
      refine lv_aload_n hx hb dX9_now_60 rfl (lv_at hl 0 rfl) ?_
      refine tg_get (ci := 9) (ts := ty_WP) (C := RX9) (T := TX9) (N := 15) hx hb hts inX9 hown hK hw h_p0 rfl rfl 1 (by decide) (hts _ tw_347) (fun _ h9 => h9) (ft := vR 24) rfl dX9_now_61 (fun u_5 hv_u_5 m_u_5 => ?_)
      obtain ⟨vu_5, rfl, h_vu_5⟩ := hv_u_5
      refine tk_ir (va_runV (As := []) (rest := []) ⟨hx, hb, hml, hown, hts⟩ (c_X8_whichAreNothing l D cy z s.heap.size Ps w0 hw.1 vu_5 h_vu_5) (cwV 0 hts (gV tw_565 tw_566 tw_567 tw_12 tw_568) rfl rfl rfl (by decide +kernel) ⟨Nat.le_of_ble_eq_true rfl, Nat.le_of_ble_eq_true rfl⟩) (tg_preV hw hK hSD hA (ci := 8) (q := (RX8, TX8, 13)) rfl h_vu_5 rfl) rfl rfl hl.1 rfl (lv_room (Nat.le_of_ble_eq_true rfl)) dX9_now_64 ⟨Nat.le_of_ble_eq_true rfl, Nat.le_of_ble_eq_true rfl⟩) hw hA (fun v_6  H locs hp_v_6 hw => ?_)
      have r_v_6 : RI v_6 (-2147483648) 2147483647 := hp_v_6.1
      subst hQ
      exact W.iret (v := v_6) hx hb hr (fun t ht hW => ⟨⟨v_6, (), rfl, ⟨r_v_6.to (by decide), (fun h0 => trivial), (fun h0 => trivial)⟩, by rw [ht]; exact hw.2.1, va_K.moved hW.alike hK, hw.2.2.1⟩, hw.2.2.2.1.F ht⟩) hw.2.2.2.1.2.2 dX9_now_67
    · refine lv_tableIn (tgt := 68) (off := 67) hx hb dX9_now_1 (by omega) (by omega) (by rw [h_1]; rfl) (by decide) ?_
      have r_p1 : RI p1 3 3 := ⟨by omega, by omega⟩
      refine lv_aload_n hx hb dX9_now_68 rfl (lv_at hl 0 rfl) ?_
      refine tg_get (ci := 9) (ts := ty_WP) (C := RX9) (T := TX9) (N := 15) hx hb hts inX9 hown hK hw h_p0 rfl rfl 1 (by decide) (hts _ tw_347) (fun _ h9 => h9) (ft := vR 24) rfl dX9_now_69 (fun u_7 hv_u_7 m_u_7 => ?_)
      obtain ⟨vu_7, rfl, h_vu_7⟩ := hv_u_7
      refine tk_ir (va_runV (As := []) (rest := []) ⟨hx, hb, hml, hown, hts⟩ (c_X8_whichAreWatched l D cy z s.heap.size Ps w0 hw.1 vu_7 h_vu_7) (cwV 0 hts (gV tw_581 tw_582 tw_583 tw_12 tw_584) rfl rfl rfl (by decide +kernel) ⟨Nat.le_of_ble_eq_true rfl, Nat.le_of_ble_eq_true rfl⟩) (tg_preV hw hK hSD hA (ci := 8) (q := (RX8, TX8, 13)) rfl h_vu_7 rfl) rfl rfl hl.1 rfl (lv_room (Nat.le_of_ble_eq_true rfl)) dX9_now_72 ⟨Nat.le_of_ble_eq_true rfl, Nat.le_of_ble_eq_true rfl⟩) hw hA (fun v_8  H locs hp_v_8 hw => ?_)
      have r_v_8 : RI v_8 (-2147483648) 2147483647 := hp_v_8.1
      subst hQ
      exact W.iret (v := v_8) hx hb hr (fun t ht hW => ⟨⟨v_8, (), rfl, ⟨r_v_8.to (by decide), (fun h0 => trivial), (fun h0 => trivial)⟩, by rw [ht]; exact hw.2.1, va_K.moved hW.alike hK, hw.2.2.1⟩, hw.2.2.2.1.F ht⟩) hw.2.2.2.1.2.2 dX9_now_75
    · refine lv_tableIn (tgt := 76) (off := 75) hx hb dX9_now_1 (by omega) (by omega) (by rw [h_1]; rfl) (by decide) ?_
      have r_p1 : RI p1 4 4 := ⟨by omega, by omega⟩
      refine lv_aload_n hx hb dX9_now_76 rfl (lv_at hl 0 rfl) ?_
      refine tg_get (ci := 9) (ts := ty_WP) (C := RX9) (T := TX9) (N := 15) hx hb hts inX9 hown hK hw h_p0 rfl rfl 1 (by decide) (hts _ tw_347) (fun _ h9 => h9) (ft := vR 24) rfl dX9_now_77 (fun u_9 hv_u_9 m_u_9 => ?_)
      obtain ⟨vu_9, rfl, h_vu_9⟩ := hv_u_9
      refine tk_ir (va_runV (As := []) (rest := []) ⟨hx, hb, hml, hown, hts⟩ (c_X8_allThatAllHave l D cy z s.heap.size Ps w0 hw.1 vu_9 h_vu_9) (cwV 0 hts (gV tw_589 tw_590 tw_591 tw_12 tw_592) rfl rfl rfl (by decide +kernel) ⟨Nat.le_of_ble_eq_true rfl, Nat.le_of_ble_eq_true rfl⟩) (tg_preV hw hK hSD hA (ci := 8) (q := (RX8, TX8, 13)) rfl h_vu_9 rfl) rfl rfl hl.1 rfl (lv_room (Nat.le_of_ble_eq_true rfl)) dX9_now_80 ⟨Nat.le_of_ble_eq_true rfl, Nat.le_of_ble_eq_true rfl⟩) hw hA (fun v_10  H locs hp_v_10 hw => ?_)
      have r_v_10 : RI v_10 (-2147483648) 2147483647 := hp_v_10.1
      subst hQ
      exact W.iret (v := v_10) hx hb hr (fun t ht hW => ⟨⟨v_10, (), rfl, ⟨r_v_10.to (by decide), (fun h0 => trivial), (fun h0 => trivial)⟩, by rw [ht]; exact hw.2.1, va_K.moved hW.alike hK, hw.2.2.1⟩, hw.2.2.2.1.F ht⟩) hw.2.2.2.1.2.2 dX9_now_83
    · refine lv_tableIn (tgt := 84) (off := 83) hx hb dX9_now_1 (by omega) (by omega) (by rw [h_1]; rfl) (by decide) ?_
      have r_p1 : RI p1 5 5 := ⟨by omega, by omega⟩
      refine lv_aload_n hx hb dX9_now_84 rfl (lv_at hl 0 rfl) ?_
      refine tg_get (ci := 9) (ts := ty_WP) (C := RX9) (T := TX9) (N := 15) hx hb hts inX9 hown hK hw h_p0 rfl rfl 1 (by decide) (hts _ tw_347) (fun _ h9 => h9) (ft := vR 24) rfl dX9_now_85 (fun u_11 hv_u_11 m_u_11 => ?_)
      obtain ⟨vu_11, rfl, h_vu_11⟩ := hv_u_11
      refine lv_aload_n hx hb dX9_now_88 rfl (lv_at hl 0 rfl) ?_
      refine tg_mem (ci := 9) (C := RX9) (T := TX9) (N := 15) hx hb hts inX9 hown hK hw 1 m_u_11 rfl (by decide) (hts _ tw_347) (fun _ h9 => h9) dX9_now_89 ?_
      refine tg_getN (ci := 8) (ts := ty_WORLD) (C := RX8) (T := TX8) (N := 13) hx hb hts inX8 hown hK hw h_vu_11 rfl rfl 4 (by decide) (hSD.nest tn_258) (fun _ h9 => h9) (ft := vR 10) rfl dX9_now_92 (fun u_12 hv_u_12 m_u_12 => ?_)
      obtain ⟨vu_12, rfl, h_vu_12⟩ := hv_u_12
      refine tk_ir (va_runV (As := [.ref vu_12]) (rest := []) ⟨hx, hb, hml, hown, hts⟩ (c_X8_sumOfParcels l D cy z s.heap.size Ps w0 hw.1 vu_11 vu_12 h_vu_11 h_vu_12) (cwV 1 hts (gV tw_598 tw_599 tw_600 tw_12 tw_601) rfl rfl rfl (by decide +kernel) ⟨Nat.le_of_ble_eq_true rfl, Nat.le_of_ble_eq_true rfl⟩) (tg_preV hw hK hSD hA (ci := 8) (q := (RX8, TX8, 13)) rfl h_vu_11 rfl) rfl rfl hl.1 rfl (lv_room (Nat.le_of_ble_eq_true rfl)) dX9_now_95 ⟨Nat.le_of_ble_eq_true rfl, Nat.le_of_ble_eq_true rfl⟩) hw hA (fun v_13  H locs hp_v_13 hw => ?_)
      have r_v_13 : RI v_13 (-2147483648) 2147483647 := hp_v_13.1
      subst hQ
      exact W.iret (v := v_13) hx hb hr (fun t ht hW => ⟨⟨v_13, (), rfl, ⟨r_v_13.to (by decide), (fun h0 => trivial), (fun h0 => trivial)⟩, by rw [ht]; exact hw.2.1, va_K.moved hW.alike hK, hw.2.2.1⟩, hw.2.2.2.1.F ht⟩) hw.2.2.2.1.2.2 dX9_now_98
    · refine lv_tableIn (tgt := 99) (off := 98) hx hb dX9_now_1 (by omega) (by omega) (by rw [h_1]; rfl) (by decide) ?_
      have r_p1 : RI p1 6 6 := ⟨by omega, by omega⟩
      refine lv_aload_n hx hb dX9_now_99 rfl (lv_at hl 0 rfl) ?_
      refine tg_get (ci := 9) (ts := ty_WP) (C := RX9) (T := TX9) (N := 15) hx hb hts inX9 hown hK hw h_p0 rfl rfl 1 (by decide) (hts _ tw_347) (fun _ h9 => h9) (ft := vR 24) rfl dX9_now_100 (fun u_14 hv_u_14 m_u_14 => ?_)
      obtain ⟨vu_14, rfl, h_vu_14⟩ := hv_u_14
      refine lv_aload_n hx hb dX9_now_103 rfl (lv_at hl 0 rfl) ?_
      refine tg_mem (ci := 9) (C := RX9) (T := TX9) (N := 15) hx hb hts inX9 hown hK hw 1 m_u_14 rfl (by decide) (hts _ tw_347) (fun _ h9 => h9) dX9_now_104 ?_
      refine tg_getN (ci := 8) (ts := ty_WORLD) (C := RX8) (T := TX8) (N := 13) hx hb hts inX8 hown hK hw h_vu_14 rfl rfl 6 (by decide) (hSD.nest tn_263) (fun _ h9 => h9) (ft := vR 10) rfl dX9_now_107 (fun u_15 hv_u_15 m_u_15 => ?_)
      obtain ⟨vu_15, rfl, h_vu_15⟩ := hv_u_15
      refine tk_ir (va_runV (As := [.ref vu_15]) (rest := []) ⟨hx, hb, hml, hown, hts⟩ (c_X8_sumOfParcels l D cy z s.heap.size Ps w0 hw.1 vu_14 vu_15 h_vu_14 h_vu_15) (cwV 1 hts (gV tw_598 tw_599 tw_600 tw_12 tw_601) rfl rfl rfl (by decide +kernel) ⟨Nat.le_of_ble_eq_true rfl, Nat.le_of_ble_eq_true rfl⟩) (tg_preV hw hK hSD hA (ci := 8) (q := (RX8, TX8, 13)) rfl h_vu_14 rfl) rfl rfl hl.1 rfl (lv_room (Nat.le_of_ble_eq_true rfl)) dX9_now_110 ⟨Nat.le_of_ble_eq_true rfl, Nat.le_of_ble_eq_true rfl⟩) hw hA (fun v_16  H locs hp_v_16 hw => ?_)
      have r_v_16 : RI v_16 (-2147483648) 2147483647 := hp_v_16.1
      subst hQ
      exact W.iret (v := v_16) hx hb hr (fun t ht hW => ⟨⟨v_16, (), rfl, ⟨r_v_16.to (by decide), (fun h0 => trivial), (fun h0 => trivial)⟩, by rw [ht]; exact hw.2.1, va_K.moved hW.alike hK, hw.2.2.1⟩, hw.2.2.2.1.F ht⟩) hw.2.2.2.1.2.2 dX9_now_113
abbrev wr_X9_odds : List (Nat × Nat) := [(8, 0), (8, 1), (8, 12)]
abbrev wa_X9_odds : List Nat := [8, 9, 10, 11, 12, 13, 14]
set_option maxHeartbeats 4000000 in
set_option maxRecDepth 100000 in
theorem c_X9_odds (l : Launch) (D : va_G) (cy : Nat → ClassId) (z : Nat → Nat) (sz : Nat) (Ps : PSI) (w0 : va_W) (hT : HT cy GG Ps w0) (p0 : Nat) (p1 : Int32) (p2 : Int32) (p3 : Int32) (p4 : Int32) (h_p0 : (p0, 33) ∈ Ps) (r_p1 : RI p1 (-2147483648) 2147483647) (r_p2 : RI p2 (-2147483648) 2147483647) (r_p3 : RI p3 (-2147483648) 2147483647) (r_p4 : RI p4 (-2147483648) 2147483647) : Met l yX9_odds (Cond.code yX9_odds cX9_odds 7 (some .int) :: gT) ({ frames := 6, cells := 0, slots := 0, locals := 1200 } : Room) (va_Pc [.ref p0, .int p1, .int p2, .int p3, .int p4] (PRE D cy z w0 sz)) (va_Qi (fun (r : Int32) (u : va_W) => (RI r (-2147483648) 2147483647 ∧ (r = 0 → True) ∧ (¬ r = 0 → True)) ∧ HT cy GG Ps u ∧ FR wr_X9_odds wa_X9_odds Ps w0 u) (BB D cy (va_A w0 sz) (fun (u : va_W) => u)) (va_A w0 sz)) 0 0 (va_A w0 sz) := by
  refine Met.ofW (cc := cX9_odds) (maxL := 7) (ret := (some .int)) (by decide) rfl ?_
  intro p e s m args below meth c s₁ B hml hv
  obtain ⟨rfl, hsz, hP, hK, hD0, hSD⟩ := hv
  have hx := B.exec
  have hb := B.bytes
  have hr := B.returns
  have hlocks := B.notSynchronized
  have hts : ∀ w ∈ gT, w.before _ s = true := fun w h => atoms_spec (ws := Cond.code yX9_odds cX9_odds 7 (some .int) :: gT) B.pre w (List.mem_cons_of_mem _ h)
  have hown : s.vm.findClass RX9 = some m.cls := findClass_of_methodNamed B.named
  subst hsz
  have hD := hD0.self (sz := s.heap.size)
  generalize hAe : va_A w0 s.heap.size = A at hD hSD ⊢
  have hA : ∀ q : Nat, s.heap.size ≤ q → A q := fun q h => by rw [← hAe]; exact Or.inr h
  have hl := lv_entry ([.ref p0, .int p1, .int p2, .int p3, .int p4]) (n := 7) (Nat.le_of_ble_eq_true rfl)
  rw [lg_entry_eq]
  generalize (lg_sl ([.ref p0, .int p1, .int p2, .int p3, .int p4]) ++ List.replicate (7 - (lg_sl ([.ref p0, .int p1, .int p2, .int p3, .int p4])).length) Slot.unset).toArray = ls at hl ⊢
  have hl : lv_has ls 7 [(0, .ref p0), (1, .int p1), (2, .int p2), (3, .int p3), (4, .int p4)] := hl
  refine nameQ (fun Q hQ => ?_)
  have hw : WD D cy GG A s wr_X9_odds wa_X9_odds Ps w0 Ps w0 s.heap [] := ⟨hT, hP, hD, va_S.rf, FR.rf, hT.1, [], (List.append_nil _).symm⟩
  have B37 : ∀ (nf : Nat) (x5 : Int32) (x6 : Int32) (ws : va_W) (H : Heap) (locs : List Loc) (ls : Array Slot), 30 - x6.toInt < (nf : Int) → RI p1 0 5 → RI p2 0 5 → RI p3 1 30 → RI p4 (-2147483648) 2147483647 → RI x5 (-2147483648) 2147483647 → RI x6 0 30 → WD D cy GG A s wr_X9_odds wa_X9_odds Ps w0 Ps ws H locs → lv_has ls 7 [(0, .ref p0), (1, .int p1), (2, .int p2), (3, .int p3), (4, .int p4), (5, .int x5), (6, .int x6)] → W p l e (headSpec (Cond.code yX9_odds cX9_odds 7 (some .int) :: gT) ({ frames := 6, cells := 0, slots := 0, locals := 1200 } : Room)).room s m ([.ref p0, .int p1, .int p2, .int p3, .int p4] : List Value).toArray below meth c H locs 0 0 Q (F0 m 37 ls []) := by
    intro nf37
    induction nf37 with
    | zero =>
      intro x5 x6 ws H locs ls hn37 r_p1 r_p2 r_p3 r_p4 r_x5 r_x6 hw hl
      exact absurd hn37 (by have q0 := r_x6.1; have u0 := r_x6.2; omega)
    | succ nf37 ih37 =>
      intro x5 x6 ws H locs ls hn37 r_p1 r_p2 r_p3 r_p4 r_x5 r_x6 hw hl
      refine lv_iload hx hb dX9_odds_37 (lv_at hl 6 rfl) ?_
      refine lv_iload_n hx hb dX9_odds_39 rfl (lv_at hl 3 rfl) ?_
      refine lv_icmp_ge (tgt := 90) hx hb dX9_odds_40 (by decide) (fun c_40 => ?_) (fun c_40 => ?_)
      · have r_x6 : RI x6 1 30 := rc_le2 r_p3 r_x6 (ti_le c_40) (by decide)
        refine lv_iload hx hb dX9_odds_90 (lv_at hl 5 rfl) ?_
        subst hQ
        exact W.iret (v := x5) hx hb hr (fun t ht hW => ⟨⟨x5, ws, rfl, ⟨⟨r_x5.to (by decide), (fun h0 => trivial), (fun h0 => trivial)⟩, hw.1, hw.2.2.2.2.1⟩, by rw [ht]; exact hw.2.1, va_K.moved hW.alike hK, hw.2.2.1⟩, hw.2.2.2.1.F ht⟩) hw.2.2.2.1.2.2 dX9_odds_92
      · have r_x6 : RI x6 0 29 := rc_lt1 r_x6 r_p3 (ti_nle c_40) (by decide)
        refine lv_aload_n hx hb dX9_odds_43 rfl (lv_at hl 0 rfl) ?_
        refine tg_get (ci := 9) (ts := ty_WP) (C := RX9) (T := TX9) (N := 15) hx hb hts inX9 hown hK hw h_p0 rfl rfl 2 (by decide) (hts _ tw_348) (fun _ h9 => h9) (ft := vR 24) rfl dX9_odds_44 (fun u_1 hv_u_1 m_u_1 => ?_)
        obtain ⟨vu_1, rfl, h_vu_1⟩ := hv_u_1
        refine lv_aload_n hx hb dX9_odds_47 rfl (lv_at hl 0 rfl) ?_
        refine tg_get (ci := 9) (ts := ty_WP) (C := RX9) (T := TX9) (N := 15) hx hb hts inX9 hown hK hw h_p0 rfl rfl 1 (by decide) (hts _ tw_347) (fun _ h9 => h9) (ft := vR 24) rfl dX9_odds_48 (fun u_2 hv_u_2 m_u_2 => ?_)
        obtain ⟨vu_2, rfl, h_vu_2⟩ := hv_u_2
        refine tk_v (va_runV (As := [.ref vu_2]) (rest := []) ⟨hx, hb, hml, hown, hts⟩ (c_X8_takeFrom l D cy z H.size Ps ws hw.1 vu_1 vu_2 h_vu_1 h_vu_2) (cwV 1 hts (gV tw_521 tw_522 tw_523 tw_12 tw_524) rfl rfl rfl (by decide +kernel) ⟨Nat.le_of_ble_eq_true rfl, Nat.le_of_ble_eq_true rfl⟩) (tg_preV hw hK hSD hA (ci := 8) (q := (RX8, TX8, 13)) rfl h_vu_1 rfl) rfl rfl hl.1 rfl (lv_room (Nat.le_of_ble_eq_true rfl)) dX9_odds_51 ⟨Nat.le_of_ble_eq_true rfl, Nat.le_of_ble_eq_true rfl⟩) hw hA ⟨by decide, by decide⟩ (fun ws H locs hp_v_3 hw hF9 => ?_)
        refine lv_aload_n hx hb dX9_odds_54 rfl (lv_at hl 0 rfl) ?_
        refine tg_get (ci := 9) (ts := ty_WP) (C := RX9) (T := TX9) (N := 15) hx hb hts inX9 hown hK hw h_p0 rfl rfl 2 (by decide) (hts _ tw_348) (fun _ h9 => h9) (ft := vR 24) rfl dX9_odds_55 (fun u_4 hv_u_4 m_u_4 => ?_)
        obtain ⟨vu_4, rfl, h_vu_4⟩ := hv_u_4
        refine lv_bipush (v := 20) hx hb dX9_odds_58 (by decide) ?_
        refine lv_iload hx hb dX9_odds_60 (lv_at hl 4 rfl) ?_
        refine lv_iload hx hb dX9_odds_62 (lv_at hl 6 rfl) ?_
        refine lv_iadd hx hb dX9_odds_64 (lv_topi (fun v_5 e_v_5 => ?_))
        have r_v_5 := ri_any v_5
        refine tk_i (va_runV (As := [.int 20, .int v_5]) (rest := []) ⟨hx, hb, hml, hown, hts⟩ (c_X8_drawDays l D cy z H.size Ps ws hw.1 vu_4 20 v_5 h_vu_4 (rl_20.to (by decide)) r_v_5) (cwV 2 hts (gV tw_862 tw_863 tw_864 tw_12 tw_865) rfl rfl rfl (by decide +kernel) ⟨Nat.le_of_ble_eq_true rfl, Nat.le_of_ble_eq_true rfl⟩) (tg_preV hw hK hSD hA (ci := 8) (q := (RX8, TX8, 13)) rfl h_vu_4 rfl) rfl rfl hl.1 rfl (lv_room (Nat.le_of_ble_eq_true rfl)) dX9_odds_65 ⟨Nat.le_of_ble_eq_true rfl, Nat.le_of_ble_eq_true rfl⟩) hw hA ⟨by decide, by decide⟩ (fun v_6 ws H locs hp_v_6 hw hF9 => ?_)
        have r_v_6 : RI v_6 (-2147483648) 2147483647 := hp_v_6.1
        refine lv_pop hx hb dX9_odds_68 rfl ?_
        refine lv_aload_n hx hb dX9_odds_69 rfl (lv_at hl 0 rfl) ?_
        refine tg_get (ci := 9) (ts := ty_WP) (C := RX9) (T := TX9) (N := 15) hx hb hts inX9 hown hK hw h_p0 rfl rfl 2 (by decide) (hts _ tw_348) (fun _ h9 => h9) (ft := vR 24) rfl dX9_odds_70 (fun u_7 hv_u_7 m_u_7 => ?_)
        obtain ⟨vu_7, rfl, h_vu_7⟩ := hv_u_7
        refine lv_iload_n hx hb dX9_odds_73 rfl (lv_at hl 1 rfl) ?_
        refine tk_ir (va_runV (As := [.int p1]) (rest := []) ⟨hx, hb, hml, hown, hts⟩ (c_X8_isNow l D cy z H.size Ps ws hw.1 vu_7 p1 h_vu_7 r_p1) (cwV 1 hts (gV tw_783 tw_570 tw_571 tw_12 tw_572) rfl rfl rfl (by decide +kernel) ⟨Nat.le_of_ble_eq_true rfl, Nat.le_of_ble_eq_true rfl⟩) (tg_preV hw hK hSD hA (ci := 8) (q := (RX8, TX8, 13)) rfl h_vu_7 rfl) rfl rfl hl.1 rfl (lv_room (Nat.le_of_ble_eq_true rfl)) dX9_odds_74 ⟨Nat.le_of_ble_eq_true rfl, Nat.le_of_ble_eq_true rfl⟩) hw hA (fun v_8  H locs hp_v_8 hw => ?_)
        have r_v_8 : RI v_8 (-1) 5 := hp_v_8.1
        by_cases c9_v_8 : v_8.toInt < 0
        · have r_v_8 : RI v_8 (-1) (-1) := by unfold RI at r_v_8 ⊢; omega
          have x_NBQ_vu_7_p1 := (hp_v_8.2.2.2.2.1 (by omega)).1
          refine lv_iload_n hx hb dX9_odds_77 rfl (lv_at hl 2 rfl) ?_
          refine lv_icmp_ne (tgt := 84) hx hb dX9_odds_78 (by decide) (fun c_78 => ?_) (fun c_78 => ?_)
          · obtain ⟨v_9, e_v_9⟩ : ∃ q9 : Int32, q9 = x6 + Int32.ofInt 1 := ⟨_, rfl⟩
            obtain ⟨t_v_9, r_v_9⟩ := tq_add (lo := 1) (hi := 30) r_x6 (show RI (Int32.ofInt 1) 1 1 by unfold RI; decide +kernel) (by decide +kernel) e_v_9
            have t_v_9 : v_9.toInt = x6.toInt + 1 := t_v_9
            refine lv_iinc (v := v_9) (lv' := [(6, .int v_9), (0, .ref p0), (1, .int p1), (2, .int p2), (3, .int p3), (4, .int p4), (5, .int x5)]) hx hb dX9_odds_84 hl (k := 6) rfl e_v_9.symm (by decide) rfl (fun ls hl => ?_)
            refine lv_goto (tgt := 37) hx hb dX9_odds_87 (by decide) ?_
            exact ih37 x5 v_9 ws _ _ ls (by have q0 := r_v_9.1; have u0 := r_v_9.2; have o0 := r_x6.1; have p0 := r_x6.2; omega) r_p1 r_p2 r_p3 r_p4 r_x5 (r_v_9.to (by decide)) hw (lv_sub hl [1, 2, 3, 4, 5, 6, 0] rfl)
          · have r_v_8 : RI v_8 0 (-1) := rc_eq1 r_v_8 r_p2 (ti_eq c_78) (by decide)
            have r_p2 : RI p2 0 (-1) := rc_eq2 r_v_8 r_p2 (ti_eq c_78) (by decide)
            exact (r_v_8.no (by decide)).elim
        · have r_v_8 : RI v_8 0 5 := by unfold RI at r_v_8 ⊢; omega
          have x_WBQ_vu_7_p1 := (hp_v_8.2.2.2.2.2 (by omega)).1
          refine lv_iload_n hx hb dX9_odds_77 rfl (lv_at hl 2 rfl) ?_
          refine lv_icmp_ne (tgt := 84) hx hb dX9_odds_78 (by decide) (fun c_78 => ?_) (fun c_78 => ?_)
          · obtain ⟨v_10, e_v_10⟩ : ∃ q9 : Int32, q9 = x6 + Int32.ofInt 1 := ⟨_, rfl⟩
            obtain ⟨t_v_10, r_v_10⟩ := tq_add (lo := 1) (hi := 30) r_x6 (show RI (Int32.ofInt 1) 1 1 by unfold RI; decide +kernel) (by decide +kernel) e_v_10
            have t_v_10 : v_10.toInt = x6.toInt + 1 := t_v_10
            refine lv_iinc (v := v_10) (lv' := [(6, .int v_10), (0, .ref p0), (1, .int p1), (2, .int p2), (3, .int p3), (4, .int p4), (5, .int x5)]) hx hb dX9_odds_84 hl (k := 6) rfl e_v_10.symm (by decide) rfl (fun ls hl => ?_)
            refine lv_goto (tgt := 37) hx hb dX9_odds_87 (by decide) ?_
            exact ih37 x5 v_10 ws _ _ ls (by have q0 := r_v_10.1; have u0 := r_v_10.2; have o0 := r_x6.1; have p0 := r_x6.2; omega) r_p1 r_p2 r_p3 r_p4 r_x5 (r_v_10.to (by decide)) hw (lv_sub hl [1, 2, 3, 4, 5, 6, 0] rfl)
          · obtain ⟨v_11, e_v_11⟩ : ∃ q9 : Int32, q9 = x5 + Int32.ofInt 1 := ⟨_, rfl⟩
            have r_v_11 := ri_any v_11
            refine lv_iinc (v := v_11) (lv' := [(5, .int v_11), (0, .ref p0), (1, .int p1), (2, .int p2), (3, .int p3), (4, .int p4), (6, .int x6)]) hx hb dX9_odds_81 hl (k := 5) rfl e_v_11.symm (by decide) rfl (fun ls hl => ?_)
            obtain ⟨v_12, e_v_12⟩ : ∃ q9 : Int32, q9 = x6 + Int32.ofInt 1 := ⟨_, rfl⟩
            obtain ⟨t_v_12, r_v_12⟩ := tq_add (lo := 1) (hi := 30) r_x6 (show RI (Int32.ofInt 1) 1 1 by unfold RI; decide +kernel) (by decide +kernel) e_v_12
            have t_v_12 : v_12.toInt = x6.toInt + 1 := t_v_12
            refine lv_iinc (v := v_12) (lv' := [(6, .int v_12), (5, .int v_11), (0, .ref p0), (1, .int p1), (2, .int p2), (3, .int p3), (4, .int p4)]) hx hb dX9_odds_84 hl (k := 6) rfl e_v_12.symm (by decide) rfl (fun ls hl => ?_)
            refine lv_goto (tgt := 37) hx hb dX9_odds_87 (by decide) ?_
            exact ih37 v_11 v_12 ws _ _ ls (by have q0 := r_v_12.1; have u0 := r_v_12.2; have o0 := r_x6.1; have p0 := r_x6.2; omega) r_p1 r_p2 r_p3 r_p4 r_v_11 (r_v_12.to (by decide)) hw (lv_sub hl [2, 3, 4, 5, 6, 1, 0] rfl)
  refine lv_aload_n hx hb dX9_odds_0 rfl (lv_at hl 0 rfl) ?_
  refine lv_iconst (v := 2) hx hb dX9_odds_1 (by decide) ?_
  refine lv_iload_n hx hb dX9_odds_2 rfl (lv_at hl 1 rfl) ?_
  refine tk_ir (va_runV (As := [.int 2, .int p1]) (rest := []) ⟨hx, hb, hml, hown, hts⟩ (c_X9_isOf l D cy z s.heap.size Ps w0 hw.1 p0 2 p1 h_p0 rl_2 r_p1) (cwV 2 hts (gV tw_540 tw_542 ts_10 tw_1 tw_543) rfl rfl rfl (by decide +kernel) ⟨Nat.le_of_ble_eq_true rfl, Nat.le_of_ble_eq_true rfl⟩) (tg_preV hw hK hSD hA (ci := 9) (q := (RX9, TX9, 15)) rfl h_p0 rfl) rfl rfl hl.1 rfl (lv_room (Nat.le_of_ble_eq_true rfl)) dX9_odds_3 ⟨Nat.le_of_ble_eq_true rfl, Nat.le_of_ble_eq_true rfl⟩) hw hA (fun v_13  H locs hp_v_13 hw => ?_)
  have r_v_13 : RI v_13 0 1 := hp_v_13.1
  refine lv_if_eq (tgt := 29) hx hb dX9_odds_6 (by decide) (fun c_6 => ?_) (fun c_6 => ?_)
  · have r_v_13 : RI v_13 0 0 := rc_eq1 r_v_13 rl_0 (ti_eq c_6) (by decide)
    refine lv_iconst (v := (-1)) hx hb dX9_odds_29 (by decide) ?_
    subst hQ
    exact W.iret (v := (-1)) hx hb hr (fun t ht hW => ⟨⟨(-1), w0, rfl, ⟨⟨rl_m1.to (by decide), (fun _ => trivial), (fun h0 => trivial)⟩, hw.1, hw.2.2.2.2.1⟩, by rw [ht]; exact hw.2.1, va_K.moved hW.alike hK, hw.2.2.1⟩, hw.2.2.2.1.F ht⟩) hw.2.2.2.1.2.2 dX9_odds_30
  · have r_v_13 : RI v_13 1 1 := rc_neL r_v_13 rl_0 (ti_ne c_6) (by decide)
    have r_p1 : RI p1 0 5 := ((hp_v_13.2.2 c_6).1)
    refine lv_aload_n hx hb dX9_odds_9 rfl (lv_at hl 0 rfl) ?_
    refine lv_iconst (v := 0) hx hb dX9_odds_10 (by decide) ?_
    refine lv_iload_n hx hb dX9_odds_11 rfl (lv_at hl 2 rfl) ?_
    refine tk_ir (va_runV (As := [.int 0, .int p2]) (rest := []) ⟨hx, hb, hml, hown, hts⟩ (c_X9_isOf__3 l D cy z H.size Ps w0 hw.1 p0 0 p2 h_p0 rl_0 r_p2) (cwV 2 hts (gV tw_540 tw_542 ts_10 tw_1 tw_543) rfl rfl rfl (by decide +kernel) ⟨Nat.le_of_ble_eq_true rfl, Nat.le_of_ble_eq_true rfl⟩) (tg_preV hw hK hSD hA (ci := 9) (q := (RX9, TX9, 15)) rfl h_p0 rfl) rfl rfl hl.1 rfl (lv_room (Nat.le_of_ble_eq_true rfl)) dX9_odds_12 ⟨Nat.le_of_ble_eq_true rfl, Nat.le_of_ble_eq_true rfl⟩) hw hA (fun v_14  H locs hp_v_14 hw => ?_)
    have r_v_14 : RI v_14 0 1 := hp_v_14.1
    refine lv_if_eq (tgt := 29) hx hb dX9_odds_15 (by decide) (fun c_15 => ?_) (fun c_15 => ?_)
    · have r_v_14 : RI v_14 0 0 := rc_eq1 r_v_14 rl_0 (ti_eq c_15) (by decide)
      refine lv_iconst (v := (-1)) hx hb dX9_odds_29 (by decide) ?_
      subst hQ
      exact W.iret (v := (-1)) hx hb hr (fun t ht hW => ⟨⟨(-1), w0, rfl, ⟨⟨rl_m1.to (by decide), (fun _ => trivial), (fun h0 => trivial)⟩, hw.1, hw.2.2.2.2.1⟩, by rw [ht]; exact hw.2.1, va_K.moved hW.alike hK, hw.2.2.1⟩, hw.2.2.2.1.F ht⟩) hw.2.2.2.1.2.2 dX9_odds_30
    · have r_v_14 : RI v_14 1 1 := rc_neL r_v_14 rl_0 (ti_ne c_15) (by decide)
      have r_p2 : RI p2 0 5 := ((hp_v_14.2.2 c_15).1)
      refine lv_iload_n hx hb dX9_odds_18 rfl (lv_at hl 3 rfl) ?_
      refine lv_iconst (v := 1) hx hb dX9_odds_19 (by decide) ?_
      refine lv_icmp_lt (tgt := 29) hx hb dX9_odds_20 (by decide) (fun c_20 => ?_) (fun c_20 => ?_)
      · have r_p3 : RI p3 (-2147483648) 0 := rc_lt1 r_p3 rl_1 (ti_lt c_20) (by decide)
        refine lv_iconst (v := (-1)) hx hb dX9_odds_29 (by decide) ?_
        subst hQ
        exact W.iret (v := (-1)) hx hb hr (fun t ht hW => ⟨⟨(-1), w0, rfl, ⟨⟨rl_m1.to (by decide), (fun _ => trivial), (fun h0 => trivial)⟩, hw.1, hw.2.2.2.2.1⟩, by rw [ht]; exact hw.2.1, va_K.moved hW.alike hK, hw.2.2.1⟩, hw.2.2.2.1.F ht⟩) hw.2.2.2.1.2.2 dX9_odds_30
      · have r_p3 : RI p3 1 2147483647 := rc_le2 rl_1 r_p3 (ti_nlt c_20) (by decide)
        refine lv_iload_n hx hb dX9_odds_23 rfl (lv_at hl 3 rfl) ?_
        refine lv_bipush (v := 30) hx hb dX9_odds_24 (by decide) ?_
        refine lv_icmp_le (tgt := 31) hx hb dX9_odds_26 (by decide) (fun c_26 => ?_) (fun c_26 => ?_)
        · have r_p3 : RI p3 1 30 := rc_le1 r_p3 rl_30 (ti_le c_26) (by decide)
          refine lv_iconst (v := 0) hx hb dX9_odds_31 (by decide) ?_
          refine lv_istore (lv' := [(5, .int 0), (0, .ref p0), (1, .int p1), (2, .int p2), (3, .int p3), (4, .int p4)]) hx hb dX9_odds_32 hl (by decide) rfl (fun ls hl => ?_)
          refine lv_iconst (v := 0) hx hb dX9_odds_34 (by decide) ?_
          refine lv_istore (lv' := [(6, .int 0), (5, .int 0), (0, .ref p0), (1, .int p1), (2, .int p2), (3, .int p3), (4, .int p4)]) hx hb dX9_odds_35 hl (by decide) rfl (fun ls hl => ?_)
          exact B37 4294967298 0 0 w0 _ _ ls (by have q0 := rl_0.1; have u0 := rl_0.2; omega) r_p1 r_p2 r_p3 r_p4 (rl_0.to (by decide)) (rl_0.to (by decide)) hw (lv_sub hl [2, 3, 4, 5, 6, 1, 0] rfl)
        · have r_p3 : RI p3 31 2147483647 := rc_lt2 rl_30 r_p3 (ti_nle c_26) (by decide)
          refine lv_iconst (v := (-1)) hx hb dX9_odds_29 (by decide) ?_
          subst hQ
          exact W.iret (v := (-1)) hx hb hr (fun t ht hW => ⟨⟨(-1), w0, rfl, ⟨⟨rl_m1.to (by decide), (fun _ => trivial), (fun h0 => trivial)⟩, hw.1, hw.2.2.2.2.1⟩, by rw [ht]; exact hw.2.1, va_K.moved hW.alike hK, hw.2.2.1⟩, hw.2.2.2.1.F ht⟩) hw.2.2.2.1.2.2 dX9_odds_30
abbrev wr_X9_open : List (Nat × Nat) := [(1, 1), (1, 2), (8, 0), (8, 1)]
abbrev wa_X9_open : List Nat := [8, 9, 10, 11, 12, 13]
set_option maxHeartbeats 4000000 in
set_option maxRecDepth 100000 in
theorem c_X9_open (l : Launch) (D : va_G) (cy : Nat → ClassId) (z : Nat → Nat) (sz : Nat) (Ps : PSI) (w0 : va_W) (hT : HT cy GG Ps w0) (p0 : Nat) (p1 : Int32) (h_p0 : (p0, 33) ∈ Ps) (r_p1 : RI p1 (-2147483648) 2147483647) : Met l yX9_open (Cond.code yX9_open cX9_open 2 (some .int) :: gT) ({ frames := 4, cells := 0, slots := 0, locals := 800 } : Room) (va_Pc [.ref p0, .int p1] (PRE D cy z w0 sz)) (va_Qi (fun (r : Int32) (u : va_W) => (RI r (-2147483648) 2147483647 ∧ (r = 0 → True) ∧ (¬ r = 0 → True)) ∧ HT cy GG Ps u ∧ FR wr_X9_open wa_X9_open Ps w0 u) (BB D cy (va_A w0 sz) (fun (u : va_W) => u)) (va_A w0 sz)) 0 0 (va_A w0 sz) := by
  refine Met.ofW (cc := cX9_open) (maxL := 2) (ret := (some .int)) (by decide) rfl ?_
  intro p e s m args below meth c s₁ B hml hv
  obtain ⟨rfl, hsz, hP, hK, hD0, hSD⟩ := hv
  have hx := B.exec
  have hb := B.bytes
  have hr := B.returns
  have hlocks := B.notSynchronized
  have hts : ∀ w ∈ gT, w.before _ s = true := fun w h => atoms_spec (ws := Cond.code yX9_open cX9_open 2 (some .int) :: gT) B.pre w (List.mem_cons_of_mem _ h)
  have hown : s.vm.findClass RX9 = some m.cls := findClass_of_methodNamed B.named
  subst hsz
  have hD := hD0.self (sz := s.heap.size)
  generalize hAe : va_A w0 s.heap.size = A at hD hSD ⊢
  have hA : ∀ q : Nat, s.heap.size ≤ q → A q := fun q h => by rw [← hAe]; exact Or.inr h
  have hl := lv_entry ([.ref p0, .int p1]) (n := 2) (Nat.le_of_ble_eq_true rfl)
  rw [lg_entry_eq]
  generalize (lg_sl ([.ref p0, .int p1]) ++ List.replicate (2 - (lg_sl ([.ref p0, .int p1])).length) Slot.unset).toArray = ls at hl ⊢
  have hl : lv_has ls 2 [(0, .ref p0), (1, .int p1)] := hl
  refine nameQ (fun Q hQ => ?_)
  have hw : WD D cy GG A s wr_X9_open wa_X9_open Ps w0 Ps w0 s.heap [] := ⟨hT, hP, hD, va_S.rf, FR.rf, hT.1, [], (List.append_nil _).symm⟩
  refine lv_aload_n hx hb dX9_open_0 rfl (lv_at hl 0 rfl) ?_
  refine lv_iconst (v := 2) hx hb dX9_open_1 (by decide) ?_
  refine lv_iload_n hx hb dX9_open_2 rfl (lv_at hl 1 rfl) ?_
  refine tk_ir (va_runV (As := [.int 2, .int p1]) (rest := []) ⟨hx, hb, hml, hown, hts⟩ (c_X9_isOf l D cy z s.heap.size Ps w0 hw.1 p0 2 p1 h_p0 rl_2 r_p1) (cwV 2 hts (gV tw_540 tw_542 ts_10 tw_1 tw_543) rfl rfl rfl (by decide +kernel) ⟨Nat.le_of_ble_eq_true rfl, Nat.le_of_ble_eq_true rfl⟩) (tg_preV hw hK hSD hA (ci := 9) (q := (RX9, TX9, 15)) rfl h_p0 rfl) rfl rfl hl.1 rfl (lv_room (Nat.le_of_ble_eq_true rfl)) dX9_open_3 ⟨Nat.le_of_ble_eq_true rfl, Nat.le_of_ble_eq_true rfl⟩) hw hA (fun v_1  H locs hp_v_1 hw => ?_)
  have r_v_1 : RI v_1 0 1 := hp_v_1.1
  refine lv_if_ne (tgt := 11) hx hb dX9_open_6 (by decide) (fun c_6 => ?_) (fun c_6 => ?_)
  · have r_v_1 : RI v_1 1 1 := rc_neL r_v_1 rl_0 (ti_ne c_6) (by decide)
    have r_p1 : RI p1 0 5 := ((hp_v_1.2.2 c_6).1)
    refine lv_aload_n hx hb dX9_open_11 rfl (lv_at hl 0 rfl) ?_
    refine tg_get (ci := 9) (ts := ty_WP) (C := RX9) (T := TX9) (N := 15) hx hb hts inX9 hown hK hw h_p0 rfl rfl 3 (by decide) (hts _ tw_349) (fun _ h9 => h9) (ft := vR 27) rfl dX9_open_12 (fun u_2 hv_u_2 m_u_2 => ?_)
    obtain ⟨vu_2, rfl, h_vu_2⟩ := hv_u_2
    refine lv_aload_n hx hb dX9_open_15 rfl (lv_at hl 0 rfl) ?_
    refine tg_get (ci := 9) (ts := ty_WP) (C := RX9) (T := TX9) (N := 15) hx hb hts inX9 hown hK hw h_p0 rfl rfl 1 (by decide) (hts _ tw_347) (fun _ h9 => h9) (ft := vR 24) rfl dX9_open_16 (fun u_3 hv_u_3 m_u_3 => ?_)
    obtain ⟨vu_3, rfl, h_vu_3⟩ := hv_u_3
    refine tk_v (va_runV (As := [.ref vu_3]) (rest := []) ⟨hx, hb, hml, hown, hts⟩ (c_X1_prepare l D cy z H.size Ps w0 hw.1 vu_2 vu_3 h_vu_2 h_vu_3) (cwV 1 hts (gV tw_606 tw_607 tw_608 tw_13 tw_609) rfl rfl rfl (by decide +kernel) ⟨Nat.le_of_ble_eq_true rfl, Nat.le_of_ble_eq_true rfl⟩) (tg_preV hw hK hSD hA (ci := 1) (q := (RX1, TX1, 3)) rfl h_vu_2 rfl) rfl rfl hl.1 rfl (lv_room (Nat.le_of_ble_eq_true rfl)) dX9_open_19 ⟨Nat.le_of_ble_eq_true rfl, Nat.le_of_ble_eq_true rfl⟩) hw hA ⟨by decide, by decide⟩ (fun ws H locs hp_v_4 hw hF9 => ?_)
    refine lv_aload_n hx hb dX9_open_22 rfl (lv_at hl 0 rfl) ?_
    refine lv_aload_n hx hb dX9_open_23 rfl (lv_at hl 0 rfl) ?_
    refine tg_get (ci := 9) (ts := ty_WP) (C := RX9) (T := TX9) (N := 15) hx hb hts inX9 hown hK hw h_p0 rfl rfl 1 (by decide) (hts _ tw_347) (fun _ h9 => h9) (ft := vR 24) rfl dX9_open_24 (fun u_5 hv_u_5 m_u_5 => ?_)
    obtain ⟨vu_5, rfl, h_vu_5⟩ := hv_u_5
    refine lv_iload_n hx hb dX9_open_27 rfl (lv_at hl 1 rfl) ?_
    refine tk_i (va_runV (As := [.int p1]) (rest := [.ref p0]) ⟨hx, hb, hml, hown, hts⟩ (c_X8_openUp l D cy z H.size Ps ws hw.1 vu_5 p1 h_vu_5 r_p1) (cwV 1 hts (gV tw_661 tw_662 tw_663 tw_12 tw_664) rfl rfl rfl (by decide +kernel) ⟨Nat.le_of_ble_eq_true rfl, Nat.le_of_ble_eq_true rfl⟩) (tg_preV hw hK hSD hA (ci := 8) (q := (RX8, TX8, 13)) rfl h_vu_5 rfl) rfl rfl hl.1 rfl (lv_room (Nat.le_of_ble_eq_true rfl)) dX9_open_28 ⟨Nat.le_of_ble_eq_true rfl, Nat.le_of_ble_eq_true rfl⟩) hw hA ⟨by decide, by decide⟩ (fun v_6 ws H locs hp_v_6 hw hF9 => ?_)
    have r_v_6 : RI v_6 0 1 := hp_v_6.1
    refine tk_i (va_runV (As := [.int v_6]) (rest := []) ⟨hx, hb, hml, hown, hts⟩ (c_X9_keptIfDone l D cy z H.size Ps ws hw.1 p0 v_6 h_p0 (r_v_6.to (by decide))) (cwV 1 hts (gV tw_615 tw_617 ts_12 tw_1 tw_618) rfl rfl rfl (by decide +kernel) ⟨Nat.le_of_ble_eq_true rfl, Nat.le_of_ble_eq_true rfl⟩) (tg_preV hw hK hSD hA (ci := 9) (q := (RX9, TX9, 15)) rfl h_p0 rfl) rfl rfl hl.1 rfl (lv_room (Nat.le_of_ble_eq_true rfl)) dX9_open_31 ⟨Nat.le_of_ble_eq_true rfl, Nat.le_of_ble_eq_true rfl⟩) hw hA ⟨by decide, by decide⟩ (fun v_7 ws H locs hp_v_7 hw hF9 => ?_)
    have r_v_7 : RI v_7 (-2147483648) 2147483647 := hp_v_7.1
    subst hQ
    exact W.iret (v := v_7) hx hb hr (fun t ht hW => ⟨⟨v_7, ws, rfl, ⟨⟨r_v_7.to (by decide), (fun h0 => trivial), (fun h0 => trivial)⟩, hw.1, hw.2.2.2.2.1⟩, by rw [ht]; exact hw.2.1, va_K.moved hW.alike hK, hw.2.2.1⟩, hw.2.2.2.1.F ht⟩) hw.2.2.2.1.2.2 dX9_open_34
  · have r_v_1 : RI v_1 0 0 := rc_eq1 r_v_1 rl_0 (ti_eq c_6) (by decide)
    refine lv_iconst (v := (-1)) hx hb dX9_open_9 (by decide) ?_
    subst hQ
    exact W.iret (v := (-1)) hx hb hr (fun t ht hW => ⟨⟨(-1), w0, rfl, ⟨⟨rl_m1.to (by decide), (fun _ => trivial), (fun h0 => trivial)⟩, hw.1, hw.2.2.2.2.1⟩, by rw [ht]; exact hw.2.1, va_K.moved hW.alike hK, hw.2.2.1⟩, hw.2.2.2.1.F ht⟩) hw.2.2.2.1.2.2 dX9_open_10
abbrev wr_X9_quarrels : List (Nat × Nat) := []
abbrev wa_X9_quarrels : List Nat := []
set_option maxHeartbeats 4000000 in
set_option maxRecDepth 100000 in
theorem c_X9_quarrels (l : Launch) (D : va_G) (cy : Nat → ClassId) (z : Nat → Nat) (sz : Nat) (Ps : PSI) (w0 : va_W) (hT : HT cy GG Ps w0) (p0 : Nat) (p1 : Int32) (h_p0 : (p0, 33) ∈ Ps) (r_p1 : RI p1 (-2147483648) 2147483647) : Met l yX9_quarrels (Cond.code yX9_quarrels cX9_quarrels 2 (some .int) :: gT) ({ frames := 2, cells := 0, slots := 0, locals := 400 } : Room) (va_Pc [.ref p0, .int p1] (PRE D cy z w0 sz)) (va_Qi (fun (r : Int32) (u : Unit) => RI r (-2147483648) 2147483647 ∧ (r = 0 → True) ∧ (¬ r = 0 → True)) (BB D cy (va_A w0 sz) (fun (u : Unit) => w0)) (va_A w0 sz)) 0 0 (va_A w0 sz) := by
  refine Met.ofW (cc := cX9_quarrels) (maxL := 2) (ret := (some .int)) (by decide) rfl ?_
  intro p e s m args below meth c s₁ B hml hv
  obtain ⟨rfl, hsz, hP, hK, hD0, hSD⟩ := hv
  have hx := B.exec
  have hb := B.bytes
  have hr := B.returns
  have hlocks := B.notSynchronized
  have hts : ∀ w ∈ gT, w.before _ s = true := fun w h => atoms_spec (ws := Cond.code yX9_quarrels cX9_quarrels 2 (some .int) :: gT) B.pre w (List.mem_cons_of_mem _ h)
  have hown : s.vm.findClass RX9 = some m.cls := findClass_of_methodNamed B.named
  subst hsz
  have hD := hD0.self (sz := s.heap.size)
  generalize hAe : va_A w0 s.heap.size = A at hD hSD ⊢
  have hA : ∀ q : Nat, s.heap.size ≤ q → A q := fun q h => by rw [← hAe]; exact Or.inr h
  have hl := lv_entry ([.ref p0, .int p1]) (n := 2) (Nat.le_of_ble_eq_true rfl)
  rw [lg_entry_eq]
  generalize (lg_sl ([.ref p0, .int p1]) ++ List.replicate (2 - (lg_sl ([.ref p0, .int p1])).length) Slot.unset).toArray = ls at hl ⊢
  have hl : lv_has ls 2 [(0, .ref p0), (1, .int p1)] := hl
  refine nameQ (fun Q hQ => ?_)
  have hw : WD D cy GG A s wr_X9_quarrels wa_X9_quarrels Ps w0 Ps w0 s.heap [] := ⟨hT, hP, hD, va_S.rf, FR.rf, hT.1, [], (List.append_nil _).symm⟩
  refine lv_aload_n hx hb dX9_quarrels_0 rfl (lv_at hl 0 rfl) ?_
  refine lv_iconst (v := 0) hx hb dX9_quarrels_1 (by decide) ?_
  refine lv_iload_n hx hb dX9_quarrels_2 rfl (lv_at hl 1 rfl) ?_
  refine tk_ir (va_runV (As := [.int 0, .int p1]) (rest := []) ⟨hx, hb, hml, hown, hts⟩ (c_X9_isOf__3 l D cy z s.heap.size Ps w0 hw.1 p0 0 p1 h_p0 rl_0 r_p1) (cwV 2 hts (gV tw_540 tw_542 ts_10 tw_1 tw_543) rfl rfl rfl (by decide +kernel) ⟨Nat.le_of_ble_eq_true rfl, Nat.le_of_ble_eq_true rfl⟩) (tg_preV hw hK hSD hA (ci := 9) (q := (RX9, TX9, 15)) rfl h_p0 rfl) rfl rfl hl.1 rfl (lv_room (Nat.le_of_ble_eq_true rfl)) dX9_quarrels_3 ⟨Nat.le_of_ble_eq_true rfl, Nat.le_of_ble_eq_true rfl⟩) hw hA (fun v_1  H locs hp_v_1 hw => ?_)
  have r_v_1 : RI v_1 0 1 := hp_v_1.1
  refine lv_if_eq (tgt := 24) hx hb dX9_quarrels_6 (by decide) (fun c_6 => ?_) (fun c_6 => ?_)
  · have r_v_1 : RI v_1 0 0 := rc_eq1 r_v_1 rl_0 (ti_eq c_6) (by decide)
    refine lv_iconst (v := (-1)) hx hb dX9_quarrels_24 (by decide) ?_
    subst hQ
    exact W.iret (v := (-1)) hx hb hr (fun t ht hW => ⟨⟨(-1), (), rfl, ⟨rl_m1.to (by decide), (fun _ => trivial), (fun h0 => trivial)⟩, by rw [ht]; exact hw.2.1, va_K.moved hW.alike hK, hw.2.2.1⟩, hw.2.2.2.1.F ht⟩) hw.2.2.2.1.2.2 dX9_quarrels_25
  · have r_v_1 : RI v_1 1 1 := rc_neL r_v_1 rl_0 (ti_ne c_6) (by decide)
    have r_p1 : RI p1 0 5 := ((hp_v_1.2.2 c_6).1)
    refine lv_aload_n hx hb dX9_quarrels_9 rfl (lv_at hl 0 rfl) ?_
    refine tg_get (ci := 9) (ts := ty_WP) (C := RX9) (T := TX9) (N := 15) hx hb hts inX9 hown hK hw h_p0 rfl rfl 1 (by decide) (hts _ tw_347) (fun _ h9 => h9) (ft := vR 24) rfl dX9_quarrels_10 (fun u_2 hv_u_2 m_u_2 => ?_)
    obtain ⟨vu_2, rfl, h_vu_2⟩ := hv_u_2
    refine tg_getN (ci := 8) (ts := ty_WORLD) (C := RX8) (T := TX8) (N := 13) hx hb hts inX8 hown hK hw h_vu_2 rfl rfl 0 (by decide) (hSD.nest tn_249) (fun _ h9 => h9) (ft := vR 25) rfl dX9_quarrels_13 (fun u_3 hv_u_3 m_u_3 => ?_)
    obtain ⟨vu_3, rfl, h_vu_3⟩ := hv_u_3
    refine tg_getN (ci := 3) (ts := ty_POST) (C := RX3) (T := TX3) (N := 9) hx hb hts inX3 hown hK hw h_vu_3 rfl rfl 3 (by decide) (hSD.nest tn_209) (fun _ h9 => h9) (ft := vR 6) rfl dX9_quarrels_16 (fun u_4 hv_u_4 m_u_4 => ?_)
    obtain ⟨vu_4, rfl, h_vu_4⟩ := hv_u_4
    refine lv_iload_n hx hb dX9_quarrels_19 rfl (lv_at hl 1 rfl) ?_
    refine tg_iald (lo := (-2147483648)) (hi := 2147483647) hx hb hK hw h_vu_4 rfl 0 5 r_p1 (by decide) (by exact fun _ _ _ => ⟨Int.le_refl _, Int.le_refl _⟩) dX9_quarrels_20 (fun v_5 r_v_5 m_v_5 o_v_5 => ?_)
    refine lv_goto (tgt := 25) hx hb dX9_quarrels_21 (by decide) ?_
    subst hQ
    exact W.iret (v := v_5) hx hb hr (fun t ht hW => ⟨⟨v_5, (), rfl, ⟨r_v_5.to (by decide), (fun h0 => trivial), (fun h0 => trivial)⟩, by rw [ht]; exact hw.2.1, va_K.moved hW.alike hK, hw.2.2.1⟩, hw.2.2.2.1.F ht⟩) hw.2.2.2.1.2.2 dX9_quarrels_25
abbrev wr_J7_fill_53178__8 : List (Nat × Nat) := []
abbrev wa_J7_fill_53178__8 : List Nat := [13]
set_option maxHeartbeats 4000000 in
set_option maxRecDepth 100000 in
theorem c_J7_fill_53178__8 (l : Launch) (D : va_G) (cy : Nat → ClassId) (z : Nat → Nat) (sz : Nat) (Ps : PSI) (w0 : va_W) (hT : HT cy GG Ps w0) (p0 : Nat) (p1 : Int32) (h_p0 : (p0, 13) ∈ Ps) (r_p1 : RI p1 (-1) (-1)) : Met l yJ7_fill_53178 (Cond.code yJ7_fill_53178 cJ7_fill_53178 4 none :: gT) ({ frames := 0, cells := 0, slots := 0, locals := 200 } : Room) (va_Pc [.ref p0, .int p1] (PRE D cy z w0 sz)) (va_Qv (fun (u : va_W) => (True) ∧ HT cy GG Ps u ∧ FR wr_J7_fill_53178__8 wa_J7_fill_53178__8 Ps w0 u) (BB D cy (va_A w0 sz) (fun (u : va_W) => u)) (va_A w0 sz)) 0 0 (va_A w0 sz) := by
  refine Met.ofW (cc := cJ7_fill_53178) (maxL := 4) (ret := none) (by decide) rfl ?_
  intro p e s m args below meth c s₁ B hml hv
  obtain ⟨rfl, hsz, hP, hK, hD0, hSD⟩ := hv
  have hx := B.exec
  have hb := B.bytes
  have hr := B.returns
  have hlocks := B.notSynchronized
  have hts : ∀ w ∈ gT, w.before _ s = true := fun w h => atoms_spec (ws := Cond.code yJ7_fill_53178 cJ7_fill_53178 4 none :: gT) B.pre w (List.mem_cons_of_mem _ h)
  have hown : s.vm.findClass RJ7 = some m.cls := findClass_of_methodNamed B.named
  subst hsz
  have hD := hD0.self (sz := s.heap.size)
  generalize hAe : va_A w0 s.heap.size = A at hD hSD ⊢
  have hA : ∀ q : Nat, s.heap.size ≤ q → A q := fun q h => by rw [← hAe]; exact Or.inr h
  have hl := lv_entry ([.ref p0, .int p1]) (n := 4) (Nat.le_of_ble_eq_true rfl)
  rw [lg_entry_eq]
  generalize (lg_sl ([.ref p0, .int p1]) ++ List.replicate (4 - (lg_sl ([.ref p0, .int p1])).length) Slot.unset).toArray = ls at hl ⊢
  have hl : lv_has ls 4 [(0, .ref p0), (1, .int p1)] := hl
  refine nameQ (fun Q hQ => ?_)
  have hw : WD D cy GG A s wr_J7_fill_53178__8 wa_J7_fill_53178__8 Ps w0 Ps w0 s.heap [] := ⟨hT, hP, hD, va_S.rf, FR.rf, hT.1, [], (List.append_nil _).symm⟩
  have B5 : ∀ (nf : Nat) (x2 : Int32) (x3 : Int32) (ws : va_W) (H : Heap) (locs : List Loc) (ls : Array Slot), 8 - x2.toInt < (nf : Int) → RI p1 (-1) (-1) → RI x2 0 8 → RI x3 8 8 → WD D cy GG A s wr_J7_fill_53178__8 wa_J7_fill_53178__8 Ps w0 Ps ws H locs → lv_has ls 4 [(0, .ref p0), (1, .int p1), (2, .int x2), (3, .int x3)] → W p l e (headSpec (Cond.code yJ7_fill_53178 cJ7_fill_53178 4 none :: gT) ({ frames := 0, cells := 0, slots := 0, locals := 200 } : Room)).room s m ([.ref p0, .int p1] : List Value).toArray below meth c H locs 0 0 Q (F0 m 5 ls []) := by
    intro nf5
    induction nf5 with
    | zero =>
      intro x2 x3 ws H locs ls hn5 r_p1 r_x2 r_x3 hw hl
      exact absurd hn5 (by have q0 := r_x2.1; have u0 := r_x2.2; omega)
    | succ nf5 ih5 =>
      intro x2 x3 ws H locs ls hn5 r_p1 r_x2 r_x3 hw hl
      refine lv_iload_n hx hb dJ7_fill_53178_5 rfl (lv_at hl 2 rfl) ?_
      refine lv_iload_n hx hb dJ7_fill_53178_6 rfl (lv_at hl 3 rfl) ?_
      refine lv_icmp_ge (tgt := 20) hx hb dJ7_fill_53178_7 (by decide) (fun c_7 => ?_) (fun c_7 => ?_)
      · have r_x2 : RI x2 8 8 := rc_le2 r_x3 r_x2 (ti_le c_7) (by decide)
        subst hQ
        exact W.vret hx hb hr (fun t ht hW => ⟨⟨ws, rfl, ⟨trivial, hw.1, hw.2.2.2.2.1⟩, by rw [ht]; exact hw.2.1, va_K.moved hW.alike hK, hw.2.2.1⟩, hw.2.2.2.1.F ht⟩) hw.2.2.2.1.2.2 dJ7_fill_53178_20
      · have r_x2 : RI x2 0 7 := rc_lt1 r_x2 r_x3 (ti_nle c_7) (by decide)
        refine lv_aload_n hx hb dJ7_fill_53178_10 rfl (lv_at hl 0 rfl) ?_
        refine lv_iload_n hx hb dJ7_fill_53178_11 rfl (lv_at hl 2 rfl) ?_
        refine lv_iload_n hx hb dJ7_fill_53178_12 rfl (lv_at hl 1 rfl) ?_
        refine tg_iast hx hb hK hw h_p0 rfl 0 7 r_x2 (by decide) r_p1 (by exact fun _ _ _ => by decide) (fun _ _ _ _ _ => trivial) (by decide) dJ7_fill_53178_13 (fun ws H locs hw hF9 hU9 => ?_)
        obtain ⟨v_1, e_v_1⟩ : ∃ q9 : Int32, q9 = x2 + Int32.ofInt 1 := ⟨_, rfl⟩
        obtain ⟨t_v_1, r_v_1⟩ := tq_add (lo := 1) (hi := 8) r_x2 (show RI (Int32.ofInt 1) 1 1 by unfold RI; decide +kernel) (by decide +kernel) e_v_1
        have t_v_1 : v_1.toInt = x2.toInt + 1 := t_v_1
        refine lv_iinc (v := v_1) (lv' := [(2, .int v_1), (0, .ref p0), (1, .int p1), (3, .int x3)]) hx hb dJ7_fill_53178_14 hl (k := 2) rfl e_v_1.symm (by decide) rfl (fun ls hl => ?_)
        refine lv_goto (tgt := 5) hx hb dJ7_fill_53178_17 (by decide) ?_
        exact ih5 v_1 x3 ws _ _ ls (by have q0 := r_v_1.1; have u0 := r_v_1.2; have o0 := r_x2.1; have p0 := r_x2.2; omega) r_p1 (r_v_1.to (by decide)) r_x3 hw (lv_sub hl [1, 2, 0, 3] rfl)
  refine lv_iconst (v := 0) hx hb dJ7_fill_53178_0 (by decide) ?_
  refine lv_istore_n (lv' := [(2, .int 0), (0, .ref p0), (1, .int p1)]) hx hb dJ7_fill_53178_1 rfl hl (by decide) rfl (fun ls hl => ?_)
  refine lv_aload_n hx hb dJ7_fill_53178_2 rfl (lv_at hl 1 rfl) ?_
  refine tg_alenI (t0 := 1) (v := 8) hx hb hK hw h_p0 rfl rfl rfl dJ7_fill_53178_3 ?_
  refine lv_istore_n (lv' := [(3, .int 8), (2, .int 0), (0, .ref p0), (1, .int p1)]) hx hb dJ7_fill_53178_4 rfl hl (by decide) rfl (fun ls hl => ?_)
  exact B5 4294967298 0 8 w0 _ _ ls (by have q0 := rl_0.1; have u0 := rl_0.2; omega) r_p1 (rl_0.to (by decide)) rl_8 hw (lv_sub hl [2, 3, 1, 0] rfl)
abbrev wr_X9_rest : List (Nat × Nat) := [(8, 0), (8, 1)]
abbrev wa_X9_rest : List Nat := [8, 9, 10, 11, 12, 13, 14]
set_option maxHeartbeats 4000000 in
set_option maxRecDepth 100000 in
theorem c_X9_rest (l : Launch) (D : va_G) (cy : Nat → ClassId) (z : Nat → Nat) (sz : Nat) (Ps : PSI) (w0 : va_W) (hT : HT cy GG Ps w0) (p0 : Nat) (h_p0 : (p0, 33) ∈ Ps) : Met l yX9_rest (Cond.code yX9_rest cX9_rest 2 (some .int) :: gT) ({ frames := 5, cells := 0, slots := 0, locals := 1000 } : Room) (va_Pc [.ref p0] (PRE D cy z w0 sz)) (va_Qi (fun (r : Int32) (u : va_W) => (RI r 0 10 ∧ (r = 0 → True) ∧ (¬ r = 0 → True)) ∧ HT cy GG Ps u ∧ FR wr_X9_rest wa_X9_rest Ps w0 u) (BB D cy (va_A w0 sz) (fun (u : va_W) => u)) (va_A w0 sz)) 0 0 (va_A w0 sz) := by
  refine Met.ofW (cc := cX9_rest) (maxL := 2) (ret := (some .int)) (by decide) rfl ?_
  intro p e s m args below meth c s₁ B hml hv
  obtain ⟨rfl, hsz, hP, hK, hD0, hSD⟩ := hv
  have hx := B.exec
  have hb := B.bytes
  have hr := B.returns
  have hlocks := B.notSynchronized
  have hts : ∀ w ∈ gT, w.before _ s = true := fun w h => atoms_spec (ws := Cond.code yX9_rest cX9_rest 2 (some .int) :: gT) B.pre w (List.mem_cons_of_mem _ h)
  have hown : s.vm.findClass RX9 = some m.cls := findClass_of_methodNamed B.named
  subst hsz
  have hD := hD0.self (sz := s.heap.size)
  generalize hAe : va_A w0 s.heap.size = A at hD hSD ⊢
  have hA : ∀ q : Nat, s.heap.size ≤ q → A q := fun q h => by rw [← hAe]; exact Or.inr h
  have hl := lv_entry ([.ref p0]) (n := 2) (Nat.le_of_ble_eq_true rfl)
  rw [lg_entry_eq]
  generalize (lg_sl ([.ref p0]) ++ List.replicate (2 - (lg_sl ([.ref p0])).length) Slot.unset).toArray = ls at hl ⊢
  have hl : lv_has ls 2 [(0, .ref p0)] := hl
  refine nameQ (fun Q hQ => ?_)
  have hw : WD D cy GG A s wr_X9_rest wa_X9_rest Ps w0 Ps w0 s.heap [] := ⟨hT, hP, hD, va_S.rf, FR.rf, hT.1, [], (List.append_nil _).symm⟩
  refine lv_aload_n hx hb dX9_rest_0 rfl (lv_at hl 0 rfl) ?_
  refine tg_get (ci := 9) (ts := ty_WP) (C := RX9) (T := TX9) (N := 15) hx hb hts inX9 hown hK hw h_p0 rfl rfl 2 (by decide) (hts _ tw_348) (fun _ h9 => h9) (ft := vR 24) rfl dX9_rest_1 (fun u_1 hv_u_1 m_u_1 => ?_)
  obtain ⟨vu_1, rfl, h_vu_1⟩ := hv_u_1
  refine lv_aload_n hx hb dX9_rest_4 rfl (lv_at hl 0 rfl) ?_
  refine tg_get (ci := 9) (ts := ty_WP) (C := RX9) (T := TX9) (N := 15) hx hb hts inX9 hown hK hw h_p0 rfl rfl 1 (by decide) (hts _ tw_347) (fun _ h9 => h9) (ft := vR 24) rfl dX9_rest_5 (fun u_2 hv_u_2 m_u_2 => ?_)
  obtain ⟨vu_2, rfl, h_vu_2⟩ := hv_u_2
  refine tk_v (va_runV (As := [.ref vu_2]) (rest := []) ⟨hx, hb, hml, hown, hts⟩ (c_X8_takeFrom l D cy z s.heap.size Ps w0 hw.1 vu_1 vu_2 h_vu_1 h_vu_2) (cwV 1 hts (gV tw_521 tw_522 tw_523 tw_12 tw_524) rfl rfl rfl (by decide +kernel) ⟨Nat.le_of_ble_eq_true rfl, Nat.le_of_ble_eq_true rfl⟩) (tg_preV hw hK hSD hA (ci := 8) (q := (RX8, TX8, 13)) rfl h_vu_1 rfl) rfl rfl hl.1 rfl (lv_room (Nat.le_of_ble_eq_true rfl)) dX9_rest_8 ⟨Nat.le_of_ble_eq_true rfl, Nat.le_of_ble_eq_true rfl⟩) hw hA ⟨by decide, by decide⟩ (fun ws H locs hp_v_3 hw hF9 => ?_)
  refine lv_aload_n hx hb dX9_rest_11 rfl (lv_at hl 0 rfl) ?_
  refine tg_get (ci := 9) (ts := ty_WP) (C := RX9) (T := TX9) (N := 15) hx hb hts inX9 hown hK hw h_p0 rfl rfl 2 (by decide) (hts _ tw_348) (fun _ h9 => h9) (ft := vR 24) rfl dX9_rest_12 (fun u_4 hv_u_4 m_u_4 => ?_)
  obtain ⟨vu_4, rfl, h_vu_4⟩ := hv_u_4
  refine tk_i (va_runV (As := []) (rest := []) ⟨hx, hb, hml, hown, hts⟩ (c_X8_settleAll l D cy z H.size Ps ws hw.1 vu_4 h_vu_4) (cwV 0 hts (gV tw_811 tw_812 tw_813 tw_12 tw_814) rfl rfl rfl (by decide +kernel) ⟨Nat.le_of_ble_eq_true rfl, Nat.le_of_ble_eq_true rfl⟩) (tg_preV hw hK hSD hA (ci := 8) (q := (RX8, TX8, 13)) rfl h_vu_4 rfl) rfl rfl hl.1 rfl (lv_room (Nat.le_of_ble_eq_true rfl)) dX9_rest_15 ⟨Nat.le_of_ble_eq_true rfl, Nat.le_of_ble_eq_true rfl⟩) hw hA ⟨by decide, by decide⟩ (fun v_5 ws H locs hp_v_5 hw hF9 => ?_)
  have r_v_5 : RI v_5 0 10 := hp_v_5.1
  refine lv_istore_n (lv' := [(1, .int v_5), (0, .ref p0)]) hx hb dX9_rest_18 rfl hl (by decide) rfl (fun ls hl => ?_)
  refine lv_aload_n hx hb dX9_rest_19 rfl (lv_at hl 1 rfl) ?_
  refine tg_get (ci := 9) (ts := ty_WP) (C := RX9) (T := TX9) (N := 15) hx hb hts inX9 hown hK hw h_p0 rfl rfl 9 (by decide) (hts _ tw_355) (fun _ h9 => h9) (ft := vR 13) rfl dX9_rest_20 (fun u_6 hv_u_6 m_u_6 => ?_)
  obtain ⟨vu_6, rfl, h_vu_6⟩ := hv_u_6
  refine lv_iconst (v := (-1)) hx hb dX9_rest_23 (by decide) ?_
  refine tk_v (va_runS (As := [.ref vu_6, .int (-1)]) (rest := []) ⟨hx, hb, hml, hown, hts⟩ (c_J7_fill_53178__8 l D cy z H.size Ps ws hw.1 vu_6 (-1) h_vu_6 rl_m1) (va_cwS 2 hts (gS tw_345 tw_167 tw_9 tw_168) rfl rfl rfl (by decide +kernel) ⟨Nat.le_of_ble_eq_true rfl, Nat.le_of_ble_eq_true rfl⟩) (tg_preS hw hK hSD hA) rfl rfl hl.1 rfl (lv_room (Nat.le_of_ble_eq_true rfl)) dX9_rest_24 ⟨Nat.le_of_ble_eq_true rfl, Nat.le_of_ble_eq_true rfl⟩) hw hA ⟨by decide, by decide⟩ (fun ws H locs hp_v_7 hw hF9 => ?_)
  refine lv_aload_n hx hb dX9_rest_27 rfl (lv_at hl 1 rfl) ?_
  refine tg_get (ci := 9) (ts := ty_WP) (C := RX9) (T := TX9) (N := 15) hx hb hts inX9 hown hK hw h_p0 rfl rfl 2 (by decide) (hts _ tw_348) (fun _ h9 => h9) (ft := vR 24) rfl dX9_rest_28 (fun u_8 hv_u_8 m_u_8 => ?_)
  obtain ⟨vu_8, rfl, h_vu_8⟩ := hv_u_8
  refine tg_getN (ci := 8) (ts := ty_WORLD) (C := RX8) (T := TX8) (N := 13) hx hb hts inX8 hown hK hw h_vu_8 rfl rfl 8 (by decide) (hSD.nest tn_269) (fun _ h9 => h9) (ft := vR 12) rfl dX9_rest_31 (fun u_9 hv_u_9 m_u_9 => ?_)
  obtain ⟨vu_9, rfl, h_vu_9⟩ := hv_u_9
  refine lv_iconst (v := 0) hx hb dX9_rest_34 (by decide) ?_
  refine lv_aload_n hx hb dX9_rest_35 rfl (lv_at hl 1 rfl) ?_
  refine tg_get (ci := 9) (ts := ty_WP) (C := RX9) (T := TX9) (N := 15) hx hb hts inX9 hown hK hw h_p0 rfl rfl 9 (by decide) (hts _ tw_355) (fun _ h9 => h9) (ft := vR 13) rfl dX9_rest_36 (fun u_10 hv_u_10 m_u_10 => ?_)
  obtain ⟨vu_10, rfl, h_vu_10⟩ := hv_u_10
  refine lv_iconst (v := 0) hx hb dX9_rest_39 (by decide) ?_
  refine lv_aload_n hx hb dX9_rest_40 rfl (lv_at hl 1 rfl) ?_
  refine tg_get (ci := 9) (ts := ty_WP) (C := RX9) (T := TX9) (N := 15) hx hb hts inX9 hown hK hw h_p0 rfl rfl 1 (by decide) (hts _ tw_347) (fun _ h9 => h9) (ft := vR 24) rfl dX9_rest_41 (fun u_11 hv_u_11 m_u_11 => ?_)
  obtain ⟨vu_11, rfl, h_vu_11⟩ := hv_u_11
  refine tg_getN (ci := 8) (ts := ty_WORLD) (C := RX8) (T := TX8) (N := 13) hx hb hts inX8 hown hK hw h_vu_11 rfl rfl 0 (by decide) (hSD.nest tn_249) (fun _ h9 => h9) (ft := vR 25) rfl dX9_rest_44 (fun u_12 hv_u_12 m_u_12 => ?_)
  obtain ⟨vu_12, rfl, h_vu_12⟩ := hv_u_12
  refine tg_getN (ci := 3) (ts := ty_POST) (C := RX3) (T := TX3) (N := 9) hx hb hts inX3 hown hK hw h_vu_12 rfl rfl 1 (by decide) (hSD.nest tn_204) (fun _ h9 => h9) (ft := vR 4) rfl dX9_rest_47 (fun u_13 hv_u_13 m_u_13 => ?_)
  obtain ⟨vu_13, rfl, h_vu_13⟩ := hv_u_13
  refine lv_iconst (v := 3) hx hb dX9_rest_50 (by decide) ?_
  refine tg_iald (lo := 0) (hi := 8) hx hb hK hw h_vu_13 rfl 3 3 rl_3 (by decide) (by decide +kernel) dX9_rest_51 (fun v_14 r_v_14 m_v_14 o_v_14 => ?_)
  refine tg_copy (lo := (-1)) (hi := 5) (lo2 := (-2147483648)) (hi2 := 2147483647) hx hb (hml.trans hl.1.symm) hown (hts _ tw_819) (hts _ tw_527) (hts _ tw_526) (hts _ tw_17) hK hw h_vu_9 h_vu_10 rfl rfl (by decide) r_v_14 (by decide) (by decide) (Nat.le_of_ble_eq_true rfl) (Nat.le_of_ble_eq_true rfl) dX9_rest_52 (fun ws H locs hw hF9 => ?_)
  refine lv_iload_n hx hb dX9_rest_55 rfl (lv_at hl 0 rfl) ?_
  subst hQ
  exact W.iret (v := v_5) hx hb hr (fun t ht hW => ⟨⟨v_5, ws, rfl, ⟨⟨r_v_5.to (by decide), (fun h0 => trivial), (fun h0 => trivial)⟩, hw.1, hw.2.2.2.2.1⟩, by rw [ht]; exact hw.2.1, va_K.moved hW.alike hK, hw.2.2.1⟩, hw.2.2.2.1.F ht⟩) hw.2.2.2.1.2.2 dX9_rest_56
abbrev wr_X9_rested : List (Nat × Nat) := []
abbrev wa_X9_rested : List Nat := []
set_option maxHeartbeats 4000000 in
set_option maxRecDepth 100000 in
theorem c_X9_rested (l : Launch) (D : va_G) (cy : Nat → ClassId) (z : Nat → Nat) (sz : Nat) (Ps : PSI) (w0 : va_W) (hT : HT cy GG Ps w0) (p0 : Nat) (p1 : Int32) (h_p0 : (p0, 33) ∈ Ps) (r_p1 : RI p1 (-2147483648) 2147483647) : Met l yX9_rested (Cond.code yX9_rested cX9_rested 2 (some .int) :: gT) ({ frames := 0, cells := 0, slots := 0, locals := 200 } : Room) (va_Pc [.ref p0, .int p1] (PRE D cy z w0 sz)) (va_Qi (fun (r : Int32) (u : Unit) => RI r (-2147483648) 2147483647 ∧ (r = 0 → True) ∧ (¬ r = 0 → True)) (BB D cy (va_A w0 sz) (fun (u : Unit) => w0)) (va_A w0 sz)) 0 0 (va_A w0 sz) := by
  refine Met.ofW (cc := cX9_rested) (maxL := 2) (ret := (some .int)) (by decide) rfl ?_
  intro p e s m args below meth c s₁ B hml hv
  obtain ⟨rfl, hsz, hP, hK, hD0, hSD⟩ := hv
  have hx := B.exec
  have hb := B.bytes
  have hr := B.returns
  have hlocks := B.notSynchronized
  have hts : ∀ w ∈ gT, w.before _ s = true := fun w h => atoms_spec (ws := Cond.code yX9_rested cX9_rested 2 (some .int) :: gT) B.pre w (List.mem_cons_of_mem _ h)
  have hown : s.vm.findClass RX9 = some m.cls := findClass_of_methodNamed B.named
  subst hsz
  have hD := hD0.self (sz := s.heap.size)
  generalize hAe : va_A w0 s.heap.size = A at hD hSD ⊢
  have hA : ∀ q : Nat, s.heap.size ≤ q → A q := fun q h => by rw [← hAe]; exact Or.inr h
  have hl := lv_entry ([.ref p0, .int p1]) (n := 2) (Nat.le_of_ble_eq_true rfl)
  rw [lg_entry_eq]
  generalize (lg_sl ([.ref p0, .int p1]) ++ List.replicate (2 - (lg_sl ([.ref p0, .int p1])).length) Slot.unset).toArray = ls at hl ⊢
  have hl : lv_has ls 2 [(0, .ref p0), (1, .int p1)] := hl
  refine nameQ (fun Q hQ => ?_)
  have hw : WD D cy GG A s wr_X9_rested wa_X9_rested Ps w0 Ps w0 s.heap [] := ⟨hT, hP, hD, va_S.rf, FR.rf, hT.1, [], (List.append_nil _).symm⟩
  refine lv_iload_n hx hb dX9_rested_0 rfl (lv_at hl 1 rfl) ?_
  refine lv_if_lt (tgt := 19) hx hb dX9_rested_1 (by decide) (fun c_1 => ?_) (fun c_1 => ?_)
  · have r_p1 : RI p1 (-2147483648) (-1) := rc_lt1 r_p1 rl_0 (ti_lt c_1) (by decide)
    refine lv_iconst (v := (-1)) hx hb dX9_rested_19 (by decide) ?_
    subst hQ
    exact W.iret (v := (-1)) hx hb hr (fun t ht hW => ⟨⟨(-1), (), rfl, ⟨rl_m1.to (by decide), (fun _ => trivial), (fun h0 => trivial)⟩, by rw [ht]; exact hw.2.1, va_K.moved hW.alike hK, hw.2.2.1⟩, hw.2.2.2.1.F ht⟩) hw.2.2.2.1.2.2 dX9_rested_20
  · have r_p1 : RI p1 0 2147483647 := rc_le2 rl_0 r_p1 (ti_nlt c_1) (by decide)
    refine lv_iload_n hx hb dX9_rested_4 rfl (lv_at hl 1 rfl) ?_
    refine lv_bipush (v := 8) hx hb dX9_rested_5 (by decide) ?_
    refine lv_icmp_ge (tgt := 19) hx hb dX9_rested_7 (by decide) (fun c_7 => ?_) (fun c_7 => ?_)
    · have r_p1 : RI p1 8 2147483647 := rc_le2 rl_8 r_p1 (ti_le c_7) (by decide)
      refine lv_iconst (v := (-1)) hx hb dX9_rested_19 (by decide) ?_
      subst hQ
      exact W.iret (v := (-1)) hx hb hr (fun t ht hW => ⟨⟨(-1), (), rfl, ⟨rl_m1.to (by decide), (fun _ => trivial), (fun h0 => trivial)⟩, by rw [ht]; exact hw.2.1, va_K.moved hW.alike hK, hw.2.2.1⟩, hw.2.2.2.1.F ht⟩) hw.2.2.2.1.2.2 dX9_rested_20
    · have r_p1 : RI p1 0 7 := rc_lt1 r_p1 rl_8 (ti_nle c_7) (by decide)
      refine lv_aload_n hx hb dX9_rested_10 rfl (lv_at hl 0 rfl) ?_
      refine tg_get (ci := 9) (ts := ty_WP) (C := RX9) (T := TX9) (N := 15) hx hb hts inX9 hown hK hw h_p0 rfl rfl 9 (by decide) (hts _ tw_355) (fun _ h9 => h9) (ft := vR 13) rfl dX9_rested_11 (fun u_1 hv_u_1 m_u_1 => ?_)
      obtain ⟨vu_1, rfl, h_vu_1⟩ := hv_u_1
      refine lv_iload_n hx hb dX9_rested_14 rfl (lv_at hl 1 rfl) ?_
      refine tg_iald (lo := (-2147483648)) (hi := 2147483647) hx hb hK hw h_vu_1 rfl 0 7 r_p1 (by decide) (by exact fun _ _ _ => ⟨Int.le_refl _, Int.le_refl _⟩) dX9_rested_15 (fun v_2 r_v_2 m_v_2 o_v_2 => ?_)
      refine lv_goto (tgt := 20) hx hb dX9_rested_16 (by decide) ?_
      subst hQ
      exact W.iret (v := v_2) hx hb hr (fun t ht hW => ⟨⟨v_2, (), rfl, ⟨r_v_2.to (by decide), (fun h0 => trivial), (fun h0 => trivial)⟩, by rw [ht]; exact hw.2.1, va_K.moved hW.alike hK, hw.2.2.1⟩, hw.2.2.2.1.F ht⟩) hw.2.2.2.1.2.2 dX9_rested_20
abbrev wr_X9_restore : List (Nat × Nat) := [(1, 2), (8, 0), (8, 1), (9, 5)]
abbrev wa_X9_restore : List Nat := [8, 9, 10, 11, 12, 13]
set_option maxHeartbeats 4000000 in
set_option maxRecDepth 100000 in
theorem c_X9_restore (l : Launch) (D : va_G) (cy : Nat → ClassId) (z : Nat → Nat) (sz : Nat) (Ps : PSI) (w0 : va_W) (hT : HT cy GG Ps w0) (p0 : Nat) (p1 : Int32) (h_p0 : (p0, 33) ∈ Ps) (r_p1 : RI p1 (-2147483648) 2147483647) : Met l yX9_restore (Cond.code yX9_restore cX9_restore 2 (some .boolean) :: gT) ({ frames := 3, cells := 0, slots := 0, locals := 600 } : Room) (va_Pc [.ref p0, .int p1] (PRE D cy z w0 sz)) (va_Qi (fun (r : Int32) (u : va_W) => (RI r 0 1 ∧ (r = 0 → True) ∧ (¬ r = 0 → True)) ∧ HT cy GG Ps u ∧ FR wr_X9_restore wa_X9_restore Ps w0 u) (BB D cy (va_A w0 sz) (fun (u : va_W) => u)) (va_A w0 sz)) 0 0 (va_A w0 sz) := by
  refine Met.ofW (cc := cX9_restore) (maxL := 2) (ret := (some .boolean)) (by decide) rfl ?_
  intro p e s m args below meth c s₁ B hml hv
  obtain ⟨rfl, hsz, hP, hK, hD0, hSD⟩ := hv
  have hx := B.exec
  have hb := B.bytes
  have hr := B.returns
  have hlocks := B.notSynchronized
  have hts : ∀ w ∈ gT, w.before _ s = true := fun w h => atoms_spec (ws := Cond.code yX9_restore cX9_restore 2 (some .boolean) :: gT) B.pre w (List.mem_cons_of_mem _ h)
  have hown : s.vm.findClass RX9 = some m.cls := findClass_of_methodNamed B.named
  subst hsz
  have hD := hD0.self (sz := s.heap.size)
  generalize hAe : va_A w0 s.heap.size = A at hD hSD ⊢
  have hA : ∀ q : Nat, s.heap.size ≤ q → A q := fun q h => by rw [← hAe]; exact Or.inr h
  have hl := lv_entry ([.ref p0, .int p1]) (n := 2) (Nat.le_of_ble_eq_true rfl)
  rw [lg_entry_eq]
  generalize (lg_sl ([.ref p0, .int p1]) ++ List.replicate (2 - (lg_sl ([.ref p0, .int p1])).length) Slot.unset).toArray = ls at hl ⊢
  have hl : lv_has ls 2 [(0, .ref p0), (1, .int p1)] := hl
  refine nameQ (fun Q hQ => ?_)
  have hw : WD D cy GG A s wr_X9_restore wa_X9_restore Ps w0 Ps w0 s.heap [] := ⟨hT, hP, hD, va_S.rf, FR.rf, hT.1, [], (List.append_nil _).symm⟩
  refine lv_iload_n hx hb dX9_restore_0 rfl (lv_at hl 1 rfl) ?_
  refine lv_if_lt (tgt := 25) hx hb dX9_restore_1 (by decide) (fun c_1 => ?_) (fun c_1 => ?_)
  · have r_p1 : RI p1 (-2147483648) (-1) := rc_lt1 r_p1 rl_0 (ti_lt c_1) (by decide)
    refine lv_iconst (v := 0) hx hb dX9_restore_25 (by decide) ?_
    subst hQ
    exact W.zret (v := 0) hx hb hr (rfl) (fun t ht hW => ⟨⟨0, w0, rfl, ⟨⟨rl_0.to (by decide), (fun h0 => trivial), (fun _ => trivial)⟩, hw.1, hw.2.2.2.2.1⟩, by rw [ht]; exact hw.2.1, va_K.moved hW.alike hK, hw.2.2.1⟩, hw.2.2.2.1.F ht⟩) hw.2.2.2.1.2.2 dX9_restore_26
  · have r_p1 : RI p1 0 2147483647 := rc_le2 rl_0 r_p1 (ti_nlt c_1) (by decide)
    refine lv_iload_n hx hb dX9_restore_4 rfl (lv_at hl 1 rfl) ?_
    refine lv_aload_n hx hb dX9_restore_5 rfl (lv_at hl 0 rfl) ?_
    refine tg_get (ci := 9) (ts := ty_WP) (C := RX9) (T := TX9) (N := 15) hx hb hts inX9 hown hK hw h_p0 rfl rfl 4 (by decide) (hts _ tw_350) (fun _ h9 => h9) (ft := vR 23) rfl dX9_restore_6 (fun u_1 hv_u_1 m_u_1 => ?_)
    obtain ⟨vu_1, rfl, h_vu_1⟩ := hv_u_1
    refine tg_alenQ (t0 := 5) (v := 2) hx hb hK hw h_vu_1 rfl rfl rfl dX9_restore_9 ?_
    refine lv_icmp_ge (tgt := 25) hx hb dX9_restore_10 (by decide) (fun c_10 => ?_) (fun c_10 => ?_)
    · have r_p1 : RI p1 2 2147483647 := rc_le2 rl_2 r_p1 (ti_le c_10) (by decide)
      refine lv_iconst (v := 0) hx hb dX9_restore_25 (by decide) ?_
      subst hQ
      exact W.zret (v := 0) hx hb hr (rfl) (fun t ht hW => ⟨⟨0, w0, rfl, ⟨⟨rl_0.to (by decide), (fun h0 => trivial), (fun _ => trivial)⟩, hw.1, hw.2.2.2.2.1⟩, by rw [ht]; exact hw.2.1, va_K.moved hW.alike hK, hw.2.2.1⟩, hw.2.2.2.1.F ht⟩) hw.2.2.2.1.2.2 dX9_restore_26
    · have r_p1 : RI p1 0 1 := rc_lt1 r_p1 rl_2 (ti_nle c_10) (by decide)
      refine lv_aload_n hx hb dX9_restore_13 rfl (lv_at hl 0 rfl) ?_
      refine tg_mem (ci := 9) (C := RX9) (T := TX9) (N := 15) hx hb hts inX9 hown hK hw 4 m_u_1 rfl (by decide) (hts _ tw_350) (fun _ h9 => h9) dX9_restore_14 ?_
      refine lv_iload_n hx hb dX9_restore_17 rfl (lv_at hl 1 rfl) ?_
      refine tg_aald (u := 28) hx hb hK hw h_vu_1 rfl rfl 0 1 r_p1 (by decide) (fun _ _ _ => rfl) dX9_restore_18 (fun b_2 h_b_2 => ?_)
      refine tg_getN (ci := 2) (ts := ty_IMAGE) (C := RX2) (T := TX2) (N := 3) hx hb hts inX2 hown hK hw h_b_2 rfl rfl 2 (by decide) (hSD.nest tn_337) (fun _ h9 => h9) (ft := vI 0 1) rfl dX9_restore_19 (fun u_3 hv_u_3 m_u_3 => ?_)
      obtain ⟨vu_3, rfl, r_vu_3⟩ := hv_u_3
      refine lv_if_ne (tgt := 27) hx hb dX9_restore_22 (by decide) (fun c_22 => ?_) (fun c_22 => ?_)
      · have r_vu_3 : RI vu_3 1 1 := rc_neL r_vu_3 rl_0 (ti_ne c_22) (by decide)
        refine lv_aload_n hx hb dX9_restore_27 rfl (lv_at hl 0 rfl) ?_
        refine tg_get (ci := 9) (ts := ty_WP) (C := RX9) (T := TX9) (N := 15) hx hb hts inX9 hown hK hw h_p0 rfl rfl 1 (by decide) (hts _ tw_347) (fun _ h9 => h9) (ft := vR 24) rfl dX9_restore_28 (fun u_4 hv_u_4 m_u_4 => ?_)
        obtain ⟨vu_4, rfl, h_vu_4⟩ := hv_u_4
        refine lv_aload_n hx hb dX9_restore_31 rfl (lv_at hl 0 rfl) ?_
        refine tg_mem (ci := 9) (C := RX9) (T := TX9) (N := 15) hx hb hts inX9 hown hK hw 4 m_u_1 rfl (by decide) (hts _ tw_350) (fun _ h9 => h9) dX9_restore_32 ?_
        refine lv_iload_n hx hb dX9_restore_35 rfl (lv_at hl 1 rfl) ?_
        refine tg_aald (u := 28) hx hb hK hw h_vu_1 rfl rfl 0 1 r_p1 (by decide) (fun _ _ _ => rfl) dX9_restore_36 (fun b_5 h_b_5 => ?_)
        refine tg_getN (ci := 2) (ts := ty_IMAGE) (C := RX2) (T := TX2) (N := 3) hx hb hts inX2 hown hK hw h_b_5 rfl rfl 0 (by decide) (hSD.nest tn_333) (fun _ h9 => h9) (ft := vR 24) rfl dX9_restore_37 (fun u_6 hv_u_6 m_u_6 => ?_)
        obtain ⟨vu_6, rfl, h_vu_6⟩ := hv_u_6
        refine tk_v (va_runV (As := [.ref vu_6]) (rest := []) ⟨hx, hb, hml, hown, hts⟩ (c_X8_takeFrom l D cy z s.heap.size Ps w0 hw.1 vu_4 vu_6 h_vu_4 h_vu_6) (cwV 1 hts (gV tw_521 tw_522 tw_523 tw_12 tw_524) rfl rfl rfl (by decide +kernel) ⟨Nat.le_of_ble_eq_true rfl, Nat.le_of_ble_eq_true rfl⟩) (tg_preV hw hK hSD hA (ci := 8) (q := (RX8, TX8, 13)) rfl h_vu_4 rfl) rfl rfl hl.1 rfl (lv_room (Nat.le_of_ble_eq_true rfl)) dX9_restore_40 ⟨Nat.le_of_ble_eq_true rfl, Nat.le_of_ble_eq_true rfl⟩) hw hA ⟨by decide, by decide⟩ (fun ws H locs hp_v_7 hw hF9 => ?_)
        have m_u_3 := FLD.over hF9 m_u_3 (by decide)
        refine lv_aload_n hx hb dX9_restore_43 rfl (lv_at hl 0 rfl) ?_
        refine lv_aload_n hx hb dX9_restore_44 rfl (lv_at hl 0 rfl) ?_
        refine tg_get (ci := 9) (ts := ty_WP) (C := RX9) (T := TX9) (N := 15) hx hb hts inX9 hown hK hw h_p0 rfl rfl 4 (by decide) (hts _ tw_350) (fun _ h9 => h9) (ft := vR 23) rfl dX9_restore_45 (fun u_8 hv_u_8 m_u_8 => ?_)
        obtain ⟨vu_8, rfl, h_vu_8⟩ := hv_u_8
        refine lv_iload_n hx hb dX9_restore_48 rfl (lv_at hl 1 rfl) ?_
        refine tg_aald (u := 28) hx hb hK hw h_vu_8 rfl rfl 0 1 r_p1 (by decide) (fun _ _ _ => rfl) dX9_restore_49 (fun b_9 h_b_9 => ?_)
        refine tg_getN (ci := 2) (ts := ty_IMAGE) (C := RX2) (T := TX2) (N := 3) hx hb hts inX2 hown hK hw h_b_9 rfl rfl 1 (by decide) (hSD.nest tn_335) (fun _ h9 => h9) (ft := vN 32) rfl dX9_restore_50 (fun u_10 hv_u_10 m_u_10 => ?_)
        rcases hv_u_10 with rfl | ⟨vu_10, rfl, h_vu_10⟩
        · refine tg_put (ci := 9) (ts := ty_WP) (v := .null) (ty := .object "WonderParcels$Sentence") (C := RX9) (T := TX9) (N := 15) hx hb hts inX9 tyX9 tyX9_ok nmX9 hown hK hw h_p0 rfl rfl 5 (by decide) (hts _ tw_351) (fun _ h9 => h9) rfl (by decide +kernel) rfl rfl (ft := vN 32) rfl (Or.inl rfl) (by decide) dX9_restore_53 (fun ws H locs hw n_k_11 hF9 => ?_)
          have m_u_3 := FLD.over hF9 m_u_3 (by decide)
          refine lv_aload_n hx hb dX9_restore_56 rfl (lv_at hl 0 rfl) ?_
          refine tg_get (ci := 9) (ts := ty_WP) (C := RX9) (T := TX9) (N := 15) hx hb hts inX9 hown hK hw h_p0 rfl rfl 3 (by decide) (hts _ tw_349) (fun _ h9 => h9) (ft := vR 27) rfl dX9_restore_57 (fun u_12 hv_u_12 m_u_12 => ?_)
          obtain ⟨vu_12, rfl, h_vu_12⟩ := hv_u_12
          refine tk_v (va_runV (As := []) (rest := []) ⟨hx, hb, hml, hown, hts⟩ (c_X1_forget l D cy z H.size Ps ws hw.1 vu_12 h_vu_12) (cwV 0 hts (gV tw_528 tw_529 tw_530 tw_13 tw_531) rfl rfl rfl (by decide +kernel) ⟨Nat.le_of_ble_eq_true rfl, Nat.le_of_ble_eq_true rfl⟩) (tg_preV hw hK hSD hA (ci := 1) (q := (RX1, TX1, 3)) rfl h_vu_12 rfl) rfl rfl hl.1 rfl (lv_room (Nat.le_of_ble_eq_true rfl)) dX9_restore_60 ⟨Nat.le_of_ble_eq_true rfl, Nat.le_of_ble_eq_true rfl⟩) hw hA ⟨by decide, by decide⟩ (fun ws H locs hp_v_13 hw hF9 => ?_)
          have m_u_3 := FLD.over hF9 m_u_3 (by decide)
          refine lv_iconst (v := 1) hx hb dX9_restore_63 (by decide) ?_
          subst hQ
          exact W.zret (v := 1) hx hb hr (rfl) (fun t ht hW => ⟨⟨1, ws, rfl, ⟨⟨rl_1.to (by decide), (fun _ => trivial), (fun h0 => trivial)⟩, hw.1, hw.2.2.2.2.1⟩, by rw [ht]; exact hw.2.1, va_K.moved hW.alike hK, hw.2.2.1⟩, hw.2.2.2.1.F ht⟩) hw.2.2.2.1.2.2 dX9_restore_64
        · refine tg_put (ci := 9) (ts := ty_WP) (v := .ref vu_10) (ty := .object "WonderParcels$Sentence") (C := RX9) (T := TX9) (N := 15) hx hb hts inX9 tyX9 tyX9_ok nmX9 hown hK hw h_p0 rfl rfl 5 (by decide) (hts _ tw_351) (fun _ h9 => h9) rfl (by decide +kernel) rfl rfl (ft := vN 32) rfl (Or.inr ⟨_, rfl, h_vu_10⟩) (by decide) dX9_restore_53 (fun ws H locs hw n_k_14 hF9 => ?_)
          have m_u_3 := FLD.over hF9 m_u_3 (by decide)
          refine lv_aload_n hx hb dX9_restore_56 rfl (lv_at hl 0 rfl) ?_
          refine tg_get (ci := 9) (ts := ty_WP) (C := RX9) (T := TX9) (N := 15) hx hb hts inX9 hown hK hw h_p0 rfl rfl 3 (by decide) (hts _ tw_349) (fun _ h9 => h9) (ft := vR 27) rfl dX9_restore_57 (fun u_15 hv_u_15 m_u_15 => ?_)
          obtain ⟨vu_15, rfl, h_vu_15⟩ := hv_u_15
          refine tk_v (va_runV (As := []) (rest := []) ⟨hx, hb, hml, hown, hts⟩ (c_X1_forget l D cy z H.size Ps ws hw.1 vu_15 h_vu_15) (cwV 0 hts (gV tw_528 tw_529 tw_530 tw_13 tw_531) rfl rfl rfl (by decide +kernel) ⟨Nat.le_of_ble_eq_true rfl, Nat.le_of_ble_eq_true rfl⟩) (tg_preV hw hK hSD hA (ci := 1) (q := (RX1, TX1, 3)) rfl h_vu_15 rfl) rfl rfl hl.1 rfl (lv_room (Nat.le_of_ble_eq_true rfl)) dX9_restore_60 ⟨Nat.le_of_ble_eq_true rfl, Nat.le_of_ble_eq_true rfl⟩) hw hA ⟨by decide, by decide⟩ (fun ws H locs hp_v_16 hw hF9 => ?_)
          have m_u_3 := FLD.over hF9 m_u_3 (by decide)
          refine lv_iconst (v := 1) hx hb dX9_restore_63 (by decide) ?_
          subst hQ
          exact W.zret (v := 1) hx hb hr (rfl) (fun t ht hW => ⟨⟨1, ws, rfl, ⟨⟨rl_1.to (by decide), (fun _ => trivial), (fun h0 => trivial)⟩, hw.1, hw.2.2.2.2.1⟩, by rw [ht]; exact hw.2.1, va_K.moved hW.alike hK, hw.2.2.1⟩, hw.2.2.2.1.F ht⟩) hw.2.2.2.1.2.2 dX9_restore_64
      · have r_vu_3 : RI vu_3 0 0 := rc_eq1 r_vu_3 rl_0 (ti_eq c_22) (by decide)
        refine lv_iconst (v := 0) hx hb dX9_restore_25 (by decide) ?_
        subst hQ
        exact W.zret (v := 0) hx hb hr (rfl) (fun t ht hW => ⟨⟨0, w0, rfl, ⟨⟨rl_0.to (by decide), (fun h0 => trivial), (fun _ => trivial)⟩, hw.1, hw.2.2.2.2.1⟩, by rw [ht]; exact hw.2.1, va_K.moved hW.alike hK, hw.2.2.1⟩, hw.2.2.2.1.F ht⟩) hw.2.2.2.1.2.2 dX9_restore_26
abbrev wr_X9_roomOf : List (Nat × Nat) := []
abbrev wa_X9_roomOf : List Nat := []
set_option maxHeartbeats 4000000 in
set_option maxRecDepth 100000 in
theorem c_X9_roomOf (l : Launch) (D : va_G) (cy : Nat → ClassId) (z : Nat → Nat) (sz : Nat) (Ps : PSI) (w0 : va_W) (hT : HT cy GG Ps w0) (p0 : Nat) (p1 : Int32) (h_p0 : (p0, 33) ∈ Ps) (r_p1 : RI p1 (-2147483648) 2147483647) : Met l yX9_roomOf (Cond.code yX9_roomOf cX9_roomOf 2 (some .int) :: gT) ({ frames := 0, cells := 0, slots := 0, locals := 200 } : Room) (va_Pc [.ref p0, .int p1] (PRE D cy z w0 sz)) (va_Qi (fun (r : Int32) (u : Unit) => RI r (-2147483648) 2147483647 ∧ (r = 0 → True) ∧ (¬ r = 0 → True)) (BB D cy (va_A w0 sz) (fun (u : Unit) => w0)) (va_A w0 sz)) 0 0 (va_A w0 sz) := by
  refine Met.ofW (cc := cX9_roomOf) (maxL := 2) (ret := (some .int)) (by decide) rfl ?_
  intro p e s m args below meth c s₁ B hml hv
  obtain ⟨rfl, hsz, hP, hK, hD0, hSD⟩ := hv
  have hx := B.exec
  have hb := B.bytes
  have hr := B.returns
  have hlocks := B.notSynchronized
  have hts : ∀ w ∈ gT, w.before _ s = true := fun w h => atoms_spec (ws := Cond.code yX9_roomOf cX9_roomOf 2 (some .int) :: gT) B.pre w (List.mem_cons_of_mem _ h)
  have hown : s.vm.findClass RX9 = some m.cls := findClass_of_methodNamed B.named
  subst hsz
  have hD := hD0.self (sz := s.heap.size)
  generalize hAe : va_A w0 s.heap.size = A at hD hSD ⊢
  have hA : ∀ q : Nat, s.heap.size ≤ q → A q := fun q h => by rw [← hAe]; exact Or.inr h
  have hl := lv_entry ([.ref p0, .int p1]) (n := 2) (Nat.le_of_ble_eq_true rfl)
  rw [lg_entry_eq]
  generalize (lg_sl ([.ref p0, .int p1]) ++ List.replicate (2 - (lg_sl ([.ref p0, .int p1])).length) Slot.unset).toArray = ls at hl ⊢
  have hl : lv_has ls 2 [(0, .ref p0), (1, .int p1)] := hl
  refine nameQ (fun Q hQ => ?_)
  have hw : WD D cy GG A s wr_X9_roomOf wa_X9_roomOf Ps w0 Ps w0 s.heap [] := ⟨hT, hP, hD, va_S.rf, FR.rf, hT.1, [], (List.append_nil _).symm⟩
  refine lv_iload_n hx hb dX9_roomOf_0 rfl (lv_at hl 1 rfl) ?_
  refine lv_if_lt (tgt := 22) hx hb dX9_roomOf_1 (by decide) (fun c_1 => ?_) (fun c_1 => ?_)
  · have r_p1 : RI p1 (-2147483648) (-1) := rc_lt1 r_p1 rl_0 (ti_lt c_1) (by decide)
    refine lv_iconst (v := (-1)) hx hb dX9_roomOf_22 (by decide) ?_
    subst hQ
    exact W.iret (v := (-1)) hx hb hr (fun t ht hW => ⟨⟨(-1), (), rfl, ⟨rl_m1.to (by decide), (fun _ => trivial), (fun h0 => trivial)⟩, by rw [ht]; exact hw.2.1, va_K.moved hW.alike hK, hw.2.2.1⟩, hw.2.2.2.1.F ht⟩) hw.2.2.2.1.2.2 dX9_roomOf_23
  · have r_p1 : RI p1 0 2147483647 := rc_le2 rl_0 r_p1 (ti_nlt c_1) (by decide)
    refine lv_iload_n hx hb dX9_roomOf_4 rfl (lv_at hl 1 rfl) ?_
    refine lv_bipush (v := 6) hx hb dX9_roomOf_5 (by decide) ?_
    refine lv_icmp_ge (tgt := 22) hx hb dX9_roomOf_7 (by decide) (fun c_7 => ?_) (fun c_7 => ?_)
    · have r_p1 : RI p1 6 2147483647 := rc_le2 rl_6 r_p1 (ti_le c_7) (by decide)
      refine lv_iconst (v := (-1)) hx hb dX9_roomOf_22 (by decide) ?_
      subst hQ
      exact W.iret (v := (-1)) hx hb hr (fun t ht hW => ⟨⟨(-1), (), rfl, ⟨rl_m1.to (by decide), (fun _ => trivial), (fun h0 => trivial)⟩, by rw [ht]; exact hw.2.1, va_K.moved hW.alike hK, hw.2.2.1⟩, hw.2.2.2.1.F ht⟩) hw.2.2.2.1.2.2 dX9_roomOf_23
    · have r_p1 : RI p1 0 5 := rc_lt1 r_p1 rl_6 (ti_nle c_7) (by decide)
      refine lv_aload_n hx hb dX9_roomOf_10 rfl (lv_at hl 0 rfl) ?_
      refine tg_get (ci := 9) (ts := ty_WP) (C := RX9) (T := TX9) (N := 15) hx hb hts inX9 hown hK hw h_p0 rfl rfl 8 (by decide) (hts _ tw_354) (fun _ h9 => h9) (ft := vR 29) rfl dX9_roomOf_11 (fun u_1 hv_u_1 m_u_1 => ?_)
      obtain ⟨vu_1, rfl, h_vu_1⟩ := hv_u_1
      refine tg_getN (ci := 4) (ts := ty_ROOMS) (C := RX4) (T := TX4) (N := 2) hx hb hts inX4 hown hK hw h_vu_1 rfl rfl 1 (by decide) (hSD.nest tn_171) (fun _ h9 => h9) (ft := vR 17) rfl dX9_roomOf_14 (fun u_2 hv_u_2 m_u_2 => ?_)
      obtain ⟨vu_2, rfl, h_vu_2⟩ := hv_u_2
      refine lv_iload_n hx hb dX9_roomOf_17 rfl (lv_at hl 1 rfl) ?_
      refine tg_iald (lo := (-2147483648)) (hi := 2147483647) hx hb hK hw h_vu_2 rfl 0 5 r_p1 (by decide) (by exact fun _ _ _ => ⟨Int.le_refl _, Int.le_refl _⟩) dX9_roomOf_18 (fun v_3 r_v_3 m_v_3 o_v_3 => ?_)
      refine lv_goto (tgt := 23) hx hb dX9_roomOf_19 (by decide) ?_
      subst hQ
      exact W.iret (v := v_3) hx hb hr (fun t ht hW => ⟨⟨v_3, (), rfl, ⟨r_v_3.to (by decide), (fun h0 => trivial), (fun h0 => trivial)⟩, by rw [ht]; exact hw.2.1, va_K.moved hW.alike hK, hw.2.2.1⟩, hw.2.2.2.1.F ht⟩) hw.2.2.2.1.2.2 dX9_roomOf_23
abbrev wr_X9_rooms : List (Nat × Nat) := []
abbrev wa_X9_rooms : List Nat := [16, 17]
set_option maxHeartbeats 4000000 in
set_option maxRecDepth 100000 in
theorem c_X9_rooms (l : Launch) (D : va_G) (cy : Nat → ClassId) (z : Nat → Nat) (sz : Nat) (Ps : PSI) (w0 : va_W) (hT : HT cy GG Ps w0) (p0 : Nat) (h_p0 : (p0, 33) ∈ Ps) : Met l yX9_rooms (Cond.code yX9_rooms cX9_rooms 1 (some .int) :: gT) ({ frames := 10, cells := 0, slots := 0, locals := 2000 } : Room) (va_Pc [.ref p0] (PRE D cy z w0 sz)) (va_Qi (fun (r : Int32) (u : va_W) => (RI r 0 6 ∧ (r = 0 → True) ∧ (¬ r = 0 → True)) ∧ HT cy GG Ps u ∧ FR wr_X9_rooms wa_X9_rooms Ps w0 u) (BB D cy (va_A w0 sz) (fun (u : va_W) => u)) (va_A w0 sz)) 0 0 (va_A w0 sz) := by
  refine Met.ofW (cc := cX9_rooms) (maxL := 1) (ret := (some .int)) (by decide) rfl ?_
  intro p e s m args below meth c s₁ B hml hv
  obtain ⟨rfl, hsz, hP, hK, hD0, hSD⟩ := hv
  have hx := B.exec
  have hb := B.bytes
  have hr := B.returns
  have hlocks := B.notSynchronized
  have hts : ∀ w ∈ gT, w.before _ s = true := fun w h => atoms_spec (ws := Cond.code yX9_rooms cX9_rooms 1 (some .int) :: gT) B.pre w (List.mem_cons_of_mem _ h)
  have hown : s.vm.findClass RX9 = some m.cls := findClass_of_methodNamed B.named
  subst hsz
  have hD := hD0.self (sz := s.heap.size)
  generalize hAe : va_A w0 s.heap.size = A at hD hSD ⊢
  have hA : ∀ q : Nat, s.heap.size ≤ q → A q := fun q h => by rw [← hAe]; exact Or.inr h
  have hl := lv_entry ([.ref p0]) (n := 1) (Nat.le_of_ble_eq_true rfl)
  rw [lg_entry_eq]
  generalize (lg_sl ([.ref p0]) ++ List.replicate (1 - (lg_sl ([.ref p0])).length) Slot.unset).toArray = ls at hl ⊢
  have hl : lv_has ls 1 [(0, .ref p0)] := hl
  refine nameQ (fun Q hQ => ?_)
  have hw : WD D cy GG A s wr_X9_rooms wa_X9_rooms Ps w0 Ps w0 s.heap [] := ⟨hT, hP, hD, va_S.rf, FR.rf, hT.1, [], (List.append_nil _).symm⟩
  refine lv_aload_n hx hb dX9_rooms_0 rfl (lv_at hl 0 rfl) ?_
  refine tg_get (ci := 9) (ts := ty_WP) (C := RX9) (T := TX9) (N := 15) hx hb hts inX9 hown hK hw h_p0 rfl rfl 8 (by decide) (hts _ tw_354) (fun _ h9 => h9) (ft := vR 29) rfl dX9_rooms_1 (fun u_1 hv_u_1 m_u_1 => ?_)
  obtain ⟨vu_1, rfl, h_vu_1⟩ := hv_u_1
  refine lv_aload_n hx hb dX9_rooms_4 rfl (lv_at hl 0 rfl) ?_
  refine tg_get (ci := 9) (ts := ty_WP) (C := RX9) (T := TX9) (N := 15) hx hb hts inX9 hown hK hw h_p0 rfl rfl 1 (by decide) (hts _ tw_347) (fun _ h9 => h9) (ft := vR 24) rfl dX9_rooms_5 (fun u_2 hv_u_2 m_u_2 => ?_)
  obtain ⟨vu_2, rfl, h_vu_2⟩ := hv_u_2
  refine tk_i (va_runV (As := [.ref vu_2]) (rest := []) ⟨hx, hb, hml, hown, hts⟩ (c_X4_fewestFor l D cy z s.heap.size Ps w0 hw.1 vu_1 vu_2 h_vu_1 h_vu_2) (cwV 1 hts (gV tw_789 tw_790 tw_791 tw_8 tw_792) rfl rfl rfl (by decide +kernel) ⟨Nat.le_of_ble_eq_true rfl, Nat.le_of_ble_eq_true rfl⟩) (tg_preV hw hK hSD hA (ci := 4) (q := (RX4, TX4, 2)) rfl h_vu_1 rfl) rfl rfl hl.1 rfl (lv_room (Nat.le_of_ble_eq_true rfl)) dX9_rooms_8 ⟨Nat.le_of_ble_eq_true rfl, Nat.le_of_ble_eq_true rfl⟩) hw hA ⟨by decide, by decide⟩ (fun v_3 ws H locs hp_v_3 hw hF9 => ?_)
  have r_v_3 : RI v_3 0 6 := hp_v_3.1
  subst hQ
  exact W.iret (v := v_3) hx hb hr (fun t ht hW => ⟨⟨v_3, ws, rfl, ⟨⟨r_v_3.to (by decide), (fun h0 => trivial), (fun h0 => trivial)⟩, hw.1, hw.2.2.2.2.1⟩, by rw [ht]; exact hw.2.1, va_K.moved hW.alike hK, hw.2.2.1⟩, hw.2.2.2.1.F ht⟩) hw.2.2.2.1.2.2 dX9_rooms_11
abbrev wr_X9_said : List (Nat × Nat) := []
abbrev wa_X9_said : List Nat := []
set_option maxHeartbeats 4000000 in
set_option maxRecDepth 100000 in
theorem c_X9_said (l : Launch) (D : va_G) (cy : Nat → ClassId) (z : Nat → Nat) (sz : Nat) (Ps : PSI) (w0 : va_W) (hT : HT cy GG Ps w0) (p0 : Nat) (p1 : Int32) (h_p0 : (p0, 33) ∈ Ps) (r_p1 : RI p1 (-2147483648) 2147483647) : Met l yX9_said (Cond.code yX9_said cX9_said 5 (some .int) :: gT) ({ frames := 6, cells := 0, slots := 0, locals := 1200 } : Room) (va_Pc [.ref p0, .int p1] (PRE D cy z w0 sz)) (va_Qi (fun (r : Int32) (u : Unit) => RI r (-2147483648) 2147483647 ∧ (r = 0 → True) ∧ (¬ r = 0 → True)) (BB D cy (va_A w0 sz) (fun (u : Unit) => w0)) (va_A w0 sz)) 0 0 (va_A w0 sz) := by
  refine Met.ofW (cc := cX9_said) (maxL := 5) (ret := (some .int)) (by decide) rfl ?_
  intro p e s m args below meth c s₁ B hml hv
  obtain ⟨rfl, hsz, hP, hK, hD0, hSD⟩ := hv
  have hx := B.exec
  have hb := B.bytes
  have hr := B.returns
  have hlocks := B.notSynchronized
  have hts : ∀ w ∈ gT, w.before _ s = true := fun w h => atoms_spec (ws := Cond.code yX9_said cX9_said 5 (some .int) :: gT) B.pre w (List.mem_cons_of_mem _ h)
  have hown : s.vm.findClass RX9 = some m.cls := findClass_of_methodNamed B.named
  subst hsz
  have hD := hD0.self (sz := s.heap.size)
  generalize hAe : va_A w0 s.heap.size = A at hD hSD ⊢
  have hA : ∀ q : Nat, s.heap.size ≤ q → A q := fun q h => by rw [← hAe]; exact Or.inr h
  have hl := lv_entry ([.ref p0, .int p1]) (n := 5) (Nat.le_of_ble_eq_true rfl)
  rw [lg_entry_eq]
  generalize (lg_sl ([.ref p0, .int p1]) ++ List.replicate (5 - (lg_sl ([.ref p0, .int p1])).length) Slot.unset).toArray = ls at hl ⊢
  have hl : lv_has ls 5 [(0, .ref p0), (1, .int p1)] := hl
  refine nameQ (fun Q hQ => ?_)
  have hw : WD D cy GG A s wr_X9_said wa_X9_said Ps w0 Ps w0 s.heap [] := ⟨hT, hP, hD, va_S.rf, FR.rf, hT.1, [], (List.append_nil _).symm⟩
  have B21 : ∀ (nf : Nat) (x2 : Nat) (x3 : Int32) (x4 : Int32) (H : Heap) (locs : List Loc) (ls : Array Slot), 6 - x4.toInt < (nf : Int) → RI p1 (-1) 2147483647 → (x2, 32) ∈ Ps → RI x3 (-2147483648) 2147483647 → RI x4 0 6 → WD D cy GG A s wr_X9_said wa_X9_said Ps w0 Ps w0 H locs → lv_has ls 5 [(0, .ref p0), (1, .int p1), (2, .ref x2), (3, .int x3), (4, .int x4)] → W p l e (headSpec (Cond.code yX9_said cX9_said 5 (some .int) :: gT) ({ frames := 6, cells := 0, slots := 0, locals := 1200 } : Room)).room s m ([.ref p0, .int p1] : List Value).toArray below meth c H locs 0 0 Q (F0 m 21 ls []) := by
    intro nf21
    induction nf21 with
    | zero =>
      intro x2 x3 x4 H locs ls hn21 r_p1 h_x2 r_x3 r_x4 hw hl
      exact absurd hn21 (by have q0 := r_x4.1; have u0 := r_x4.2; omega)
    | succ nf21 ih21 =>
      intro x2 x3 x4 H locs ls hn21 r_p1 h_x2 r_x3 r_x4 hw hl
      refine lv_iload hx hb dX9_said_21 (lv_at hl 4 rfl) ?_
      refine lv_aload_n hx hb dX9_said_23 rfl (lv_at hl 0 rfl) ?_
      refine tg_get (ci := 9) (ts := ty_WP) (C := RX9) (T := TX9) (N := 15) hx hb hts inX9 hown hK hw h_p0 rfl rfl 1 (by decide) (hts _ tw_347) (fun _ h9 => h9) (ft := vR 24) rfl dX9_said_24 (fun u_1 hv_u_1 m_u_1 => ?_)
      obtain ⟨vu_1, rfl, h_vu_1⟩ := hv_u_1
      refine tg_getN (ci := 8) (ts := ty_WORLD) (C := RX8) (T := TX8) (N := 13) hx hb hts inX8 hown hK hw h_vu_1 rfl rfl 0 (by decide) (hSD.nest tn_249) (fun _ h9 => h9) (ft := vR 25) rfl dX9_said_27 (fun u_2 hv_u_2 m_u_2 => ?_)
      obtain ⟨vu_2, rfl, h_vu_2⟩ := hv_u_2
      refine tg_getN (ci := 3) (ts := ty_POST) (C := RX3) (T := TX3) (N := 9) hx hb hts inX3 hown hK hw h_vu_2 rfl rfl 1 (by decide) (hSD.nest tn_204) (fun _ h9 => h9) (ft := vR 4) rfl dX9_said_30 (fun u_3 hv_u_3 m_u_3 => ?_)
      obtain ⟨vu_3, rfl, h_vu_3⟩ := hv_u_3
      refine lv_iconst (v := 2) hx hb dX9_said_33 (by decide) ?_
      refine tg_iald (lo := 0) (hi := 6) hx hb hK hw h_vu_3 rfl 2 2 rl_2 (by decide) (by decide +kernel) dX9_said_34 (fun v_4 r_v_4 m_v_4 o_v_4 => ?_)
      refine lv_icmp_ge (tgt := 68) hx hb dX9_said_35 (by decide) (fun c_35 => ?_) (fun c_35 => ?_)
      · refine lv_iload_n hx hb dX9_said_68 rfl (lv_at hl 1 rfl) ?_
        refine lv_iconst (v := (-1)) hx hb dX9_said_69 (by decide) ?_
        refine lv_icmp_ne (tgt := 77) hx hb dX9_said_70 (by decide) (fun c_70 => ?_) (fun c_70 => ?_)
        · have r_p1 : RI p1 0 2147483647 := rc_neL r_p1 rl_m1 (ti_ne c_70) (by decide)
          refine lv_iconst (v := (-1)) hx hb dX9_said_77 (by decide) ?_
          subst hQ
          exact W.iret (v := (-1)) hx hb hr (fun t ht hW => ⟨⟨(-1), (), rfl, ⟨rl_m1.to (by decide), (fun _ => trivial), (fun h0 => trivial)⟩, by rw [ht]; exact hw.2.1, va_K.moved hW.alike hK, hw.2.2.1⟩, hw.2.2.2.1.F ht⟩) hw.2.2.2.1.2.2 dX9_said_78
        · have r_p1 : RI p1 (-1) (-1) := rc_eq1 r_p1 rl_m1 (ti_eq c_70) (by decide)
          refine lv_iload_n hx hb dX9_said_73 rfl (lv_at hl 3 rfl) ?_
          refine lv_goto (tgt := 78) hx hb dX9_said_74 (by decide) ?_
          subst hQ
          exact W.iret (v := x3) hx hb hr (fun t ht hW => ⟨⟨x3, (), rfl, ⟨r_x3.to (by decide), (fun h0 => trivial), (fun h0 => trivial)⟩, by rw [ht]; exact hw.2.1, va_K.moved hW.alike hK, hw.2.2.1⟩, hw.2.2.2.1.F ht⟩) hw.2.2.2.1.2.2 dX9_said_78
      · have r_x4 : RI x4 0 5 := rc_lt1 r_x4 r_v_4 (ti_nle c_35) (by decide)
        have r_v_4 : RI v_4 1 6 := rc_lt2 r_x4 r_v_4 (ti_nle c_35) (by decide)
        refine lv_aload_n hx hb dX9_said_38 rfl (lv_at hl 2 rfl) ?_
        refine lv_aload_n hx hb dX9_said_39 rfl (lv_at hl 0 rfl) ?_
        refine tg_mem (ci := 9) (C := RX9) (T := TX9) (N := 15) hx hb hts inX9 hown hK hw 1 m_u_1 rfl (by decide) (hts _ tw_347) (fun _ h9 => h9) dX9_said_40 ?_
        refine lv_iload hx hb dX9_said_43 (lv_at hl 4 rfl) ?_
        refine tk_ir (va_runV (As := [.ref vu_1, .int x4]) (rest := []) ⟨hx, hb, hml, hown, hts⟩ (c_X5_holdsOf l D cy z H.size Ps w0 hw.1 x2 vu_1 x4 h_x2 h_vu_1 r_x4) (cwV 2 hts (gV tw_1003 tw_1004 tw_1005 tw_23 tw_1006) rfl rfl rfl (by decide +kernel) ⟨Nat.le_of_ble_eq_true rfl, Nat.le_of_ble_eq_true rfl⟩) (tg_preV hw hK hSD hA (ci := 5) (q := (RX5, TX5, 5)) rfl h_x2 rfl) rfl rfl hl.1 rfl (lv_room (Nat.le_of_ble_eq_true rfl)) dX9_said_45 ⟨Nat.le_of_ble_eq_true rfl, Nat.le_of_ble_eq_true rfl⟩) hw hA (fun v_5  H locs hp_v_5 hw => ?_)
        have r_v_5 : RI v_5 0 1 := hp_v_5.1
        refine lv_if_eq (tgt := 62) hx hb dX9_said_48 (by decide) (fun c_48 => ?_) (fun c_48 => ?_)
        · have r_v_5 : RI v_5 0 0 := rc_eq1 r_v_5 rl_0 (ti_eq c_48) (by decide)
          obtain ⟨v_6, e_v_6⟩ : ∃ q9 : Int32, q9 = x4 + Int32.ofInt 1 := ⟨_, rfl⟩
          obtain ⟨t_v_6, r_v_6⟩ := tq_add (lo := 1) (hi := 6) r_x4 (show RI (Int32.ofInt 1) 1 1 by unfold RI; decide +kernel) (by decide +kernel) e_v_6
          have t_v_6 : v_6.toInt = x4.toInt + 1 := t_v_6
          refine lv_iinc (v := v_6) (lv' := [(4, .int v_6), (0, .ref p0), (1, .int p1), (2, .ref x2), (3, .int x3)]) hx hb dX9_said_62 hl (k := 4) rfl e_v_6.symm (by decide) rfl (fun ls hl => ?_)
          refine lv_goto (tgt := 21) hx hb dX9_said_65 (by decide) ?_
          exact ih21 x2 x3 v_6 _ _ ls (by have q0 := r_v_6.1; have u0 := r_v_6.2; have o0 := r_x4.1; have p0 := r_x4.2; omega) r_p1 h_x2 r_x3 (r_v_6.to (by decide)) hw (lv_sub hl [1, 2, 3, 4, 0] rfl)
        · have r_v_5 : RI v_5 1 1 := rc_neL r_v_5 rl_0 (ti_ne c_48) (by decide)
          refine lv_iload_n hx hb dX9_said_51 rfl (lv_at hl 3 rfl) ?_
          refine lv_iload_n hx hb dX9_said_52 rfl (lv_at hl 1 rfl) ?_
          refine lv_icmp_ne (tgt := 59) hx hb dX9_said_53 (by decide) (fun c_53 => ?_) (fun c_53 => ?_)
          · obtain ⟨v_7, e_v_7⟩ : ∃ q9 : Int32, q9 = x3 + Int32.ofInt 1 := ⟨_, rfl⟩
            have r_v_7 := ri_any v_7
            refine lv_iinc (v := v_7) (lv' := [(3, .int v_7), (0, .ref p0), (1, .int p1), (2, .ref x2), (4, .int x4)]) hx hb dX9_said_59 hl (k := 3) rfl e_v_7.symm (by decide) rfl (fun ls hl => ?_)
            obtain ⟨v_8, e_v_8⟩ : ∃ q9 : Int32, q9 = x4 + Int32.ofInt 1 := ⟨_, rfl⟩
            obtain ⟨t_v_8, r_v_8⟩ := tq_add (lo := 1) (hi := 6) r_x4 (show RI (Int32.ofInt 1) 1 1 by unfold RI; decide +kernel) (by decide +kernel) e_v_8
            have t_v_8 : v_8.toInt = x4.toInt + 1 := t_v_8
            refine lv_iinc (v := v_8) (lv' := [(4, .int v_8), (3, .int v_7), (0, .ref p0), (1, .int p1), (2, .ref x2)]) hx hb dX9_said_62 hl (k := 4) rfl e_v_8.symm (by decide) rfl (fun ls hl => ?_)
            refine lv_goto (tgt := 21) hx hb dX9_said_65 (by decide) ?_
            exact ih21 x2 v_7 v_8 _ _ ls (by have q0 := r_v_8.1; have u0 := r_v_8.2; have o0 := r_x4.1; have p0 := r_x4.2; omega) r_p1 h_x2 r_v_7 (r_v_8.to (by decide)) hw (lv_sub hl [2, 3, 4, 1, 0] rfl)
          · have r_x3 : RI x3 (-1) 2147483647 := rc_eq1 r_x3 r_p1 (ti_eq c_53) (by decide)
            refine lv_iload hx hb dX9_said_56 (lv_at hl 4 rfl) ?_
            subst hQ
            exact W.iret (v := x4) hx hb hr (fun t ht hW => ⟨⟨x4, (), rfl, ⟨r_x4.to (by decide), (fun h0 => trivial), (fun h0 => trivial)⟩, by rw [ht]; exact hw.2.1, va_K.moved hW.alike hK, hw.2.2.1⟩, hw.2.2.2.1.F ht⟩) hw.2.2.2.1.2.2 dX9_said_58
  refine lv_aload_n hx hb dX9_said_0 rfl (lv_at hl 0 rfl) ?_
  refine tg_get (ci := 9) (ts := ty_WP) (C := RX9) (T := TX9) (N := 15) hx hb hts inX9 hown hK hw h_p0 rfl rfl 5 (by decide) (hts _ tw_351) (fun _ h9 => h9) (ft := vN 32) rfl dX9_said_1 (fun u_9 hv_u_9 m_u_9 => ?_)
  rcases hv_u_9 with rfl | ⟨vu_9, rfl, h_vu_9⟩
  · refine lv_astore_nN (lv' := [(2, .null), (0, .ref p0), (1, .int p1)]) hx hb dX9_said_4 rfl hl (by decide) rfl (fun ls hl => ?_)
    refine lv_aload_nN hx hb dX9_said_5 rfl (lv_at hl 0 rfl) ?_
    refine lv_ifnullN (tgt := 14) hx hb dX9_said_6 (by decide) ?_
    refine lv_iconst (v := (-1)) hx hb dX9_said_14 (by decide) ?_
    subst hQ
    exact W.iret (v := (-1)) hx hb hr (fun t ht hW => ⟨⟨(-1), (), rfl, ⟨rl_m1.to (by decide), (fun _ => trivial), (fun h0 => trivial)⟩, by rw [ht]; exact hw.2.1, va_K.moved hW.alike hK, hw.2.2.1⟩, hw.2.2.2.1.F ht⟩) hw.2.2.2.1.2.2 dX9_said_15
  · refine lv_astore_n (lv' := [(2, .ref vu_9), (0, .ref p0), (1, .int p1)]) hx hb dX9_said_4 rfl hl (by decide) rfl (fun ls hl => ?_)
    refine lv_aload_n hx hb dX9_said_5 rfl (lv_at hl 0 rfl) ?_
    refine lv_ifnull hx hb dX9_said_6 ?_
    refine lv_iload_n hx hb dX9_said_9 rfl (lv_at hl 2 rfl) ?_
    refine lv_iconst (v := (-1)) hx hb dX9_said_10 (by decide) ?_
    refine lv_icmp_ge (tgt := 16) hx hb dX9_said_11 (by decide) (fun c_11 => ?_) (fun c_11 => ?_)
    · have r_p1 : RI p1 (-1) 2147483647 := rc_le2 rl_m1 r_p1 (ti_le c_11) (by decide)
      refine lv_iconst (v := 0) hx hb dX9_said_16 (by decide) ?_
      refine lv_istore_n (lv' := [(3, .int 0), (2, .ref vu_9), (0, .ref p0), (1, .int p1)]) hx hb dX9_said_17 rfl hl (by decide) rfl (fun ls hl => ?_)
      refine lv_iconst (v := 0) hx hb dX9_said_18 (by decide) ?_
      refine lv_istore (lv' := [(4, .int 0), (3, .int 0), (2, .ref vu_9), (0, .ref p0), (1, .int p1)]) hx hb dX9_said_19 hl (by decide) rfl (fun ls hl => ?_)
      exact B21 4294967298 vu_9 0 0 _ _ ls (by have q0 := rl_0.1; have u0 := rl_0.2; omega) r_p1 h_vu_9 (rl_0.to (by decide)) (rl_0.to (by decide)) hw (lv_sub hl [3, 4, 2, 1, 0] rfl)
    · have r_p1 : RI p1 (-2147483648) (-2) := rc_lt1 r_p1 rl_m1 (ti_nle c_11) (by decide)
      refine lv_iconst (v := (-1)) hx hb dX9_said_14 (by decide) ?_
      subst hQ
      exact W.iret (v := (-1)) hx hb hr (fun t ht hW => ⟨⟨(-1), (), rfl, ⟨rl_m1.to (by decide), (fun _ => trivial), (fun h0 => trivial)⟩, by rw [ht]; exact hw.2.1, va_K.moved hW.alike hK, hw.2.2.1⟩, hw.2.2.2.1.F ht⟩) hw.2.2.2.1.2.2 dX9_said_15
abbrev wr_X9_sit : List (Nat × Nat) := [(1, 1), (1, 2), (8, 0), (8, 1)]
abbrev wa_X9_sit : List Nat := [8, 9, 10, 11, 12, 13]
set_option maxHeartbeats 4000000 in
set_option maxRecDepth 100000 in
theorem c_X9_sit (l : Launch) (D : va_G) (cy : Nat → ClassId) (z : Nat → Nat) (sz : Nat) (Ps : PSI) (w0 : va_W) (hT : HT cy GG Ps w0) (p0 : Nat) (p1 : Int32) (p2 : Int32) (h_p0 : (p0, 33) ∈ Ps) (r_p1 : RI p1 (-2147483648) 2147483647) (r_p2 : RI p2 (-2147483648) 2147483647) : Met l yX9_sit (Cond.code yX9_sit cX9_sit 3 (some .int) :: gT) ({ frames := 4, cells := 0, slots := 0, locals := 800 } : Room) (va_Pc [.ref p0, .int p1, .int p2] (PRE D cy z w0 sz)) (va_Qi (fun (r : Int32) (u : va_W) => (RI r (-2147483648) 2147483647 ∧ (r = 0 → True) ∧ (¬ r = 0 → True)) ∧ HT cy GG Ps u ∧ FR wr_X9_sit wa_X9_sit Ps w0 u) (BB D cy (va_A w0 sz) (fun (u : va_W) => u)) (va_A w0 sz)) 0 0 (va_A w0 sz) := by
  refine Met.ofW (cc := cX9_sit) (maxL := 3) (ret := (some .int)) (by decide) rfl ?_
  intro p e s m args below meth c s₁ B hml hv
  obtain ⟨rfl, hsz, hP, hK, hD0, hSD⟩ := hv
  have hx := B.exec
  have hb := B.bytes
  have hr := B.returns
  have hlocks := B.notSynchronized
  have hts : ∀ w ∈ gT, w.before _ s = true := fun w h => atoms_spec (ws := Cond.code yX9_sit cX9_sit 3 (some .int) :: gT) B.pre w (List.mem_cons_of_mem _ h)
  have hown : s.vm.findClass RX9 = some m.cls := findClass_of_methodNamed B.named
  subst hsz
  have hD := hD0.self (sz := s.heap.size)
  generalize hAe : va_A w0 s.heap.size = A at hD hSD ⊢
  have hA : ∀ q : Nat, s.heap.size ≤ q → A q := fun q h => by rw [← hAe]; exact Or.inr h
  have hl := lv_entry ([.ref p0, .int p1, .int p2]) (n := 3) (Nat.le_of_ble_eq_true rfl)
  rw [lg_entry_eq]
  generalize (lg_sl ([.ref p0, .int p1, .int p2]) ++ List.replicate (3 - (lg_sl ([.ref p0, .int p1, .int p2])).length) Slot.unset).toArray = ls at hl ⊢
  have hl : lv_has ls 3 [(0, .ref p0), (1, .int p1), (2, .int p2)] := hl
  refine nameQ (fun Q hQ => ?_)
  have hw : WD D cy GG A s wr_X9_sit wa_X9_sit Ps w0 Ps w0 s.heap [] := ⟨hT, hP, hD, va_S.rf, FR.rf, hT.1, [], (List.append_nil _).symm⟩
  refine lv_aload_n hx hb dX9_sit_0 rfl (lv_at hl 0 rfl) ?_
  refine lv_iconst (v := 3) hx hb dX9_sit_1 (by decide) ?_
  refine lv_iload_n hx hb dX9_sit_2 rfl (lv_at hl 1 rfl) ?_
  refine tk_ir (va_runV (As := [.int 3, .int p1]) (rest := []) ⟨hx, hb, hml, hown, hts⟩ (c_X9_isOf__2 l D cy z s.heap.size Ps w0 hw.1 p0 3 p1 h_p0 rl_3 r_p1) (cwV 2 hts (gV tw_540 tw_542 ts_10 tw_1 tw_543) rfl rfl rfl (by decide +kernel) ⟨Nat.le_of_ble_eq_true rfl, Nat.le_of_ble_eq_true rfl⟩) (tg_preV hw hK hSD hA (ci := 9) (q := (RX9, TX9, 15)) rfl h_p0 rfl) rfl rfl hl.1 rfl (lv_room (Nat.le_of_ble_eq_true rfl)) dX9_sit_3 ⟨Nat.le_of_ble_eq_true rfl, Nat.le_of_ble_eq_true rfl⟩) hw hA (fun v_1  H locs hp_v_1 hw => ?_)
  have r_v_1 : RI v_1 0 1 := hp_v_1.1
  refine lv_if_eq (tgt := 18) hx hb dX9_sit_6 (by decide) (fun c_6 => ?_) (fun c_6 => ?_)
  · have r_v_1 : RI v_1 0 0 := rc_eq1 r_v_1 rl_0 (ti_eq c_6) (by decide)
    refine lv_iconst (v := (-1)) hx hb dX9_sit_18 (by decide) ?_
    subst hQ
    exact W.iret (v := (-1)) hx hb hr (fun t ht hW => ⟨⟨(-1), w0, rfl, ⟨⟨rl_m1.to (by decide), (fun _ => trivial), (fun h0 => trivial)⟩, hw.1, hw.2.2.2.2.1⟩, by rw [ht]; exact hw.2.1, va_K.moved hW.alike hK, hw.2.2.1⟩, hw.2.2.2.1.F ht⟩) hw.2.2.2.1.2.2 dX9_sit_19
  · have r_v_1 : RI v_1 1 1 := rc_neL r_v_1 rl_0 (ti_ne c_6) (by decide)
    have r_p1 : RI p1 0 7 := ((hp_v_1.2.2 c_6).1)
    refine lv_aload_n hx hb dX9_sit_9 rfl (lv_at hl 0 rfl) ?_
    refine lv_iconst (v := 2) hx hb dX9_sit_10 (by decide) ?_
    refine lv_iload_n hx hb dX9_sit_11 rfl (lv_at hl 2 rfl) ?_
    refine tk_ir (va_runV (As := [.int 2, .int p2]) (rest := []) ⟨hx, hb, hml, hown, hts⟩ (c_X9_isOf l D cy z H.size Ps w0 hw.1 p0 2 p2 h_p0 rl_2 r_p2) (cwV 2 hts (gV tw_540 tw_542 ts_10 tw_1 tw_543) rfl rfl rfl (by decide +kernel) ⟨Nat.le_of_ble_eq_true rfl, Nat.le_of_ble_eq_true rfl⟩) (tg_preV hw hK hSD hA (ci := 9) (q := (RX9, TX9, 15)) rfl h_p0 rfl) rfl rfl hl.1 rfl (lv_room (Nat.le_of_ble_eq_true rfl)) dX9_sit_12 ⟨Nat.le_of_ble_eq_true rfl, Nat.le_of_ble_eq_true rfl⟩) hw hA (fun v_2  H locs hp_v_2 hw => ?_)
    have r_v_2 : RI v_2 0 1 := hp_v_2.1
    refine lv_if_ne (tgt := 20) hx hb dX9_sit_15 (by decide) (fun c_15 => ?_) (fun c_15 => ?_)
    · have r_v_2 : RI v_2 1 1 := rc_neL r_v_2 rl_0 (ti_ne c_15) (by decide)
      have r_p2 : RI p2 0 5 := ((hp_v_2.2.2 c_15).1)
      refine lv_aload_n hx hb dX9_sit_20 rfl (lv_at hl 0 rfl) ?_
      refine tg_get (ci := 9) (ts := ty_WP) (C := RX9) (T := TX9) (N := 15) hx hb hts inX9 hown hK hw h_p0 rfl rfl 3 (by decide) (hts _ tw_349) (fun _ h9 => h9) (ft := vR 27) rfl dX9_sit_21 (fun u_3 hv_u_3 m_u_3 => ?_)
      obtain ⟨vu_3, rfl, h_vu_3⟩ := hv_u_3
      refine lv_aload_n hx hb dX9_sit_24 rfl (lv_at hl 0 rfl) ?_
      refine tg_get (ci := 9) (ts := ty_WP) (C := RX9) (T := TX9) (N := 15) hx hb hts inX9 hown hK hw h_p0 rfl rfl 1 (by decide) (hts _ tw_347) (fun _ h9 => h9) (ft := vR 24) rfl dX9_sit_25 (fun u_4 hv_u_4 m_u_4 => ?_)
      obtain ⟨vu_4, rfl, h_vu_4⟩ := hv_u_4
      refine tk_v (va_runV (As := [.ref vu_4]) (rest := []) ⟨hx, hb, hml, hown, hts⟩ (c_X1_prepare l D cy z H.size Ps w0 hw.1 vu_3 vu_4 h_vu_3 h_vu_4) (cwV 1 hts (gV tw_606 tw_607 tw_608 tw_13 tw_609) rfl rfl rfl (by decide +kernel) ⟨Nat.le_of_ble_eq_true rfl, Nat.le_of_ble_eq_true rfl⟩) (tg_preV hw hK hSD hA (ci := 1) (q := (RX1, TX1, 3)) rfl h_vu_3 rfl) rfl rfl hl.1 rfl (lv_room (Nat.le_of_ble_eq_true rfl)) dX9_sit_28 ⟨Nat.le_of_ble_eq_true rfl, Nat.le_of_ble_eq_true rfl⟩) hw hA ⟨by decide, by decide⟩ (fun ws H locs hp_v_5 hw hF9 => ?_)
      refine lv_aload_n hx hb dX9_sit_31 rfl (lv_at hl 0 rfl) ?_
      refine lv_aload_n hx hb dX9_sit_32 rfl (lv_at hl 0 rfl) ?_
      refine tg_get (ci := 9) (ts := ty_WP) (C := RX9) (T := TX9) (N := 15) hx hb hts inX9 hown hK hw h_p0 rfl rfl 1 (by decide) (hts _ tw_347) (fun _ h9 => h9) (ft := vR 24) rfl dX9_sit_33 (fun u_6 hv_u_6 m_u_6 => ?_)
      obtain ⟨vu_6, rfl, h_vu_6⟩ := hv_u_6
      refine lv_iload_n hx hb dX9_sit_36 rfl (lv_at hl 1 rfl) ?_
      refine lv_iload_n hx hb dX9_sit_37 rfl (lv_at hl 2 rfl) ?_
      refine tk_i (va_runV (As := [.int p1, .int p2]) (rest := [.ref p0]) ⟨hx, hb, hml, hown, hts⟩ (c_X8_sitDown l D cy z H.size Ps ws hw.1 vu_6 p1 p2 h_vu_6 r_p1 (r_p2.to (by decide))) (cwV 2 hts (gV tw_611 tw_612 tw_613 tw_12 tw_614) rfl rfl rfl (by decide +kernel) ⟨Nat.le_of_ble_eq_true rfl, Nat.le_of_ble_eq_true rfl⟩) (tg_preV hw hK hSD hA (ci := 8) (q := (RX8, TX8, 13)) rfl h_vu_6 rfl) rfl rfl hl.1 rfl (lv_room (Nat.le_of_ble_eq_true rfl)) dX9_sit_38 ⟨Nat.le_of_ble_eq_true rfl, Nat.le_of_ble_eq_true rfl⟩) hw hA ⟨by decide, by decide⟩ (fun v_7 ws H locs hp_v_7 hw hF9 => ?_)
      have r_v_7 : RI v_7 0 1 := hp_v_7.1
      refine tk_i (va_runV (As := [.int v_7]) (rest := []) ⟨hx, hb, hml, hown, hts⟩ (c_X9_keptIfDone l D cy z H.size Ps ws hw.1 p0 v_7 h_p0 (r_v_7.to (by decide))) (cwV 1 hts (gV tw_615 tw_617 ts_12 tw_1 tw_618) rfl rfl rfl (by decide +kernel) ⟨Nat.le_of_ble_eq_true rfl, Nat.le_of_ble_eq_true rfl⟩) (tg_preV hw hK hSD hA (ci := 9) (q := (RX9, TX9, 15)) rfl h_p0 rfl) rfl rfl hl.1 rfl (lv_room (Nat.le_of_ble_eq_true rfl)) dX9_sit_41 ⟨Nat.le_of_ble_eq_true rfl, Nat.le_of_ble_eq_true rfl⟩) hw hA ⟨by decide, by decide⟩ (fun v_8 ws H locs hp_v_8 hw hF9 => ?_)
      have r_v_8 : RI v_8 (-2147483648) 2147483647 := hp_v_8.1
      subst hQ
      exact W.iret (v := v_8) hx hb hr (fun t ht hW => ⟨⟨v_8, ws, rfl, ⟨⟨r_v_8.to (by decide), (fun h0 => trivial), (fun h0 => trivial)⟩, hw.1, hw.2.2.2.2.1⟩, by rw [ht]; exact hw.2.1, va_K.moved hW.alike hK, hw.2.2.1⟩, hw.2.2.2.1.F ht⟩) hw.2.2.2.1.2.2 dX9_sit_44
    · have r_v_2 : RI v_2 0 0 := rc_eq1 r_v_2 rl_0 (ti_eq c_15) (by decide)
      refine lv_iconst (v := (-1)) hx hb dX9_sit_18 (by decide) ?_
      subst hQ
      exact W.iret (v := (-1)) hx hb hr (fun t ht hW => ⟨⟨(-1), w0, rfl, ⟨⟨rl_m1.to (by decide), (fun _ => trivial), (fun h0 => trivial)⟩, hw.1, hw.2.2.2.2.1⟩, by rw [ht]; exact hw.2.1, va_K.moved hW.alike hK, hw.2.2.1⟩, hw.2.2.2.1.F ht⟩) hw.2.2.2.1.2.2 dX9_sit_19
abbrev wr_X9_sitters : List (Nat × Nat) := [(8, 0), (8, 1), (9, 12)]
abbrev wa_X9_sitters : List Nat := [8, 9, 10, 11, 12, 13, 14]
set_option maxHeartbeats 4000000 in
set_option maxRecDepth 100000 in
theorem c_X9_sitters (l : Launch) (D : va_G) (cy : Nat → ClassId) (z : Nat → Nat) (sz : Nat) (Ps : PSI) (w0 : va_W) (hT : HT cy GG Ps w0) (p0 : Nat) (p1 : Int32) (p2 : Int32) (p3 : Int32) (h_p0 : (p0, 33) ∈ Ps) (r_p1 : RI p1 (-2147483648) 2147483647) (r_p2 : RI p2 (-2147483648) 2147483647) (r_p3 : RI p3 (-2147483648) 2147483647) : Met l yX9_sitters (Cond.code yX9_sitters cX9_sitters 5 (some .int) :: gT) ({ frames := 4, cells := 0, slots := 0, locals := 800 } : Room) (va_Pc [.ref p0, .int p1, .int p2, .int p3] (PRE D cy z w0 sz)) (va_Qi (fun (r : Int32) (u : va_W) => (RI r (-1) 63 ∧ (r = 0 → True) ∧ (¬ r = 0 → True)) ∧ HT cy GG Ps u ∧ FR wr_X9_sitters wa_X9_sitters Ps w0 u) (BB D cy (va_A w0 sz) (fun (u : va_W) => u)) (va_A w0 sz)) 0 0 (va_A w0 sz) := by
  refine Met.ofW (cc := cX9_sitters) (maxL := 5) (ret := (some .int)) (by decide) rfl ?_
  intro p e s m args below meth c s₁ B hml hv
  obtain ⟨rfl, hsz, hP, hK, hD0, hSD⟩ := hv
  have hx := B.exec
  have hb := B.bytes
  have hr := B.returns
  have hlocks := B.notSynchronized
  have hts : ∀ w ∈ gT, w.before _ s = true := fun w h => atoms_spec (ws := Cond.code yX9_sitters cX9_sitters 5 (some .int) :: gT) B.pre w (List.mem_cons_of_mem _ h)
  have hown : s.vm.findClass RX9 = some m.cls := findClass_of_methodNamed B.named
  subst hsz
  have hD := hD0.self (sz := s.heap.size)
  generalize hAe : va_A w0 s.heap.size = A at hD hSD ⊢
  have hA : ∀ q : Nat, s.heap.size ≤ q → A q := fun q h => by rw [← hAe]; exact Or.inr h
  have hl := lv_entry ([.ref p0, .int p1, .int p2, .int p3]) (n := 5) (Nat.le_of_ble_eq_true rfl)
  rw [lg_entry_eq]
  generalize (lg_sl ([.ref p0, .int p1, .int p2, .int p3]) ++ List.replicate (5 - (lg_sl ([.ref p0, .int p1, .int p2, .int p3])).length) Slot.unset).toArray = ls at hl ⊢
  have hl : lv_has ls 5 [(0, .ref p0), (1, .int p1), (2, .int p2), (3, .int p3)] := hl
  refine nameQ (fun Q hQ => ?_)
  have hw : WD D cy GG A s wr_X9_sitters wa_X9_sitters Ps w0 Ps w0 s.heap [] := ⟨hT, hP, hD, va_S.rf, FR.rf, hT.1, [], (List.append_nil _).symm⟩
  refine lv_aload_n hx hb dX9_sitters_0 rfl (lv_at hl 0 rfl) ?_
  refine lv_iconst (v := 2) hx hb dX9_sitters_1 (by decide) ?_
  refine lv_iload_n hx hb dX9_sitters_2 rfl (lv_at hl 1 rfl) ?_
  refine tk_ir (va_runV (As := [.int 2, .int p1]) (rest := []) ⟨hx, hb, hml, hown, hts⟩ (c_X9_isOf l D cy z s.heap.size Ps w0 hw.1 p0 2 p1 h_p0 rl_2 r_p1) (cwV 2 hts (gV tw_540 tw_542 ts_10 tw_1 tw_543) rfl rfl rfl (by decide +kernel) ⟨Nat.le_of_ble_eq_true rfl, Nat.le_of_ble_eq_true rfl⟩) (tg_preV hw hK hSD hA (ci := 9) (q := (RX9, TX9, 15)) rfl h_p0 rfl) rfl rfl hl.1 rfl (lv_room (Nat.le_of_ble_eq_true rfl)) dX9_sitters_3 ⟨Nat.le_of_ble_eq_true rfl, Nat.le_of_ble_eq_true rfl⟩) hw hA (fun v_1  H locs hp_v_1 hw => ?_)
  have r_v_1 : RI v_1 0 1 := hp_v_1.1
  refine lv_if_eq (tgt := 29) hx hb dX9_sitters_6 (by decide) (fun c_6 => ?_) (fun c_6 => ?_)
  · have r_v_1 : RI v_1 0 0 := rc_eq1 r_v_1 rl_0 (ti_eq c_6) (by decide)
    refine lv_iconst (v := (-1)) hx hb dX9_sitters_29 (by decide) ?_
    subst hQ
    exact W.iret (v := (-1)) hx hb hr (fun t ht hW => ⟨⟨(-1), w0, rfl, ⟨⟨rl_m1.to (by decide), (fun _ => trivial), (fun h0 => trivial)⟩, hw.1, hw.2.2.2.2.1⟩, by rw [ht]; exact hw.2.1, va_K.moved hW.alike hK, hw.2.2.1⟩, hw.2.2.2.1.F ht⟩) hw.2.2.2.1.2.2 dX9_sitters_30
  · have r_v_1 : RI v_1 1 1 := rc_neL r_v_1 rl_0 (ti_ne c_6) (by decide)
    have r_p1 : RI p1 0 5 := ((hp_v_1.2.2 c_6).1)
    refine lv_aload_n hx hb dX9_sitters_9 rfl (lv_at hl 0 rfl) ?_
    refine lv_iconst (v := 0) hx hb dX9_sitters_10 (by decide) ?_
    refine lv_iload_n hx hb dX9_sitters_11 rfl (lv_at hl 2 rfl) ?_
    refine tk_ir (va_runV (As := [.int 0, .int p2]) (rest := []) ⟨hx, hb, hml, hown, hts⟩ (c_X9_isOf__3 l D cy z H.size Ps w0 hw.1 p0 0 p2 h_p0 rl_0 r_p2) (cwV 2 hts (gV tw_540 tw_542 ts_10 tw_1 tw_543) rfl rfl rfl (by decide +kernel) ⟨Nat.le_of_ble_eq_true rfl, Nat.le_of_ble_eq_true rfl⟩) (tg_preV hw hK hSD hA (ci := 9) (q := (RX9, TX9, 15)) rfl h_p0 rfl) rfl rfl hl.1 rfl (lv_room (Nat.le_of_ble_eq_true rfl)) dX9_sitters_12 ⟨Nat.le_of_ble_eq_true rfl, Nat.le_of_ble_eq_true rfl⟩) hw hA (fun v_2  H locs hp_v_2 hw => ?_)
    have r_v_2 : RI v_2 0 1 := hp_v_2.1
    refine lv_if_eq (tgt := 29) hx hb dX9_sitters_15 (by decide) (fun c_15 => ?_) (fun c_15 => ?_)
    · have r_v_2 : RI v_2 0 0 := rc_eq1 r_v_2 rl_0 (ti_eq c_15) (by decide)
      refine lv_iconst (v := (-1)) hx hb dX9_sitters_29 (by decide) ?_
      subst hQ
      exact W.iret (v := (-1)) hx hb hr (fun t ht hW => ⟨⟨(-1), w0, rfl, ⟨⟨rl_m1.to (by decide), (fun _ => trivial), (fun h0 => trivial)⟩, hw.1, hw.2.2.2.2.1⟩, by rw [ht]; exact hw.2.1, va_K.moved hW.alike hK, hw.2.2.1⟩, hw.2.2.2.1.F ht⟩) hw.2.2.2.1.2.2 dX9_sitters_30
    · have r_v_2 : RI v_2 1 1 := rc_neL r_v_2 rl_0 (ti_ne c_15) (by decide)
      have r_p2 : RI p2 0 5 := ((hp_v_2.2.2 c_15).1)
      refine lv_iload_n hx hb dX9_sitters_18 rfl (lv_at hl 3 rfl) ?_
      refine lv_iconst (v := 1) hx hb dX9_sitters_19 (by decide) ?_
      refine lv_icmp_lt (tgt := 29) hx hb dX9_sitters_20 (by decide) (fun c_20 => ?_) (fun c_20 => ?_)
      · have r_p3 : RI p3 (-2147483648) 0 := rc_lt1 r_p3 rl_1 (ti_lt c_20) (by decide)
        refine lv_iconst (v := (-1)) hx hb dX9_sitters_29 (by decide) ?_
        subst hQ
        exact W.iret (v := (-1)) hx hb hr (fun t ht hW => ⟨⟨(-1), w0, rfl, ⟨⟨rl_m1.to (by decide), (fun _ => trivial), (fun h0 => trivial)⟩, hw.1, hw.2.2.2.2.1⟩, by rw [ht]; exact hw.2.1, va_K.moved hW.alike hK, hw.2.2.1⟩, hw.2.2.2.1.F ht⟩) hw.2.2.2.1.2.2 dX9_sitters_30
      · have r_p3 : RI p3 1 2147483647 := rc_le2 rl_1 r_p3 (ti_nlt c_20) (by decide)
        refine lv_iload_n hx hb dX9_sitters_23 rfl (lv_at hl 3 rfl) ?_
        refine lv_bipush (v := 30) hx hb dX9_sitters_24 (by decide) ?_
        refine lv_icmp_le (tgt := 31) hx hb dX9_sitters_26 (by decide) (fun c_26 => ?_) (fun c_26 => ?_)
        · have r_p3 : RI p3 1 30 := rc_le1 r_p3 rl_30 (ti_le c_26) (by decide)
          refine lv_aload_n hx hb dX9_sitters_31 rfl (lv_at hl 0 rfl) ?_
          refine tg_get (ci := 9) (ts := ty_WP) (C := RX9) (T := TX9) (N := 15) hx hb hts inX9 hown hK hw h_p0 rfl rfl 1 (by decide) (hts _ tw_347) (fun _ h9 => h9) (ft := vR 24) rfl dX9_sitters_32 (fun u_3 hv_u_3 m_u_3 => ?_)
          obtain ⟨vu_3, rfl, h_vu_3⟩ := hv_u_3
          refine lv_iload_n hx hb dX9_sitters_35 rfl (lv_at hl 1 rfl) ?_
          refine tk_ir (va_runV (As := [.int p1]) (rest := []) ⟨hx, hb, hml, hown, hts⟩ (c_X8_isOpen l D cy z H.size Ps w0 hw.1 vu_3 p1 h_vu_3 r_p1) (cwV 1 hts (gV tw_733 tw_562 tw_563 tw_12 tw_564) rfl rfl rfl (by decide +kernel) ⟨Nat.le_of_ble_eq_true rfl, Nat.le_of_ble_eq_true rfl⟩) (tg_preV hw hK hSD hA (ci := 8) (q := (RX8, TX8, 13)) rfl h_vu_3 rfl) rfl rfl hl.1 rfl (lv_room (Nat.le_of_ble_eq_true rfl)) dX9_sitters_36 ⟨Nat.le_of_ble_eq_true rfl, Nat.le_of_ble_eq_true rfl⟩) hw hA (fun v_4  H locs hp_v_4 hw => ?_)
          have r_v_4 : RI v_4 0 1 := hp_v_4.1
          refine lv_if_ne (tgt := 53) hx hb dX9_sitters_39 (by decide) (fun c_39 => ?_) (fun c_39 => ?_)
          · have r_v_4 : RI v_4 1 1 := rc_neL r_v_4 rl_0 (ti_ne c_39) (by decide)
            refine lv_iconst (v := (-1)) hx hb dX9_sitters_53 (by decide) ?_
            subst hQ
            exact W.iret (v := (-1)) hx hb hr (fun t ht hW => ⟨⟨(-1), w0, rfl, ⟨⟨rl_m1.to (by decide), (fun _ => trivial), (fun h0 => trivial)⟩, hw.1, hw.2.2.2.2.1⟩, by rw [ht]; exact hw.2.1, va_K.moved hW.alike hK, hw.2.2.1⟩, hw.2.2.2.1.F ht⟩) hw.2.2.2.1.2.2 dX9_sitters_54
          · have r_v_4 : RI v_4 0 0 := rc_eq1 r_v_4 rl_0 (ti_eq c_39) (by decide)
            refine lv_iload_n hx hb dX9_sitters_42 rfl (lv_at hl 3 rfl) ?_
            refine lv_aload_n hx hb dX9_sitters_43 rfl (lv_at hl 0 rfl) ?_
            refine tg_mem (ci := 9) (C := RX9) (T := TX9) (N := 15) hx hb hts inX9 hown hK hw 1 m_u_3 rfl (by decide) (hts _ tw_347) (fun _ h9 => h9) dX9_sitters_44 ?_
            refine tk_ir (va_runV (As := []) (rest := [.int p3]) ⟨hx, hb, hml, hown, hts⟩ (c_X8_daysLeft l D cy z H.size Ps w0 hw.1 vu_3 h_vu_3) (cwV 0 hts (gV tw_725 tw_682 tw_683 tw_12 tw_684) rfl rfl rfl (by decide +kernel) ⟨Nat.le_of_ble_eq_true rfl, Nat.le_of_ble_eq_true rfl⟩) (tg_preV hw hK hSD hA (ci := 8) (q := (RX8, TX8, 13)) rfl h_vu_3 rfl) rfl rfl hl.1 rfl (lv_room (Nat.le_of_ble_eq_true rfl)) dX9_sitters_47 ⟨Nat.le_of_ble_eq_true rfl, Nat.le_of_ble_eq_true rfl⟩) hw hA (fun v_5  H locs hp_v_5 hw => ?_)
            have r_v_5 : RI v_5 0 2147483647 := hp_v_5.1
            refine lv_icmp_le (tgt := 55) hx hb dX9_sitters_50 (by decide) (fun c_50 => ?_) (fun c_50 => ?_)
            · have r_v_5 : RI v_5 1 2147483647 := rc_le2 r_p3 r_v_5 (ti_le c_50) (by decide)
              refine lv_aload_n hx hb dX9_sitters_55 rfl (lv_at hl 0 rfl) ?_
              refine lv_iload_n hx hb dX9_sitters_56 rfl (lv_at hl 1 rfl) ?_
              refine lv_iload_n hx hb dX9_sitters_57 rfl (lv_at hl 2 rfl) ?_
              refine lv_iload_n hx hb dX9_sitters_58 rfl (lv_at hl 3 rfl) ?_
              refine tk_i (va_runV (As := [.int p1, .int p2, .int p3]) (rest := []) ⟨hx, hb, hml, hown, hts⟩ (c_X9_fewestSitters l D cy z H.size Ps w0 hw.1 p0 p1 p2 p3 h_p0 r_p1 (r_p2.to (by decide)) (r_p3.to (by decide))) (cwV 3 hts (gV tw_734 tw_736 ts_18 tw_1 tw_737) rfl rfl rfl (by decide +kernel) ⟨Nat.le_of_ble_eq_true rfl, Nat.le_of_ble_eq_true rfl⟩) (tg_preV hw hK hSD hA (ci := 9) (q := (RX9, TX9, 15)) rfl h_p0 rfl) rfl rfl hl.1 rfl (lv_room (Nat.le_of_ble_eq_true rfl)) dX9_sitters_59 ⟨Nat.le_of_ble_eq_true rfl, Nat.le_of_ble_eq_true rfl⟩) hw hA ⟨by decide, by decide⟩ (fun v_6 ws H locs hp_v_6 hw hF9 => ?_)
              have r_v_6 : RI v_6 (-1) 255 := hp_v_6.1
              refine lv_istore (lv' := [(4, .int v_6), (0, .ref p0), (1, .int p1), (2, .int p2), (3, .int p3)]) hx hb dX9_sitters_62 hl (by decide) rfl (fun ls hl => ?_)
              refine lv_iload hx hb dX9_sitters_64 (lv_at hl 0 rfl) ?_
              refine lv_iconst (v := (-1)) hx hb dX9_sitters_66 (by decide) ?_
              refine lv_icmp_ne (tgt := 72) hx hb dX9_sitters_67 (by decide) (fun c_67 => ?_) (fun c_67 => ?_)
              · have r_v_6 : RI v_6 0 255 := rc_neL r_v_6 rl_m1 (ti_ne c_67) (by decide)
                refine lv_aload_n hx hb dX9_sitters_72 rfl (lv_at hl 1 rfl) ?_
                refine lv_iload hx hb dX9_sitters_73 (lv_at hl 0 rfl) ?_
                refine tg_put (ci := 9) (ts := ty_WP) (v := .int v_6) (ty := .int) (C := RX9) (T := TX9) (N := 15) hx hb hts inX9 tyX9 tyX9_ok nmX9 hown hK hw h_p0 rfl rfl 12 (by decide) (hts _ tw_358) (fun _ h9 => h9) rfl (by decide +kernel) rfl rfl (ft := vI (-2147483648) 2147483647) rfl ⟨_, rfl, (r_v_6.to (by decide))⟩ (by decide) dX9_sitters_75 (fun ws H locs hw n_k_7 hF9 => ?_)
                refine lv_iload hx hb dX9_sitters_78 (lv_at hl 0 rfl) ?_
                refine tk_ir (va_runS (As := [.int v_6]) (rest := []) ⟨hx, hb, hml, hown, hts⟩ (c_J6_bitCount_0f7a4 l D cy z H.size Ps ws hw.1 v_6 (r_v_6.to (by decide))) (va_cwS 1 hts (gS tw_738 tw_739 tw_22 tw_740) rfl rfl rfl (by decide +kernel) ⟨Nat.le_of_ble_eq_true rfl, Nat.le_of_ble_eq_true rfl⟩) (tg_preS hw hK hSD hA) rfl rfl hl.1 rfl (lv_room (Nat.le_of_ble_eq_true rfl)) dX9_sitters_80 ⟨Nat.le_of_ble_eq_true rfl, Nat.le_of_ble_eq_true rfl⟩) hw hA (fun v_8  H locs hp_v_8 hw => ?_)
                have r_v_8 : RI v_8 0 63 := hp_v_8.1
                subst hQ
                exact W.iret (v := v_8) hx hb hr (fun t ht hW => ⟨⟨v_8, ws, rfl, ⟨⟨r_v_8.to (by decide), (fun h0 => trivial), (fun h0 => trivial)⟩, hw.1, hw.2.2.2.2.1⟩, by rw [ht]; exact hw.2.1, va_K.moved hW.alike hK, hw.2.2.1⟩, hw.2.2.2.1.F ht⟩) hw.2.2.2.1.2.2 dX9_sitters_83
              · have r_v_6 : RI v_6 (-1) (-1) := rc_eq1 r_v_6 rl_m1 (ti_eq c_67) (by decide)
                refine lv_iconst (v := (-1)) hx hb dX9_sitters_70 (by decide) ?_
                subst hQ
                exact W.iret (v := (-1)) hx hb hr (fun t ht hW => ⟨⟨(-1), ws, rfl, ⟨⟨rl_m1.to (by decide), (fun _ => trivial), (fun h0 => trivial)⟩, hw.1, hw.2.2.2.2.1⟩, by rw [ht]; exact hw.2.1, va_K.moved hW.alike hK, hw.2.2.1⟩, hw.2.2.2.1.F ht⟩) hw.2.2.2.1.2.2 dX9_sitters_71
            · have r_v_5 : RI v_5 0 29 := rc_lt1 r_v_5 r_p3 (ti_nle c_50) (by decide)
              refine lv_iconst (v := (-1)) hx hb dX9_sitters_53 (by decide) ?_
              subst hQ
              exact W.iret (v := (-1)) hx hb hr (fun t ht hW => ⟨⟨(-1), w0, rfl, ⟨⟨rl_m1.to (by decide), (fun _ => trivial), (fun h0 => trivial)⟩, hw.1, hw.2.2.2.2.1⟩, by rw [ht]; exact hw.2.1, va_K.moved hW.alike hK, hw.2.2.1⟩, hw.2.2.2.1.F ht⟩) hw.2.2.2.1.2.2 dX9_sitters_54
        · have r_p3 : RI p3 31 2147483647 := rc_lt2 rl_30 r_p3 (ti_nle c_26) (by decide)
          refine lv_iconst (v := (-1)) hx hb dX9_sitters_29 (by decide) ?_
          subst hQ
          exact W.iret (v := (-1)) hx hb hr (fun t ht hW => ⟨⟨(-1), w0, rfl, ⟨⟨rl_m1.to (by decide), (fun _ => trivial), (fun h0 => trivial)⟩, hw.1, hw.2.2.2.2.1⟩, by rw [ht]; exact hw.2.1, va_K.moved hW.alike hK, hw.2.2.1⟩, hw.2.2.2.1.F ht⟩) hw.2.2.2.1.2.2 dX9_sitters_30
abbrev wr_X9_sitting : List (Nat × Nat) := []
abbrev wa_X9_sitting : List Nat := []
set_option maxHeartbeats 4000000 in
set_option maxRecDepth 100000 in
theorem c_X9_sitting (l : Launch) (D : va_G) (cy : Nat → ClassId) (z : Nat → Nat) (sz : Nat) (Ps : PSI) (w0 : va_W) (hT : HT cy GG Ps w0) (p0 : Nat) (h_p0 : (p0, 33) ∈ Ps) : Met l yX9_sitting (Cond.code yX9_sitting cX9_sitting 1 (some .int) :: gT) ({ frames := 0, cells := 0, slots := 0, locals := 200 } : Room) (va_Pc [.ref p0] (PRE D cy z w0 sz)) (va_Qi (fun (r : Int32) (u : Unit) => RI r (-2147483648) 2147483647 ∧ (r = 0 → True) ∧ (¬ r = 0 → True)) (BB D cy (va_A w0 sz) (fun (u : Unit) => w0)) (va_A w0 sz)) 0 0 (va_A w0 sz) := by
  refine Met.ofW (cc := cX9_sitting) (maxL := 1) (ret := (some .int)) (by decide) rfl ?_
  intro p e s m args below meth c s₁ B hml hv
  obtain ⟨rfl, hsz, hP, hK, hD0, hSD⟩ := hv
  have hx := B.exec
  have hb := B.bytes
  have hr := B.returns
  have hlocks := B.notSynchronized
  have hts : ∀ w ∈ gT, w.before _ s = true := fun w h => atoms_spec (ws := Cond.code yX9_sitting cX9_sitting 1 (some .int) :: gT) B.pre w (List.mem_cons_of_mem _ h)
  have hown : s.vm.findClass RX9 = some m.cls := findClass_of_methodNamed B.named
  subst hsz
  have hD := hD0.self (sz := s.heap.size)
  generalize hAe : va_A w0 s.heap.size = A at hD hSD ⊢
  have hA : ∀ q : Nat, s.heap.size ≤ q → A q := fun q h => by rw [← hAe]; exact Or.inr h
  have hl := lv_entry ([.ref p0]) (n := 1) (Nat.le_of_ble_eq_true rfl)
  rw [lg_entry_eq]
  generalize (lg_sl ([.ref p0]) ++ List.replicate (1 - (lg_sl ([.ref p0])).length) Slot.unset).toArray = ls at hl ⊢
  have hl : lv_has ls 1 [(0, .ref p0)] := hl
  refine nameQ (fun Q hQ => ?_)
  have hw : WD D cy GG A s wr_X9_sitting wa_X9_sitting Ps w0 Ps w0 s.heap [] := ⟨hT, hP, hD, va_S.rf, FR.rf, hT.1, [], (List.append_nil _).symm⟩
  refine lv_aload_n hx hb dX9_sitting_0 rfl (lv_at hl 0 rfl) ?_
  refine tg_get (ci := 9) (ts := ty_WP) (C := RX9) (T := TX9) (N := 15) hx hb hts inX9 hown hK hw h_p0 rfl rfl 12 (by decide) (hts _ tw_358) (fun _ h9 => h9) (ft := vI (-2147483648) 2147483647) rfl dX9_sitting_1 (fun u_1 hv_u_1 m_u_1 => ?_)
  obtain ⟨vu_1, rfl, r_vu_1⟩ := hv_u_1
  subst hQ
  exact W.iret (v := vu_1) hx hb hr (fun t ht hW => ⟨⟨vu_1, (), rfl, ⟨r_vu_1.to (by decide), (fun h0 => trivial), (fun h0 => trivial)⟩, by rw [ht]; exact hw.2.1, va_K.moved hW.alike hK, hw.2.2.1⟩, hw.2.2.2.1.F ht⟩) hw.2.2.2.1.2.2 dX9_sitting_4
abbrev wr_X9_stand : List (Nat × Nat) := [(1, 1), (1, 2), (8, 0), (8, 1)]
abbrev wa_X9_stand : List Nat := [8, 9, 10, 11, 12, 13]
set_option maxHeartbeats 4000000 in
set_option maxRecDepth 100000 in
theorem c_X9_stand (l : Launch) (D : va_G) (cy : Nat → ClassId) (z : Nat → Nat) (sz : Nat) (Ps : PSI) (w0 : va_W) (hT : HT cy GG Ps w0) (p0 : Nat) (p1 : Int32) (h_p0 : (p0, 33) ∈ Ps) (r_p1 : RI p1 (-2147483648) 2147483647) : Met l yX9_stand (Cond.code yX9_stand cX9_stand 2 (some .int) :: gT) ({ frames := 4, cells := 0, slots := 0, locals := 800 } : Room) (va_Pc [.ref p0, .int p1] (PRE D cy z w0 sz)) (va_Qi (fun (r : Int32) (u : va_W) => (RI r (-2147483648) 2147483647 ∧ (r = 0 → True) ∧ (¬ r = 0 → True)) ∧ HT cy GG Ps u ∧ FR wr_X9_stand wa_X9_stand Ps w0 u) (BB D cy (va_A w0 sz) (fun (u : va_W) => u)) (va_A w0 sz)) 0 0 (va_A w0 sz) := by
  refine Met.ofW (cc := cX9_stand) (maxL := 2) (ret := (some .int)) (by decide) rfl ?_
  intro p e s m args below meth c s₁ B hml hv
  obtain ⟨rfl, hsz, hP, hK, hD0, hSD⟩ := hv
  have hx := B.exec
  have hb := B.bytes
  have hr := B.returns
  have hlocks := B.notSynchronized
  have hts : ∀ w ∈ gT, w.before _ s = true := fun w h => atoms_spec (ws := Cond.code yX9_stand cX9_stand 2 (some .int) :: gT) B.pre w (List.mem_cons_of_mem _ h)
  have hown : s.vm.findClass RX9 = some m.cls := findClass_of_methodNamed B.named
  subst hsz
  have hD := hD0.self (sz := s.heap.size)
  generalize hAe : va_A w0 s.heap.size = A at hD hSD ⊢
  have hA : ∀ q : Nat, s.heap.size ≤ q → A q := fun q h => by rw [← hAe]; exact Or.inr h
  have hl := lv_entry ([.ref p0, .int p1]) (n := 2) (Nat.le_of_ble_eq_true rfl)
  rw [lg_entry_eq]
  generalize (lg_sl ([.ref p0, .int p1]) ++ List.replicate (2 - (lg_sl ([.ref p0, .int p1])).length) Slot.unset).toArray = ls at hl ⊢
  have hl : lv_has ls 2 [(0, .ref p0), (1, .int p1)] := hl
  refine nameQ (fun Q hQ => ?_)
  have hw : WD D cy GG A s wr_X9_stand wa_X9_stand Ps w0 Ps w0 s.heap [] := ⟨hT, hP, hD, va_S.rf, FR.rf, hT.1, [], (List.append_nil _).symm⟩
  refine lv_aload_n hx hb dX9_stand_0 rfl (lv_at hl 0 rfl) ?_
  refine lv_iconst (v := 3) hx hb dX9_stand_1 (by decide) ?_
  refine lv_iload_n hx hb dX9_stand_2 rfl (lv_at hl 1 rfl) ?_
  refine tk_ir (va_runV (As := [.int 3, .int p1]) (rest := []) ⟨hx, hb, hml, hown, hts⟩ (c_X9_isOf__2 l D cy z s.heap.size Ps w0 hw.1 p0 3 p1 h_p0 rl_3 r_p1) (cwV 2 hts (gV tw_540 tw_542 ts_10 tw_1 tw_543) rfl rfl rfl (by decide +kernel) ⟨Nat.le_of_ble_eq_true rfl, Nat.le_of_ble_eq_true rfl⟩) (tg_preV hw hK hSD hA (ci := 9) (q := (RX9, TX9, 15)) rfl h_p0 rfl) rfl rfl hl.1 rfl (lv_room (Nat.le_of_ble_eq_true rfl)) dX9_stand_3 ⟨Nat.le_of_ble_eq_true rfl, Nat.le_of_ble_eq_true rfl⟩) hw hA (fun v_1  H locs hp_v_1 hw => ?_)
  have r_v_1 : RI v_1 0 1 := hp_v_1.1
  refine lv_if_ne (tgt := 11) hx hb dX9_stand_6 (by decide) (fun c_6 => ?_) (fun c_6 => ?_)
  · have r_v_1 : RI v_1 1 1 := rc_neL r_v_1 rl_0 (ti_ne c_6) (by decide)
    have r_p1 : RI p1 0 7 := ((hp_v_1.2.2 c_6).1)
    refine lv_aload_n hx hb dX9_stand_11 rfl (lv_at hl 0 rfl) ?_
    refine tg_get (ci := 9) (ts := ty_WP) (C := RX9) (T := TX9) (N := 15) hx hb hts inX9 hown hK hw h_p0 rfl rfl 3 (by decide) (hts _ tw_349) (fun _ h9 => h9) (ft := vR 27) rfl dX9_stand_12 (fun u_2 hv_u_2 m_u_2 => ?_)
    obtain ⟨vu_2, rfl, h_vu_2⟩ := hv_u_2
    refine lv_aload_n hx hb dX9_stand_15 rfl (lv_at hl 0 rfl) ?_
    refine tg_get (ci := 9) (ts := ty_WP) (C := RX9) (T := TX9) (N := 15) hx hb hts inX9 hown hK hw h_p0 rfl rfl 1 (by decide) (hts _ tw_347) (fun _ h9 => h9) (ft := vR 24) rfl dX9_stand_16 (fun u_3 hv_u_3 m_u_3 => ?_)
    obtain ⟨vu_3, rfl, h_vu_3⟩ := hv_u_3
    refine tk_v (va_runV (As := [.ref vu_3]) (rest := []) ⟨hx, hb, hml, hown, hts⟩ (c_X1_prepare l D cy z H.size Ps w0 hw.1 vu_2 vu_3 h_vu_2 h_vu_3) (cwV 1 hts (gV tw_606 tw_607 tw_608 tw_13 tw_609) rfl rfl rfl (by decide +kernel) ⟨Nat.le_of_ble_eq_true rfl, Nat.le_of_ble_eq_true rfl⟩) (tg_preV hw hK hSD hA (ci := 1) (q := (RX1, TX1, 3)) rfl h_vu_2 rfl) rfl rfl hl.1 rfl (lv_room (Nat.le_of_ble_eq_true rfl)) dX9_stand_19 ⟨Nat.le_of_ble_eq_true rfl, Nat.le_of_ble_eq_true rfl⟩) hw hA ⟨by decide, by decide⟩ (fun ws H locs hp_v_4 hw hF9 => ?_)
    refine lv_aload_n hx hb dX9_stand_22 rfl (lv_at hl 0 rfl) ?_
    refine lv_aload_n hx hb dX9_stand_23 rfl (lv_at hl 0 rfl) ?_
    refine tg_get (ci := 9) (ts := ty_WP) (C := RX9) (T := TX9) (N := 15) hx hb hts inX9 hown hK hw h_p0 rfl rfl 1 (by decide) (hts _ tw_347) (fun _ h9 => h9) (ft := vR 24) rfl dX9_stand_24 (fun u_5 hv_u_5 m_u_5 => ?_)
    obtain ⟨vu_5, rfl, h_vu_5⟩ := hv_u_5
    refine lv_iload_n hx hb dX9_stand_27 rfl (lv_at hl 1 rfl) ?_
    refine tk_i (va_runV (As := [.int p1]) (rest := [.ref p0]) ⟨hx, hb, hml, hown, hts⟩ (c_X8_standUp l D cy z H.size Ps ws hw.1 vu_5 p1 h_vu_5 r_p1) (cwV 1 hts (gV tw_628 tw_629 tw_630 tw_12 tw_631) rfl rfl rfl (by decide +kernel) ⟨Nat.le_of_ble_eq_true rfl, Nat.le_of_ble_eq_true rfl⟩) (tg_preV hw hK hSD hA (ci := 8) (q := (RX8, TX8, 13)) rfl h_vu_5 rfl) rfl rfl hl.1 rfl (lv_room (Nat.le_of_ble_eq_true rfl)) dX9_stand_28 ⟨Nat.le_of_ble_eq_true rfl, Nat.le_of_ble_eq_true rfl⟩) hw hA ⟨by decide, by decide⟩ (fun v_6 ws H locs hp_v_6 hw hF9 => ?_)
    have r_v_6 : RI v_6 0 1 := hp_v_6.1
    refine tk_i (va_runV (As := [.int v_6]) (rest := []) ⟨hx, hb, hml, hown, hts⟩ (c_X9_keptIfDone l D cy z H.size Ps ws hw.1 p0 v_6 h_p0 (r_v_6.to (by decide))) (cwV 1 hts (gV tw_615 tw_617 ts_12 tw_1 tw_618) rfl rfl rfl (by decide +kernel) ⟨Nat.le_of_ble_eq_true rfl, Nat.le_of_ble_eq_true rfl⟩) (tg_preV hw hK hSD hA (ci := 9) (q := (RX9, TX9, 15)) rfl h_p0 rfl) rfl rfl hl.1 rfl (lv_room (Nat.le_of_ble_eq_true rfl)) dX9_stand_31 ⟨Nat.le_of_ble_eq_true rfl, Nat.le_of_ble_eq_true rfl⟩) hw hA ⟨by decide, by decide⟩ (fun v_7 ws H locs hp_v_7 hw hF9 => ?_)
    have r_v_7 : RI v_7 (-2147483648) 2147483647 := hp_v_7.1
    subst hQ
    exact W.iret (v := v_7) hx hb hr (fun t ht hW => ⟨⟨v_7, ws, rfl, ⟨⟨r_v_7.to (by decide), (fun h0 => trivial), (fun h0 => trivial)⟩, hw.1, hw.2.2.2.2.1⟩, by rw [ht]; exact hw.2.1, va_K.moved hW.alike hK, hw.2.2.1⟩, hw.2.2.2.1.F ht⟩) hw.2.2.2.1.2.2 dX9_stand_34
  · have r_v_1 : RI v_1 0 0 := rc_eq1 r_v_1 rl_0 (ti_eq c_6) (by decide)
    refine lv_iconst (v := (-1)) hx hb dX9_stand_9 (by decide) ?_
    subst hQ
    exact W.iret (v := (-1)) hx hb hr (fun t ht hW => ⟨⟨(-1), w0, rfl, ⟨⟨rl_m1.to (by decide), (fun _ => trivial), (fun h0 => trivial)⟩, hw.1, hw.2.2.2.2.1⟩, by rw [ht]; exact hw.2.1, va_K.moved hW.alike hK, hw.2.2.1⟩, hw.2.2.2.1.F ht⟩) hw.2.2.2.1.2.2 dX9_stand_10
abbrev wr_X9_surely : List (Nat × Nat) := []
abbrev wa_X9_surely : List Nat := []
set_option maxHeartbeats 4000000 in
set_option maxRecDepth 100000 in
theorem c_X9_surely (l : Launch) (D : va_G) (cy : Nat → ClassId) (z : Nat → Nat) (sz : Nat) (Ps : PSI) (w0 : va_W) (hT : HT cy GG Ps w0) (p0 : Nat) (h_p0 : (p0, 33) ∈ Ps) : Met l yX9_surely (Cond.code yX9_surely cX9_surely 1 (some .int) :: gT) ({ frames := 0, cells := 0, slots := 0, locals := 200 } : Room) (va_Pc [.ref p0] (PRE D cy z w0 sz)) (va_Qi (fun (r : Int32) (u : Unit) => RI r (-2147483648) 2147483647 ∧ (r = 0 → True) ∧ (¬ r = 0 → True)) (BB D cy (va_A w0 sz) (fun (u : Unit) => w0)) (va_A w0 sz)) 0 0 (va_A w0 sz) := by
  refine Met.ofW (cc := cX9_surely) (maxL := 1) (ret := (some .int)) (by decide) rfl ?_
  intro p e s m args below meth c s₁ B hml hv
  obtain ⟨rfl, hsz, hP, hK, hD0, hSD⟩ := hv
  have hx := B.exec
  have hb := B.bytes
  have hr := B.returns
  have hlocks := B.notSynchronized
  have hts : ∀ w ∈ gT, w.before _ s = true := fun w h => atoms_spec (ws := Cond.code yX9_surely cX9_surely 1 (some .int) :: gT) B.pre w (List.mem_cons_of_mem _ h)
  have hown : s.vm.findClass RX9 = some m.cls := findClass_of_methodNamed B.named
  subst hsz
  have hD := hD0.self (sz := s.heap.size)
  generalize hAe : va_A w0 s.heap.size = A at hD hSD ⊢
  have hA : ∀ q : Nat, s.heap.size ≤ q → A q := fun q h => by rw [← hAe]; exact Or.inr h
  have hl := lv_entry ([.ref p0]) (n := 1) (Nat.le_of_ble_eq_true rfl)
  rw [lg_entry_eq]
  generalize (lg_sl ([.ref p0]) ++ List.replicate (1 - (lg_sl ([.ref p0])).length) Slot.unset).toArray = ls at hl ⊢
  have hl : lv_has ls 1 [(0, .ref p0)] := hl
  refine nameQ (fun Q hQ => ?_)
  have hw : WD D cy GG A s wr_X9_surely wa_X9_surely Ps w0 Ps w0 s.heap [] := ⟨hT, hP, hD, va_S.rf, FR.rf, hT.1, [], (List.append_nil _).symm⟩
  refine lv_aload_n hx hb dX9_surely_0 rfl (lv_at hl 0 rfl) ?_
  refine tg_get (ci := 9) (ts := ty_WP) (C := RX9) (T := TX9) (N := 15) hx hb hts inX9 hown hK hw h_p0 rfl rfl 13 (by decide) (hts _ tw_359) (fun _ h9 => h9) (ft := vI (-2147483648) 2147483647) rfl dX9_surely_1 (fun u_1 hv_u_1 m_u_1 => ?_)
  obtain ⟨vu_1, rfl, r_vu_1⟩ := hv_u_1
  subst hQ
  exact W.iret (v := vu_1) hx hb hr (fun t ht hW => ⟨⟨vu_1, (), rfl, ⟨r_vu_1.to (by decide), (fun h0 => trivial), (fun h0 => trivial)⟩, by rw [ht]; exact hw.2.1, va_K.moved hW.alike hK, hw.2.2.1⟩, hw.2.2.2.1.F ht⟩) hw.2.2.2.1.2.2 dX9_surely_4
abbrev wr_X9_told : List (Nat × Nat) := []
abbrev wa_X9_told : List Nat := []
set_option maxHeartbeats 4000000 in
set_option maxRecDepth 100000 in
theorem c_X9_told (l : Launch) (D : va_G) (cy : Nat → ClassId) (z : Nat → Nat) (sz : Nat) (Ps : PSI) (w0 : va_W) (hT : HT cy GG Ps w0) (p0 : Nat) (p1 : Int32) (h_p0 : (p0, 33) ∈ Ps) (r_p1 : RI p1 (-2147483648) 2147483647) : Met l yX9_told (Cond.code yX9_told cX9_told 2 (some .int) :: gT) ({ frames := 0, cells := 0, slots := 0, locals := 200 } : Room) (va_Pc [.ref p0, .int p1] (PRE D cy z w0 sz)) (va_Qi (fun (r : Int32) (u : Unit) => RI r (-2147483648) 2147483647 ∧ (r = 0 → True) ∧ (¬ r = 0 → True)) (BB D cy (va_A w0 sz) (fun (u : Unit) => w0)) (va_A w0 sz)) 0 0 (va_A w0 sz) := by
  refine Met.ofW (cc := cX9_told) (maxL := 2) (ret := (some .int)) (by decide) rfl ?_
  intro p e s m args below meth c s₁ B hml hv
  obtain ⟨rfl, hsz, hP, hK, hD0, hSD⟩ := hv
  have hx := B.exec
  have hb := B.bytes
  have hr := B.returns
  have hlocks := B.notSynchronized
  have hts : ∀ w ∈ gT, w.before _ s = true := fun w h => atoms_spec (ws := Cond.code yX9_told cX9_told 2 (some .int) :: gT) B.pre w (List.mem_cons_of_mem _ h)
  have hown : s.vm.findClass RX9 = some m.cls := findClass_of_methodNamed B.named
  subst hsz
  have hD := hD0.self (sz := s.heap.size)
  generalize hAe : va_A w0 s.heap.size = A at hD hSD ⊢
  have hA : ∀ q : Nat, s.heap.size ≤ q → A q := fun q h => by rw [← hAe]; exact Or.inr h
  have hl := lv_entry ([.ref p0, .int p1]) (n := 2) (Nat.le_of_ble_eq_true rfl)
  rw [lg_entry_eq]
  generalize (lg_sl ([.ref p0, .int p1]) ++ List.replicate (2 - (lg_sl ([.ref p0, .int p1])).length) Slot.unset).toArray = ls at hl ⊢
  have hl : lv_has ls 2 [(0, .ref p0), (1, .int p1)] := hl
  refine nameQ (fun Q hQ => ?_)
  have hw : WD D cy GG A s wr_X9_told wa_X9_told Ps w0 Ps w0 s.heap [] := ⟨hT, hP, hD, va_S.rf, FR.rf, hT.1, [], (List.append_nil _).symm⟩
  refine lv_iload_n hx hb dX9_told_0 rfl (lv_at hl 1 rfl) ?_
  refine lv_if_lt (tgt := 22) hx hb dX9_told_1 (by decide) (fun c_1 => ?_) (fun c_1 => ?_)
  · have r_p1 : RI p1 (-2147483648) (-1) := rc_lt1 r_p1 rl_0 (ti_lt c_1) (by decide)
    refine lv_iconst (v := (-1)) hx hb dX9_told_22 (by decide) ?_
    subst hQ
    exact W.iret (v := (-1)) hx hb hr (fun t ht hW => ⟨⟨(-1), (), rfl, ⟨rl_m1.to (by decide), (fun _ => trivial), (fun h0 => trivial)⟩, by rw [ht]; exact hw.2.1, va_K.moved hW.alike hK, hw.2.2.1⟩, hw.2.2.2.1.F ht⟩) hw.2.2.2.1.2.2 dX9_told_23
  · have r_p1 : RI p1 0 2147483647 := rc_le2 rl_0 r_p1 (ti_nlt c_1) (by decide)
    refine lv_iload_n hx hb dX9_told_4 rfl (lv_at hl 1 rfl) ?_
    refine lv_aload_n hx hb dX9_told_5 rfl (lv_at hl 0 rfl) ?_
    refine tg_get (ci := 9) (ts := ty_WP) (C := RX9) (T := TX9) (N := 15) hx hb hts inX9 hown hK hw h_p0 rfl rfl 7 (by decide) (hts _ tw_353) (fun _ h9 => h9) (ft := vR 15) rfl dX9_told_6 (fun u_1 hv_u_1 m_u_1 => ?_)
    obtain ⟨vu_1, rfl, h_vu_1⟩ := hv_u_1
    refine tg_alenI (t0 := 1) (v := 4) hx hb hK hw h_vu_1 rfl rfl rfl dX9_told_9 ?_
    refine lv_icmp_ge (tgt := 22) hx hb dX9_told_10 (by decide) (fun c_10 => ?_) (fun c_10 => ?_)
    · have r_p1 : RI p1 4 2147483647 := rc_le2 rl_4 r_p1 (ti_le c_10) (by decide)
      refine lv_iconst (v := (-1)) hx hb dX9_told_22 (by decide) ?_
      subst hQ
      exact W.iret (v := (-1)) hx hb hr (fun t ht hW => ⟨⟨(-1), (), rfl, ⟨rl_m1.to (by decide), (fun _ => trivial), (fun h0 => trivial)⟩, by rw [ht]; exact hw.2.1, va_K.moved hW.alike hK, hw.2.2.1⟩, hw.2.2.2.1.F ht⟩) hw.2.2.2.1.2.2 dX9_told_23
    · have r_p1 : RI p1 0 3 := rc_lt1 r_p1 rl_4 (ti_nle c_10) (by decide)
      refine lv_aload_n hx hb dX9_told_13 rfl (lv_at hl 0 rfl) ?_
      refine tg_mem (ci := 9) (C := RX9) (T := TX9) (N := 15) hx hb hts inX9 hown hK hw 7 m_u_1 rfl (by decide) (hts _ tw_353) (fun _ h9 => h9) dX9_told_14 ?_
      refine lv_iload_n hx hb dX9_told_17 rfl (lv_at hl 1 rfl) ?_
      refine tg_iald (lo := (-2147483648)) (hi := 2147483647) hx hb hK hw h_vu_1 rfl 0 3 r_p1 (by decide) (by exact fun _ _ _ => ⟨Int.le_refl _, Int.le_refl _⟩) dX9_told_18 (fun v_2 r_v_2 m_v_2 o_v_2 => ?_)
      refine lv_goto (tgt := 23) hx hb dX9_told_19 (by decide) ?_
      subst hQ
      exact W.iret (v := v_2) hx hb hr (fun t ht hW => ⟨⟨v_2, (), rfl, ⟨r_v_2.to (by decide), (fun h0 => trivial), (fun h0 => trivial)⟩, by rw [ht]; exact hw.2.1, va_K.moved hW.alike hK, hw.2.2.1⟩, hw.2.2.2.1.F ht⟩) hw.2.2.2.1.2.2 dX9_told_23
abbrev wr_X9_undo : List (Nat × Nat) := [(1, 1), (1, 2), (8, 0), (8, 1)]
abbrev wa_X9_undo : List Nat := [8, 9, 10, 11, 12, 13]
set_option maxHeartbeats 4000000 in
set_option maxRecDepth 100000 in
theorem c_X9_undo (l : Launch) (D : va_G) (cy : Nat → ClassId) (z : Nat → Nat) (sz : Nat) (Ps : PSI) (w0 : va_W) (hT : HT cy GG Ps w0) (p0 : Nat) (h_p0 : (p0, 33) ∈ Ps) : Met l yX9_undo (Cond.code yX9_undo cX9_undo 1 (some .int) :: gT) ({ frames := 4, cells := 0, slots := 0, locals := 800 } : Room) (va_Pc [.ref p0] (PRE D cy z w0 sz)) (va_Qi (fun (r : Int32) (u : va_W) => (RI r (-2147483648) 2147483647 ∧ (r = 0 → True) ∧ (¬ r = 0 → True)) ∧ HT cy GG Ps u ∧ FR wr_X9_undo wa_X9_undo Ps w0 u) (BB D cy (va_A w0 sz) (fun (u : va_W) => u)) (va_A w0 sz)) 0 0 (va_A w0 sz) := by
  refine Met.ofW (cc := cX9_undo) (maxL := 1) (ret := (some .int)) (by decide) rfl ?_
  intro p e s m args below meth c s₁ B hml hv
  obtain ⟨rfl, hsz, hP, hK, hD0, hSD⟩ := hv
  have hx := B.exec
  have hb := B.bytes
  have hr := B.returns
  have hlocks := B.notSynchronized
  have hts : ∀ w ∈ gT, w.before _ s = true := fun w h => atoms_spec (ws := Cond.code yX9_undo cX9_undo 1 (some .int) :: gT) B.pre w (List.mem_cons_of_mem _ h)
  have hown : s.vm.findClass RX9 = some m.cls := findClass_of_methodNamed B.named
  subst hsz
  have hD := hD0.self (sz := s.heap.size)
  generalize hAe : va_A w0 s.heap.size = A at hD hSD ⊢
  have hA : ∀ q : Nat, s.heap.size ≤ q → A q := fun q h => by rw [← hAe]; exact Or.inr h
  have hl := lv_entry ([.ref p0]) (n := 1) (Nat.le_of_ble_eq_true rfl)
  rw [lg_entry_eq]
  generalize (lg_sl ([.ref p0]) ++ List.replicate (1 - (lg_sl ([.ref p0])).length) Slot.unset).toArray = ls at hl ⊢
  have hl : lv_has ls 1 [(0, .ref p0)] := hl
  refine nameQ (fun Q hQ => ?_)
  have hw : WD D cy GG A s wr_X9_undo wa_X9_undo Ps w0 Ps w0 s.heap [] := ⟨hT, hP, hD, va_S.rf, FR.rf, hT.1, [], (List.append_nil _).symm⟩
  refine lv_aload_n hx hb dX9_undo_0 rfl (lv_at hl 0 rfl) ?_
  refine tg_get (ci := 9) (ts := ty_WP) (C := RX9) (T := TX9) (N := 15) hx hb hts inX9 hown hK hw h_p0 rfl rfl 3 (by decide) (hts _ tw_349) (fun _ h9 => h9) (ft := vR 27) rfl dX9_undo_1 (fun u_1 hv_u_1 m_u_1 => ?_)
  obtain ⟨vu_1, rfl, h_vu_1⟩ := hv_u_1
  refine lv_aload_n hx hb dX9_undo_4 rfl (lv_at hl 0 rfl) ?_
  refine tg_get (ci := 9) (ts := ty_WP) (C := RX9) (T := TX9) (N := 15) hx hb hts inX9 hown hK hw h_p0 rfl rfl 1 (by decide) (hts _ tw_347) (fun _ h9 => h9) (ft := vR 24) rfl dX9_undo_5 (fun u_2 hv_u_2 m_u_2 => ?_)
  obtain ⟨vu_2, rfl, h_vu_2⟩ := hv_u_2
  refine tk_i (va_runV (As := [.ref vu_2]) (rest := []) ⟨hx, hb, hml, hown, hts⟩ (c_X1_giveBack l D cy z s.heap.size Ps w0 hw.1 vu_1 vu_2 h_vu_1 h_vu_2) (cwV 1 hts (gV tw_717 tw_718 tw_719 tw_13 tw_720) rfl rfl rfl (by decide +kernel) ⟨Nat.le_of_ble_eq_true rfl, Nat.le_of_ble_eq_true rfl⟩) (tg_preV hw hK hSD hA (ci := 1) (q := (RX1, TX1, 3)) rfl h_vu_1 rfl) rfl rfl hl.1 rfl (lv_room (Nat.le_of_ble_eq_true rfl)) dX9_undo_8 ⟨Nat.le_of_ble_eq_true rfl, Nat.le_of_ble_eq_true rfl⟩) hw hA ⟨by decide, by decide⟩ (fun v_3 ws H locs hp_v_3 hw hF9 => ?_)
  have r_v_3 : RI v_3 (-2147483648) 2147483647 := hp_v_3.1
  subst hQ
  exact W.iret (v := v_3) hx hb hr (fun t ht hW => ⟨⟨v_3, ws, rfl, ⟨⟨r_v_3.to (by decide), (fun h0 => trivial), (fun h0 => trivial)⟩, hw.1, hw.2.2.2.2.1⟩, by rw [ht]; exact hw.2.1, va_K.moved hW.alike hK, hw.2.2.1⟩, hw.2.2.2.1.F ht⟩) hw.2.2.2.1.2.2 dX9_undo_11
abbrev wr_X9_when : List (Nat × Nat) := []
abbrev wa_X9_when : List Nat := [14]
set_option maxHeartbeats 4000000 in
set_option maxRecDepth 100000 in
theorem c_X9_when (l : Launch) (D : va_G) (cy : Nat → ClassId) (z : Nat → Nat) (sz : Nat) (Ps : PSI) (w0 : va_W) (hT : HT cy GG Ps w0) (p0 : Nat) (p1 : Int32) (p2 : Int32) (h_p0 : (p0, 33) ∈ Ps) (r_p1 : RI p1 (-2147483648) 2147483647) (r_p2 : RI p2 (-2147483648) 2147483647) : Met l yX9_when (Cond.code yX9_when cX9_when 5 (some .int) :: gT) ({ frames := 3, cells := 0, slots := 0, locals := 600 } : Room) (va_Pc [.ref p0, .int p1, .int p2] (PRE D cy z w0 sz)) (va_Qi (fun (r : Int32) (u : va_W) => (RI r (-1) 60 ∧ (r = 0 → True) ∧ (¬ r = 0 → True)) ∧ HT cy GG Ps u ∧ FR wr_X9_when wa_X9_when Ps w0 u) (BB D cy (va_A w0 sz) (fun (u : va_W) => u)) (va_A w0 sz)) 0 0 (va_A w0 sz) := by
  refine Met.ofW (cc := cX9_when) (maxL := 5) (ret := (some .int)) (by decide) rfl ?_
  intro p e s m args below meth c s₁ B hml hv
  obtain ⟨rfl, hsz, hP, hK, hD0, hSD⟩ := hv
  have hx := B.exec
  have hb := B.bytes
  have hr := B.returns
  have hlocks := B.notSynchronized
  have hts : ∀ w ∈ gT, w.before _ s = true := fun w h => atoms_spec (ws := Cond.code yX9_when cX9_when 5 (some .int) :: gT) B.pre w (List.mem_cons_of_mem _ h)
  have hown : s.vm.findClass RX9 = some m.cls := findClass_of_methodNamed B.named
  subst hsz
  have hD := hD0.self (sz := s.heap.size)
  generalize hAe : va_A w0 s.heap.size = A at hD hSD ⊢
  have hA : ∀ q : Nat, s.heap.size ≤ q → A q := fun q h => by rw [← hAe]; exact Or.inr h
  have hl := lv_entry ([.ref p0, .int p1, .int p2]) (n := 5) (Nat.le_of_ble_eq_true rfl)
  rw [lg_entry_eq]
  generalize (lg_sl ([.ref p0, .int p1, .int p2]) ++ List.replicate (5 - (lg_sl ([.ref p0, .int p1, .int p2])).length) Slot.unset).toArray = ls at hl ⊢
  have hl : lv_has ls 5 [(0, .ref p0), (1, .int p1), (2, .int p2)] := hl
  refine nameQ (fun Q hQ => ?_)
  have hw : WD D cy GG A s wr_X9_when wa_X9_when Ps w0 Ps w0 s.heap [] := ⟨hT, hP, hD, va_S.rf, FR.rf, hT.1, [], (List.append_nil _).symm⟩
  have B45 : ∀ (nf : Nat) (x3 : Int32) (x4 : Int32) (ws : va_W) (H : Heap) (locs : List Loc) (ls : Array Slot), 61 - x4.toInt < (nf : Int) → RI p1 0 5 → RI p2 0 5 → RI x3 0 60 → RI x4 0 61 → WD D cy GG A s wr_X9_when wa_X9_when Ps w0 Ps ws H locs → lv_has ls 5 [(0, .ref p0), (1, .int p1), (2, .int p2), (3, .int x3), (4, .int x4)] → W p l e (headSpec (Cond.code yX9_when cX9_when 5 (some .int) :: gT) ({ frames := 3, cells := 0, slots := 0, locals := 600 } : Room)).room s m ([.ref p0, .int p1, .int p2] : List Value).toArray below meth c H locs 0 0 Q (F0 m 45 ls []) := by
    intro nf45
    induction nf45 with
    | zero =>
      intro x3 x4 ws H locs ls hn45 r_p1 r_p2 r_x3 r_x4 hw hl
      exact absurd hn45 (by have q0 := r_x4.1; have u0 := r_x4.2; omega)
    | succ nf45 ih45 =>
      intro x3 x4 ws H locs ls hn45 r_p1 r_p2 r_x3 r_x4 hw hl
      refine lv_iload hx hb dX9_when_45 (lv_at hl 4 rfl) ?_
      refine lv_iload_n hx hb dX9_when_47 rfl (lv_at hl 3 rfl) ?_
      refine lv_icmp_gt (tgt := 74) hx hb dX9_when_48 (by decide) (fun c_48 => ?_) (fun c_48 => ?_)
      · have r_x4 : RI x4 1 61 := rc_lt2 r_x3 r_x4 (ti_lt c_48) (by decide)
        refine lv_iconst (v := (-1)) hx hb dX9_when_74 (by decide) ?_
        subst hQ
        exact W.iret (v := (-1)) hx hb hr (fun t ht hW => ⟨⟨(-1), ws, rfl, ⟨⟨rl_m1.to (by decide), (fun _ => trivial), (fun h0 => trivial)⟩, hw.1, hw.2.2.2.2.1⟩, by rw [ht]; exact hw.2.1, va_K.moved hW.alike hK, hw.2.2.1⟩, hw.2.2.2.1.F ht⟩) hw.2.2.2.1.2.2 dX9_when_75
      · have r_x4 : RI x4 0 60 := rc_le1 r_x4 r_x3 (ti_nlt c_48) (by decide)
        refine lv_aload_n hx hb dX9_when_51 rfl (lv_at hl 0 rfl) ?_
        refine tg_get (ci := 9) (ts := ty_WP) (C := RX9) (T := TX9) (N := 15) hx hb hts inX9 hown hK hw h_p0 rfl rfl 1 (by decide) (hts _ tw_347) (fun _ h9 => h9) (ft := vR 24) rfl dX9_when_52 (fun u_1 hv_u_1 m_u_1 => ?_)
        obtain ⟨vu_1, rfl, h_vu_1⟩ := hv_u_1
        refine lv_iload_n hx hb dX9_when_55 rfl (lv_at hl 1 rfl) ?_
        refine lv_iload hx hb dX9_when_56 (lv_at hl 4 rfl) ?_
        refine tk_ir (va_runV (As := [.int p1, .int x4]) (rest := []) ⟨hx, hb, hml, hown, hts⟩ (c_X8_becomes l D cy z H.size Ps ws hw.1 vu_1 p1 x4 h_vu_1 r_p1 (r_x4.to (by decide))) (cwV 2 hts (gV tw_728 tw_574 tw_575 tw_12 tw_576) rfl rfl rfl (by decide +kernel) ⟨Nat.le_of_ble_eq_true rfl, Nat.le_of_ble_eq_true rfl⟩) (tg_preV hw hK hSD hA (ci := 8) (q := (RX8, TX8, 13)) rfl h_vu_1 rfl) rfl rfl hl.1 rfl (lv_room (Nat.le_of_ble_eq_true rfl)) dX9_when_58 ⟨Nat.le_of_ble_eq_true rfl, Nat.le_of_ble_eq_true rfl⟩) hw hA (fun v_2  H locs hp_v_2 hw => ?_)
        have r_v_2 : RI v_2 (-1) 5 := hp_v_2.1
        refine lv_iload_n hx hb dX9_when_61 rfl (lv_at hl 2 rfl) ?_
        refine lv_icmp_ne (tgt := 68) hx hb dX9_when_62 (by decide) (fun c_62 => ?_) (fun c_62 => ?_)
        · obtain ⟨v_3, e_v_3⟩ : ∃ q9 : Int32, q9 = x4 + Int32.ofInt 1 := ⟨_, rfl⟩
          obtain ⟨t_v_3, r_v_3⟩ := tq_add (lo := 1) (hi := 61) r_x4 (show RI (Int32.ofInt 1) 1 1 by unfold RI; decide +kernel) (by decide +kernel) e_v_3
          have t_v_3 : v_3.toInt = x4.toInt + 1 := t_v_3
          refine lv_iinc (v := v_3) (lv' := [(4, .int v_3), (0, .ref p0), (1, .int p1), (2, .int p2), (3, .int x3)]) hx hb dX9_when_68 hl (k := 4) rfl e_v_3.symm (by decide) rfl (fun ls hl => ?_)
          refine lv_goto (tgt := 45) hx hb dX9_when_71 (by decide) ?_
          exact ih45 x3 v_3 ws _ _ ls (by have q0 := r_v_3.1; have u0 := r_v_3.2; have o0 := r_x4.1; have p0 := r_x4.2; omega) r_p1 r_p2 r_x3 (r_v_3.to (by decide)) hw (lv_sub hl [1, 2, 3, 4, 0] rfl)
        · have r_v_2 : RI v_2 0 5 := rc_eq1 r_v_2 r_p2 (ti_eq c_62) (by decide)
          refine lv_iload hx hb dX9_when_65 (lv_at hl 4 rfl) ?_
          subst hQ
          exact W.iret (v := x4) hx hb hr (fun t ht hW => ⟨⟨x4, ws, rfl, ⟨⟨r_x4.to (by decide), (fun h0 => trivial), (fun h0 => trivial)⟩, hw.1, hw.2.2.2.2.1⟩, by rw [ht]; exact hw.2.1, va_K.moved hW.alike hK, hw.2.2.1⟩, hw.2.2.2.1.F ht⟩) hw.2.2.2.1.2.2 dX9_when_67
  refine lv_aload_n hx hb dX9_when_0 rfl (lv_at hl 0 rfl) ?_
  refine lv_iconst (v := 2) hx hb dX9_when_1 (by decide) ?_
  refine lv_iload_n hx hb dX9_when_2 rfl (lv_at hl 1 rfl) ?_
  refine tk_ir (va_runV (As := [.int 2, .int p1]) (rest := []) ⟨hx, hb, hml, hown, hts⟩ (c_X9_isOf l D cy z s.heap.size Ps w0 hw.1 p0 2 p1 h_p0 rl_2 r_p1) (cwV 2 hts (gV tw_540 tw_542 ts_10 tw_1 tw_543) rfl rfl rfl (by decide +kernel) ⟨Nat.le_of_ble_eq_true rfl, Nat.le_of_ble_eq_true rfl⟩) (tg_preV hw hK hSD hA (ci := 9) (q := (RX9, TX9, 15)) rfl h_p0 rfl) rfl rfl hl.1 rfl (lv_room (Nat.le_of_ble_eq_true rfl)) dX9_when_3 ⟨Nat.le_of_ble_eq_true rfl, Nat.le_of_ble_eq_true rfl⟩) hw hA (fun v_4  H locs hp_v_4 hw => ?_)
  have r_v_4 : RI v_4 0 1 := hp_v_4.1
  refine lv_if_eq (tgt := 18) hx hb dX9_when_6 (by decide) (fun c_6 => ?_) (fun c_6 => ?_)
  · have r_v_4 : RI v_4 0 0 := rc_eq1 r_v_4 rl_0 (ti_eq c_6) (by decide)
    refine lv_iconst (v := (-1)) hx hb dX9_when_18 (by decide) ?_
    subst hQ
    exact W.iret (v := (-1)) hx hb hr (fun t ht hW => ⟨⟨(-1), w0, rfl, ⟨⟨rl_m1.to (by decide), (fun _ => trivial), (fun h0 => trivial)⟩, hw.1, hw.2.2.2.2.1⟩, by rw [ht]; exact hw.2.1, va_K.moved hW.alike hK, hw.2.2.1⟩, hw.2.2.2.1.F ht⟩) hw.2.2.2.1.2.2 dX9_when_19
  · have r_v_4 : RI v_4 1 1 := rc_neL r_v_4 rl_0 (ti_ne c_6) (by decide)
    have r_p1 : RI p1 0 5 := ((hp_v_4.2.2 c_6).1)
    refine lv_aload_n hx hb dX9_when_9 rfl (lv_at hl 0 rfl) ?_
    refine lv_iconst (v := 0) hx hb dX9_when_10 (by decide) ?_
    refine lv_iload_n hx hb dX9_when_11 rfl (lv_at hl 2 rfl) ?_
    refine tk_ir (va_runV (As := [.int 0, .int p2]) (rest := []) ⟨hx, hb, hml, hown, hts⟩ (c_X9_isOf__3 l D cy z H.size Ps w0 hw.1 p0 0 p2 h_p0 rl_0 r_p2) (cwV 2 hts (gV tw_540 tw_542 ts_10 tw_1 tw_543) rfl rfl rfl (by decide +kernel) ⟨Nat.le_of_ble_eq_true rfl, Nat.le_of_ble_eq_true rfl⟩) (tg_preV hw hK hSD hA (ci := 9) (q := (RX9, TX9, 15)) rfl h_p0 rfl) rfl rfl hl.1 rfl (lv_room (Nat.le_of_ble_eq_true rfl)) dX9_when_12 ⟨Nat.le_of_ble_eq_true rfl, Nat.le_of_ble_eq_true rfl⟩) hw hA (fun v_5  H locs hp_v_5 hw => ?_)
    have r_v_5 : RI v_5 0 1 := hp_v_5.1
    refine lv_if_ne (tgt := 20) hx hb dX9_when_15 (by decide) (fun c_15 => ?_) (fun c_15 => ?_)
    · have r_v_5 : RI v_5 1 1 := rc_neL r_v_5 rl_0 (ti_ne c_15) (by decide)
      have r_p2 : RI p2 0 5 := ((hp_v_5.2.2 c_15).1)
      refine lv_bipush (v := 60) hx hb dX9_when_20 (by decide) ?_
      refine lv_aload_n hx hb dX9_when_22 rfl (lv_at hl 0 rfl) ?_
      refine tg_get (ci := 9) (ts := ty_WP) (C := RX9) (T := TX9) (N := 15) hx hb hts inX9 hown hK hw h_p0 rfl rfl 1 (by decide) (hts _ tw_347) (fun _ h9 => h9) (ft := vR 24) rfl dX9_when_23 (fun u_6 hv_u_6 m_u_6 => ?_)
      obtain ⟨vu_6, rfl, h_vu_6⟩ := hv_u_6
      refine tk_ir (va_runV (As := []) (rest := [.int 60]) ⟨hx, hb, hml, hown, hts⟩ (c_X8_daysLeft l D cy z H.size Ps w0 hw.1 vu_6 h_vu_6) (cwV 0 hts (gV tw_725 tw_682 tw_683 tw_12 tw_684) rfl rfl rfl (by decide +kernel) ⟨Nat.le_of_ble_eq_true rfl, Nat.le_of_ble_eq_true rfl⟩) (tg_preV hw hK hSD hA (ci := 8) (q := (RX8, TX8, 13)) rfl h_vu_6 rfl) rfl rfl hl.1 rfl (lv_room (Nat.le_of_ble_eq_true rfl)) dX9_when_26 ⟨Nat.le_of_ble_eq_true rfl, Nat.le_of_ble_eq_true rfl⟩) hw hA (fun v_7  H locs hp_v_7 hw => ?_)
      have r_v_7 : RI v_7 0 2147483647 := hp_v_7.1
      refine va_mmin hx hb (hml.trans hl.1.symm) hown (hts _ tw_726) (hts _ tw_486) (hts _ tw_16) (hts _ tw_487) (Nat.le_of_ble_eq_true rfl) (Nat.le_of_ble_eq_true rfl) (Nat.le_of_ble_eq_true rfl) (Nat.le_of_ble_eq_true rfl) dX9_when_29 (lv_topi (fun v_8 e_v_8 => ?_))
      have r_v_8 : RI v_8 0 60 := by rw [e_v_8]; exact ri_min rl_60 r_v_7 (by decide)
      refine lv_istore_n (lv' := [(3, .int v_8), (0, .ref p0), (1, .int p1), (2, .int p2)]) hx hb dX9_when_32 rfl hl (by decide) rfl (fun ls hl => ?_)
      refine lv_aload_n hx hb dX9_when_33 rfl (lv_at hl 1 rfl) ?_
      refine tg_mem (ci := 9) (C := RX9) (T := TX9) (N := 15) hx hb hts inX9 hown hK hw 1 m_u_6 rfl (by decide) (hts _ tw_347) (fun _ h9 => h9) dX9_when_34 ?_
      refine lv_iload_n hx hb dX9_when_37 rfl (lv_at hl 2 rfl) ?_
      refine tk_i (va_runV (As := [.int p1]) (rest := []) ⟨hx, hb, hml, hown, hts⟩ (c_X8_reckonGain l D cy z H.size Ps w0 hw.1 vu_6 p1 h_vu_6 r_p1) (cwV 1 hts (gV tw_727 tw_690 tw_691 tw_12 tw_692) rfl rfl rfl (by decide +kernel) ⟨Nat.le_of_ble_eq_true rfl, Nat.le_of_ble_eq_true rfl⟩) (tg_preV hw hK hSD hA (ci := 8) (q := (RX8, TX8, 13)) rfl h_vu_6 rfl) rfl rfl hl.1 rfl (lv_room (Nat.le_of_ble_eq_true rfl)) dX9_when_38 ⟨Nat.le_of_ble_eq_true rfl, Nat.le_of_ble_eq_true rfl⟩) hw hA ⟨by decide, by decide⟩ (fun v_9 ws H locs hp_v_9 hw hF9 => ?_)
      have r_v_9 : RI v_9 0 1 := hp_v_9.1
      refine lv_pop hx hb dX9_when_41 rfl ?_
      refine lv_iconst (v := 0) hx hb dX9_when_42 (by decide) ?_
      refine lv_istore (lv' := [(4, .int 0), (3, .int v_8), (0, .ref p0), (1, .int p1), (2, .int p2)]) hx hb dX9_when_43 hl (by decide) rfl (fun ls hl => ?_)
      exact B45 4294967298 v_8 0 ws _ _ ls (by have q0 := rl_0.1; have u0 := rl_0.2; omega) r_p1 r_p2 r_v_8 (rl_0.to (by decide)) hw (lv_sub hl [2, 3, 4, 1, 0] rfl)
    · have r_v_5 : RI v_5 0 0 := rc_eq1 r_v_5 rl_0 (ti_eq c_15) (by decide)
      refine lv_iconst (v := (-1)) hx hb dX9_when_18 (by decide) ?_
      subst hQ
      exact W.iret (v := (-1)) hx hb hr (fun t ht hW => ⟨⟨(-1), w0, rfl, ⟨⟨rl_m1.to (by decide), (fun _ => trivial), (fun h0 => trivial)⟩, hw.1, hw.2.2.2.2.1⟩, by rw [ht]; exact hw.2.1, va_K.moved hW.alike hK, hw.2.2.1⟩, hw.2.2.2.1.F ht⟩) hw.2.2.2.1.2.2 dX9_when_19
abbrev wr_X9_wish : List (Nat × Nat) := [(1, 1), (1, 2), (8, 0), (8, 1)]
abbrev wa_X9_wish : List Nat := [8, 9, 10, 11, 12, 13]
set_option maxHeartbeats 4000000 in
set_option maxRecDepth 100000 in
theorem c_X9_wish (l : Launch) (D : va_G) (cy : Nat → ClassId) (z : Nat → Nat) (sz : Nat) (Ps : PSI) (w0 : va_W) (hT : HT cy GG Ps w0) (p0 : Nat) (p1 : Int32) (p2 : Int32) (h_p0 : (p0, 33) ∈ Ps) (r_p1 : RI p1 (-2147483648) 2147483647) (r_p2 : RI p2 (-2147483648) 2147483647) : Met l yX9_wish (Cond.code yX9_wish cX9_wish 3 (some .int) :: gT) ({ frames := 4, cells := 0, slots := 0, locals := 800 } : Room) (va_Pc [.ref p0, .int p1, .int p2] (PRE D cy z w0 sz)) (va_Qi (fun (r : Int32) (u : va_W) => (RI r (-2147483648) 2147483647 ∧ (r = 0 → True) ∧ (¬ r = 0 → True)) ∧ HT cy GG Ps u ∧ FR wr_X9_wish wa_X9_wish Ps w0 u) (BB D cy (va_A w0 sz) (fun (u : va_W) => u)) (va_A w0 sz)) 0 0 (va_A w0 sz) := by
  refine Met.ofW (cc := cX9_wish) (maxL := 3) (ret := (some .int)) (by decide) rfl ?_
  intro p e s m args below meth c s₁ B hml hv
  obtain ⟨rfl, hsz, hP, hK, hD0, hSD⟩ := hv
  have hx := B.exec
  have hb := B.bytes
  have hr := B.returns
  have hlocks := B.notSynchronized
  have hts : ∀ w ∈ gT, w.before _ s = true := fun w h => atoms_spec (ws := Cond.code yX9_wish cX9_wish 3 (some .int) :: gT) B.pre w (List.mem_cons_of_mem _ h)
  have hown : s.vm.findClass RX9 = some m.cls := findClass_of_methodNamed B.named
  subst hsz
  have hD := hD0.self (sz := s.heap.size)
  generalize hAe : va_A w0 s.heap.size = A at hD hSD ⊢
  have hA : ∀ q : Nat, s.heap.size ≤ q → A q := fun q h => by rw [← hAe]; exact Or.inr h
  have hl := lv_entry ([.ref p0, .int p1, .int p2]) (n := 3) (Nat.le_of_ble_eq_true rfl)
  rw [lg_entry_eq]
  generalize (lg_sl ([.ref p0, .int p1, .int p2]) ++ List.replicate (3 - (lg_sl ([.ref p0, .int p1, .int p2])).length) Slot.unset).toArray = ls at hl ⊢
  have hl : lv_has ls 3 [(0, .ref p0), (1, .int p1), (2, .int p2)] := hl
  refine nameQ (fun Q hQ => ?_)
  have hw : WD D cy GG A s wr_X9_wish wa_X9_wish Ps w0 Ps w0 s.heap [] := ⟨hT, hP, hD, va_S.rf, FR.rf, hT.1, [], (List.append_nil _).symm⟩
  refine lv_aload_n hx hb dX9_wish_0 rfl (lv_at hl 0 rfl) ?_
  refine lv_iconst (v := 3) hx hb dX9_wish_1 (by decide) ?_
  refine lv_iload_n hx hb dX9_wish_2 rfl (lv_at hl 1 rfl) ?_
  refine tk_ir (va_runV (As := [.int 3, .int p1]) (rest := []) ⟨hx, hb, hml, hown, hts⟩ (c_X9_isOf__2 l D cy z s.heap.size Ps w0 hw.1 p0 3 p1 h_p0 rl_3 r_p1) (cwV 2 hts (gV tw_540 tw_542 ts_10 tw_1 tw_543) rfl rfl rfl (by decide +kernel) ⟨Nat.le_of_ble_eq_true rfl, Nat.le_of_ble_eq_true rfl⟩) (tg_preV hw hK hSD hA (ci := 9) (q := (RX9, TX9, 15)) rfl h_p0 rfl) rfl rfl hl.1 rfl (lv_room (Nat.le_of_ble_eq_true rfl)) dX9_wish_3 ⟨Nat.le_of_ble_eq_true rfl, Nat.le_of_ble_eq_true rfl⟩) hw hA (fun v_1  H locs hp_v_1 hw => ?_)
  have r_v_1 : RI v_1 0 1 := hp_v_1.1
  refine lv_if_eq (tgt := 18) hx hb dX9_wish_6 (by decide) (fun c_6 => ?_) (fun c_6 => ?_)
  · have r_v_1 : RI v_1 0 0 := rc_eq1 r_v_1 rl_0 (ti_eq c_6) (by decide)
    refine lv_iconst (v := (-1)) hx hb dX9_wish_18 (by decide) ?_
    subst hQ
    exact W.iret (v := (-1)) hx hb hr (fun t ht hW => ⟨⟨(-1), w0, rfl, ⟨⟨rl_m1.to (by decide), (fun _ => trivial), (fun h0 => trivial)⟩, hw.1, hw.2.2.2.2.1⟩, by rw [ht]; exact hw.2.1, va_K.moved hW.alike hK, hw.2.2.1⟩, hw.2.2.2.1.F ht⟩) hw.2.2.2.1.2.2 dX9_wish_19
  · have r_v_1 : RI v_1 1 1 := rc_neL r_v_1 rl_0 (ti_ne c_6) (by decide)
    have r_p1 : RI p1 0 7 := ((hp_v_1.2.2 c_6).1)
    refine lv_aload_n hx hb dX9_wish_9 rfl (lv_at hl 0 rfl) ?_
    refine lv_iconst (v := 0) hx hb dX9_wish_10 (by decide) ?_
    refine lv_iload_n hx hb dX9_wish_11 rfl (lv_at hl 2 rfl) ?_
    refine tk_ir (va_runV (As := [.int 0, .int p2]) (rest := []) ⟨hx, hb, hml, hown, hts⟩ (c_X9_isOf__3 l D cy z H.size Ps w0 hw.1 p0 0 p2 h_p0 rl_0 r_p2) (cwV 2 hts (gV tw_540 tw_542 ts_10 tw_1 tw_543) rfl rfl rfl (by decide +kernel) ⟨Nat.le_of_ble_eq_true rfl, Nat.le_of_ble_eq_true rfl⟩) (tg_preV hw hK hSD hA (ci := 9) (q := (RX9, TX9, 15)) rfl h_p0 rfl) rfl rfl hl.1 rfl (lv_room (Nat.le_of_ble_eq_true rfl)) dX9_wish_12 ⟨Nat.le_of_ble_eq_true rfl, Nat.le_of_ble_eq_true rfl⟩) hw hA (fun v_2  H locs hp_v_2 hw => ?_)
    have r_v_2 : RI v_2 0 1 := hp_v_2.1
    refine lv_if_ne (tgt := 20) hx hb dX9_wish_15 (by decide) (fun c_15 => ?_) (fun c_15 => ?_)
    · have r_v_2 : RI v_2 1 1 := rc_neL r_v_2 rl_0 (ti_ne c_15) (by decide)
      have r_p2 : RI p2 0 5 := ((hp_v_2.2.2 c_15).1)
      refine lv_aload_n hx hb dX9_wish_20 rfl (lv_at hl 0 rfl) ?_
      refine tg_get (ci := 9) (ts := ty_WP) (C := RX9) (T := TX9) (N := 15) hx hb hts inX9 hown hK hw h_p0 rfl rfl 3 (by decide) (hts _ tw_349) (fun _ h9 => h9) (ft := vR 27) rfl dX9_wish_21 (fun u_3 hv_u_3 m_u_3 => ?_)
      obtain ⟨vu_3, rfl, h_vu_3⟩ := hv_u_3
      refine lv_aload_n hx hb dX9_wish_24 rfl (lv_at hl 0 rfl) ?_
      refine tg_get (ci := 9) (ts := ty_WP) (C := RX9) (T := TX9) (N := 15) hx hb hts inX9 hown hK hw h_p0 rfl rfl 1 (by decide) (hts _ tw_347) (fun _ h9 => h9) (ft := vR 24) rfl dX9_wish_25 (fun u_4 hv_u_4 m_u_4 => ?_)
      obtain ⟨vu_4, rfl, h_vu_4⟩ := hv_u_4
      refine tk_v (va_runV (As := [.ref vu_4]) (rest := []) ⟨hx, hb, hml, hown, hts⟩ (c_X1_prepare l D cy z H.size Ps w0 hw.1 vu_3 vu_4 h_vu_3 h_vu_4) (cwV 1 hts (gV tw_606 tw_607 tw_608 tw_13 tw_609) rfl rfl rfl (by decide +kernel) ⟨Nat.le_of_ble_eq_true rfl, Nat.le_of_ble_eq_true rfl⟩) (tg_preV hw hK hSD hA (ci := 1) (q := (RX1, TX1, 3)) rfl h_vu_3 rfl) rfl rfl hl.1 rfl (lv_room (Nat.le_of_ble_eq_true rfl)) dX9_wish_28 ⟨Nat.le_of_ble_eq_true rfl, Nat.le_of_ble_eq_true rfl⟩) hw hA ⟨by decide, by decide⟩ (fun ws H locs hp_v_5 hw hF9 => ?_)
      refine lv_aload_n hx hb dX9_wish_31 rfl (lv_at hl 0 rfl) ?_
      refine lv_aload_n hx hb dX9_wish_32 rfl (lv_at hl 0 rfl) ?_
      refine tg_get (ci := 9) (ts := ty_WP) (C := RX9) (T := TX9) (N := 15) hx hb hts inX9 hown hK hw h_p0 rfl rfl 1 (by decide) (hts _ tw_347) (fun _ h9 => h9) (ft := vR 24) rfl dX9_wish_33 (fun u_6 hv_u_6 m_u_6 => ?_)
      obtain ⟨vu_6, rfl, h_vu_6⟩ := hv_u_6
      refine lv_iload_n hx hb dX9_wish_36 rfl (lv_at hl 1 rfl) ?_
      refine lv_iload_n hx hb dX9_wish_37 rfl (lv_at hl 2 rfl) ?_
      refine tk_i (va_runV (As := [.int p1, .int p2]) (rest := [.ref p0]) ⟨hx, hb, hml, hown, hts⟩ (c_X8_wishFor l D cy z H.size Ps ws hw.1 vu_6 p1 p2 h_vu_6 r_p1 r_p2) (cwV 2 hts (gV tw_636 tw_637 tw_638 tw_12 tw_639) rfl rfl rfl (by decide +kernel) ⟨Nat.le_of_ble_eq_true rfl, Nat.le_of_ble_eq_true rfl⟩) (tg_preV hw hK hSD hA (ci := 8) (q := (RX8, TX8, 13)) rfl h_vu_6 rfl) rfl rfl hl.1 rfl (lv_room (Nat.le_of_ble_eq_true rfl)) dX9_wish_38 ⟨Nat.le_of_ble_eq_true rfl, Nat.le_of_ble_eq_true rfl⟩) hw hA ⟨by decide, by decide⟩ (fun v_7 ws H locs hp_v_7 hw hF9 => ?_)
      have r_v_7 : RI v_7 0 1 := hp_v_7.1
      refine tk_i (va_runV (As := [.int v_7]) (rest := []) ⟨hx, hb, hml, hown, hts⟩ (c_X9_keptIfDone l D cy z H.size Ps ws hw.1 p0 v_7 h_p0 (r_v_7.to (by decide))) (cwV 1 hts (gV tw_615 tw_617 ts_12 tw_1 tw_618) rfl rfl rfl (by decide +kernel) ⟨Nat.le_of_ble_eq_true rfl, Nat.le_of_ble_eq_true rfl⟩) (tg_preV hw hK hSD hA (ci := 9) (q := (RX9, TX9, 15)) rfl h_p0 rfl) rfl rfl hl.1 rfl (lv_room (Nat.le_of_ble_eq_true rfl)) dX9_wish_41 ⟨Nat.le_of_ble_eq_true rfl, Nat.le_of_ble_eq_true rfl⟩) hw hA ⟨by decide, by decide⟩ (fun v_8 ws H locs hp_v_8 hw hF9 => ?_)
      have r_v_8 : RI v_8 (-2147483648) 2147483647 := hp_v_8.1
      subst hQ
      exact W.iret (v := v_8) hx hb hr (fun t ht hW => ⟨⟨v_8, ws, rfl, ⟨⟨r_v_8.to (by decide), (fun h0 => trivial), (fun h0 => trivial)⟩, hw.1, hw.2.2.2.2.1⟩, by rw [ht]; exact hw.2.1, va_K.moved hW.alike hK, hw.2.2.1⟩, hw.2.2.2.1.F ht⟩) hw.2.2.2.1.2.2 dX9_wish_44
    · have r_v_2 : RI v_2 0 0 := rc_eq1 r_v_2 rl_0 (ti_eq c_15) (by decide)
      refine lv_iconst (v := (-1)) hx hb dX9_wish_18 (by decide) ?_
      subst hQ
      exact W.iret (v := (-1)) hx hb hr (fun t ht hW => ⟨⟨(-1), w0, rfl, ⟨⟨rl_m1.to (by decide), (fun _ => trivial), (fun h0 => trivial)⟩, hw.1, hw.2.2.2.2.1⟩, by rw [ht]; exact hw.2.1, va_K.moved hW.alike hK, hw.2.2.1⟩, hw.2.2.2.1.F ht⟩) hw.2.2.2.1.2.2 dX9_wish_19
