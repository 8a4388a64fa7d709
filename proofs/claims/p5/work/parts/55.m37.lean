abbrev vw_TT : VW := (7, [2], [], [(0, 2)], [(1, 0)])
abbrev vw_MT : VW := (10, [2], [], [(1, 40)], [])
def f_X7_hasPlaceForTwenty__1 (s0 : OS) : Int32 := (if (940 : Int32) < ((s0.1 2) + (20 : Int32)) then ((0 : Int32)) else ((1 : Int32)))
abbrev wr_X7_hasPlaceForTwenty__1 : List (Nat × Nat) := []
abbrev wa_X7_hasPlaceForTwenty__1 : List Nat := []
set_option maxHeartbeats 4000000 in
set_option maxRecDepth 100000 in
theorem c_X7_hasPlaceForTwenty__1 (l : Launch) (D : va_G) (cy : Nat → ClassId) (z : Nat → Nat) (sz : Nat) (Ps : PSI) (w0 : va_W) (hT : HT cy GG Ps w0) (p0 : Nat) (s0 : OS) (h_p0 : (p0, 26) ∈ Ps) (o_p0 : OV vw_TT Ps w0 p0 s0) : Met l yX7_hasPlaceForTwenty (Cond.code yX7_hasPlaceForTwenty cX7_hasPlaceForTwenty 1 (some .boolean) :: gT) ({ frames := 0, cells := 0, slots := 0, locals := 200 } : Room) (va_Pc [.ref p0] (PRE D cy z w0 sz)) (va_Qi (fun (r : Int32) (u : Unit) => ((f_X7_hasPlaceForTwenty__1 s0) = r ∧ True) ∧ (RI r 0 1 ∧ (r = 0 → True) ∧ (¬ r = 0 → True))) (BB D cy (va_A w0 sz) (fun (u : Unit) => w0)) (va_A w0 sz)) 0 0 (va_A w0 sz) := by
  refine Met.ofW (cc := cX7_hasPlaceForTwenty) (maxL := 1) (ret := (some .boolean)) (by decide) rfl ?_
  intro p e s m args below meth c s₁ B hml hv
  obtain ⟨rfl, hsz, hP, hK, hD0, hSD⟩ := hv
  have hx := B.exec
  have hb := B.bytes
  have hr := B.returns
  have hlocks := B.notSynchronized
  have hts : ∀ w ∈ gT, w.before _ s = true := fun w h => atoms_spec (ws := Cond.code yX7_hasPlaceForTwenty cX7_hasPlaceForTwenty 1 (some .boolean) :: gT) B.pre w (List.mem_cons_of_mem _ h)
  have hown : s.vm.findClass RX7 = some m.cls := findClass_of_methodNamed B.named
  subst hsz
  have hD := hD0.self (sz := s.heap.size)
  generalize hAe : va_A w0 s.heap.size = A at hD hSD ⊢
  have hA : ∀ q : Nat, s.heap.size ≤ q → A q := fun q h => by rw [← hAe]; exact Or.inr h
  have hl := lv_entry ([.ref p0]) (n := 1) (Nat.le_of_ble_eq_true rfl)
  rw [lg_entry_eq]
  generalize (lg_sl ([.ref p0]) ++ List.replicate (1 - (lg_sl ([.ref p0])).length) Slot.unset).toArray = ls at hl ⊢
  have hl : lv_has ls 1 [(0, .ref p0)] := hl
  refine nameQ (fun Q hQ => ?_)
  have hw : WD D cy GG A s wr_X7_hasPlaceForTwenty__1 wa_X7_hasPlaceForTwenty__1 Ps w0 Ps w0 s.heap [] := ⟨hT, hP, hD, va_S.rf, FR.rf, hT.1, [], (List.append_nil _).symm⟩
  obtain ⟨R9, hR⟩ : ∃ q9 : Int32, f_X7_hasPlaceForTwenty__1 s0 = q9 := ⟨_, rfl⟩
  have hE := hR
  refine lv_aload_n hx hb dX7_hasPlaceForTwenty_0 rfl (lv_at hl 0 rfl) ?_
  refine tg_get (ci := 7) (ts := ty_TAPE) (C := RX7) (T := TX7) (N := 12) hx hb hts inX7 hown hK hw h_p0 rfl rfl 2 (by decide) (hts _ tw_89) (fun _ h9 => h9) (ft := vI 0 940) rfl dX7_hasPlaceForTwenty_1 (fun u_1 hv_u_1 m_u_1 => ?_)
  obtain ⟨vu_1, rfl, r_vu_1⟩ := hv_u_1
  have q_vu_1 : s0.1 2 = vu_1 := OV.eqI (V := vw_TT) hw.2.2.1 o_p0 m_u_1 (by decide)
  refine lv_bipush (v := 20) hx hb dX7_hasPlaceForTwenty_4 (by decide) ?_
  refine lv_iadd hx hb dX7_hasPlaceForTwenty_6 (lv_topi (fun v_2 e_v_2 => ?_))
  obtain ⟨t_v_2, r_v_2⟩ := tq_add (lo := 20) (hi := 960) r_vu_1 rl_20 (by decide +kernel) e_v_2
  have t_v_2 : v_2.toInt = vu_1.toInt + 20 := t_v_2
  have q_v_2 : vu_1 + (20 : Int32) = v_2 := e_v_2.symm
  refine lv_aload_n hx hb dX7_hasPlaceForTwenty_7 rfl (lv_at hl 0 rfl) ?_
  refine tg_get (ci := 7) (ts := ty_TAPE) (C := RX7) (T := TX7) (N := 12) hx hb hts inX7 hown hK hw h_p0 rfl rfl 0 (by decide) (hts _ tw_87) (fun _ h9 => h9) (ft := vR 2) rfl dX7_hasPlaceForTwenty_8 (fun u_3 hv_u_3 m_u_3 => ?_)
  obtain ⟨vu_3, rfl, h_vu_3⟩ := hv_u_3
  refine tg_alenI (t0 := 0) (v := 940) hx hb hK hw h_vu_3 rfl rfl rfl dX7_hasPlaceForTwenty_11 ?_
  refine lv_icmp_gt (tgt := 19) hx hb dX7_hasPlaceForTwenty_12 (by decide) (fun c_12 => ?_) (fun c_12 => ?_)
  · have r_v_2 : RI v_2 941 960 := rc_lt2 rl_940 r_v_2 (ti_lt c_12) (by decide)
    have r_vu_1 : RI vu_1 921 940 := ⟨by have k1 := r_v_2.1; have k2 := r_vu_1.1; omega, by have k1 := r_v_2.2; have k2 := r_vu_1.2; omega⟩
    refine lv_iconst (v := 0) hx hb dX7_hasPlaceForTwenty_19 (by decide) ?_
    simp only [f_X7_hasPlaceForTwenty__1, ↓reduceIte, q_vu_1, q_v_2, eq_true c_12] at hE
    subst hQ
    exact W.zret (v := 0) hx hb hr (rfl) (fun t ht hW => ⟨⟨0, (), rfl, ⟨⟨(by rw [hR, ← hE]), trivial⟩, rl_0.to (by decide), (fun h0 => trivial), (fun _ => trivial)⟩, by rw [ht]; exact hw.2.1, va_K.moved hW.alike hK, hw.2.2.1⟩, hw.2.2.2.1.F ht⟩) hw.2.2.2.1.2.2 dX7_hasPlaceForTwenty_20
  · have r_v_2 : RI v_2 20 940 := rc_le1 r_v_2 rl_940 (ti_nlt c_12) (by decide)
    have r_vu_1 : RI vu_1 0 920 := ⟨by have k1 := r_v_2.1; have k2 := r_vu_1.1; omega, by have k1 := r_v_2.2; have k2 := r_vu_1.2; omega⟩
    refine lv_iconst (v := 1) hx hb dX7_hasPlaceForTwenty_15 (by decide) ?_
    refine lv_goto (tgt := 20) hx hb dX7_hasPlaceForTwenty_16 (by decide) ?_
    simp only [f_X7_hasPlaceForTwenty__1, ↓reduceIte, q_vu_1, q_v_2, eq_false c_12] at hE
    subst hQ
    exact W.zret (v := 1) hx hb hr (rfl) (fun t ht hW => ⟨⟨1, (), rfl, ⟨⟨(by rw [hR, ← hE]), trivial⟩, rl_1.to (by decide), (fun _ => trivial), (fun h0 => trivial)⟩, by rw [ht]; exact hw.2.1, va_K.moved hW.alike hK, hw.2.2.1⟩, hw.2.2.2.1.F ht⟩) hw.2.2.2.1.2.2 dX7_hasPlaceForTwenty_20
def f_X7_putFour__1_3 (p1 : Int32) : Nat → (Int32) → (OS) → OS
  | 0, _, _ => (dOS)
  | nf + 1, x2, s0 => (if x2 < (0 : Int32) then (s0) else (if (940 : Int32) ≤ (s0.1 2) then (s0) else ((f_X7_putFour__1_3 p1 nf) (x2 + ((-8) : Int32)) (sI (sA s0 0 (Int32.toNatClampNeg (s0.1 2)) (vp_nar .byte ((Int32.toInt8 ((Int32.toUInt32 p1 >>> (Int32.toUInt32 x2 &&& Int32.toUInt32 31)).toInt32)).toInt32))) 2 ((s0.1 2) + (1 : Int32))))))
def f_X7_putFour__1 (p1 : Int32) (s0 : OS) : OS := (f_X7_putFour__1_3 p1 4294967298 (24 : Int32) s0)
abbrev wr_X7_putFour__1 : List (Nat × Nat) := [(7, 2)]
abbrev wa_X7_putFour__1 : List Nat := [2]
set_option maxHeartbeats 4000000 in
set_option maxRecDepth 100000 in
theorem c_X7_putFour__1 (l : Launch) (D : va_G) (cy : Nat → ClassId) (z : Nat → Nat) (sz : Nat) (Ps : PSI) (w0 : va_W) (hT : HT cy GG Ps w0) (p0 : Nat) (p1 : Int32) (s0 : OS) (h_p0 : (p0, 26) ∈ Ps) (r_p1 : RI p1 (-2147483648) 2147483647) (o_p0 : OV vw_TT Ps w0 p0 s0) : Met l yX7_putFour (Cond.code yX7_putFour cX7_putFour 3 none :: gT) ({ frames := 0, cells := 0, slots := 0, locals := 200 } : Room) (va_Pc [.ref p0, .int p1] (PRE D cy z w0 sz)) (va_Qv (fun (u : va_W) => ((OV vw_TT Ps u p0 ((f_X7_putFour__1 p1 s0)) ∧ True) ∧ (True)) ∧ HT cy GG Ps u ∧ FR wr_X7_putFour__1 wa_X7_putFour__1 Ps w0 u) (BB D cy (va_A w0 sz) (fun (u : va_W) => u)) (va_A w0 sz)) 0 0 (va_A w0 sz) := by
  refine Met.ofW (cc := cX7_putFour) (maxL := 3) (ret := none) (by decide) rfl ?_
  intro p e s m args below meth c s₁ B hml hv
  obtain ⟨rfl, hsz, hP, hK, hD0, hSD⟩ := hv
  have hx := B.exec
  have hb := B.bytes
  have hr := B.returns
  have hlocks := B.notSynchronized
  have hts : ∀ w ∈ gT, w.before _ s = true := fun w h => atoms_spec (ws := Cond.code yX7_putFour cX7_putFour 3 none :: gT) B.pre w (List.mem_cons_of_mem _ h)
  have hown : s.vm.findClass RX7 = some m.cls := findClass_of_methodNamed B.named
  subst hsz
  have hD := hD0.self (sz := s.heap.size)
  generalize hAe : va_A w0 s.heap.size = A at hD hSD ⊢
  have hA : ∀ q : Nat, s.heap.size ≤ q → A q := fun q h => by rw [← hAe]; exact Or.inr h
  have hl := lv_entry ([.ref p0, .int p1]) (n := 3) (Nat.le_of_ble_eq_true rfl)
  rw [lg_entry_eq]
  generalize (lg_sl ([.ref p0, .int p1]) ++ List.replicate (3 - (lg_sl ([.ref p0, .int p1])).length) Slot.unset).toArray = ls at hl ⊢
  have hl : lv_has ls 3 [(0, .ref p0), (1, .int p1)] := hl
  refine nameQ (fun Q hQ => ?_)
  have hw : WD D cy GG A s wr_X7_putFour__1 wa_X7_putFour__1 Ps w0 Ps w0 s.heap [] := ⟨hT, hP, hD, va_S.rf, FR.rf, hT.1, [], (List.append_nil _).symm⟩
  obtain ⟨R9, hR⟩ : ∃ q9 : OS, f_X7_putFour__1 p1 s0 = q9 := ⟨_, rfl⟩
  have hE := hR
  have B3 : ∀ (nf : Nat) (x2 : Int32) (s0 : OS) (ws : va_W) (H : Heap) (locs : List Loc) (ls : Array Slot), x2.toInt - (-8) < (nf : Int) → RI p1 (-2147483648) 2147483647 → RI x2 (-8) 24 → OV vw_TT Ps ws p0 s0 → f_X7_putFour__1_3 p1 nf x2 s0 = R9 → WD D cy GG A s wr_X7_putFour__1 wa_X7_putFour__1 Ps w0 Ps ws H locs → lv_has ls 3 [(0, .ref p0), (1, .int p1), (2, .int x2)] → W p l e (headSpec (Cond.code yX7_putFour cX7_putFour 3 none :: gT) ({ frames := 0, cells := 0, slots := 0, locals := 200 } : Room)).room s m ([.ref p0, .int p1] : List Value).toArray below meth c H locs 0 0 Q (F0 m 3 ls []) := by
    intro nf3
    induction nf3 with
    | zero =>
      intro x2 s0 ws H locs ls hn3 r_p1 r_x2 o_p0 hE hw hl
      exact absurd hn3 (by have q0 := r_x2.1; have u0 := r_x2.2; omega)
    | succ nf3 ih3 =>
      intro x2 s0 ws H locs ls hn3 r_p1 r_x2 o_p0 hE hw hl
      refine lv_iload_n hx hb dX7_putFour_3 rfl (lv_at hl 2 rfl) ?_
      refine lv_if_lt (tgt := 48) hx hb dX7_putFour_4 (by decide) (fun c_4 => ?_) (fun c_4 => ?_)
      · have r_x2 : RI x2 (-8) (-1) := rc_lt1 r_x2 rl_0 (ti_lt c_4) (by decide)
        simp only [f_X7_putFour__1_3, ↓reduceIte, eq_true c_4] at hE
        subst hQ
        exact W.vret hx hb hr (fun t ht hW => ⟨⟨ws, rfl, ⟨⟨⟨(by rw [hR, ← hE]; exact o_p0), trivial⟩, trivial⟩, hw.1, hw.2.2.2.2.1⟩, by rw [ht]; exact hw.2.1, va_K.moved hW.alike hK, hw.2.2.1⟩, hw.2.2.2.1.F ht⟩) hw.2.2.2.1.2.2 dX7_putFour_48
      · have r_x2 : RI x2 0 24 := rc_le2 rl_0 r_x2 (ti_nlt c_4) (by decide)
        refine lv_aload_n hx hb dX7_putFour_7 rfl (lv_at hl 0 rfl) ?_
        refine tg_get (ci := 7) (ts := ty_TAPE) (C := RX7) (T := TX7) (N := 12) hx hb hts inX7 hown hK hw h_p0 rfl rfl 2 (by decide) (hts _ tw_89) (fun _ h9 => h9) (ft := vI 0 940) rfl dX7_putFour_8 (fun u_1 hv_u_1 m_u_1 => ?_)
        obtain ⟨vu_1, rfl, r_vu_1⟩ := hv_u_1
        have q_vu_1 : s0.1 2 = vu_1 := OV.eqI (V := vw_TT) hw.2.2.1 o_p0 m_u_1 (by decide)
        refine lv_aload_n hx hb dX7_putFour_11 rfl (lv_at hl 0 rfl) ?_
        refine tg_get (ci := 7) (ts := ty_TAPE) (C := RX7) (T := TX7) (N := 12) hx hb hts inX7 hown hK hw h_p0 rfl rfl 0 (by decide) (hts _ tw_87) (fun _ h9 => h9) (ft := vR 2) rfl dX7_putFour_12 (fun u_2 hv_u_2 m_u_2 => ?_)
        obtain ⟨vu_2, rfl, h_vu_2⟩ := hv_u_2
        refine tg_alenI (t0 := 0) (v := 940) hx hb hK hw h_vu_2 rfl rfl rfl dX7_putFour_15 ?_
        refine lv_icmp_ge (tgt := 48) hx hb dX7_putFour_16 (by decide) (fun c_16 => ?_) (fun c_16 => ?_)
        · have r_vu_1 : RI vu_1 940 940 := rc_le2 rl_940 r_vu_1 (ti_le c_16) (by decide)
          simp only [f_X7_putFour__1_3, ↓reduceIte, eq_false c_4, q_vu_1, eq_true c_16] at hE
          subst hQ
          exact W.vret hx hb hr (fun t ht hW => ⟨⟨ws, rfl, ⟨⟨⟨(by rw [hR, ← hE]; exact o_p0), trivial⟩, trivial⟩, hw.1, hw.2.2.2.2.1⟩, by rw [ht]; exact hw.2.1, va_K.moved hW.alike hK, hw.2.2.1⟩, hw.2.2.2.1.F ht⟩) hw.2.2.2.1.2.2 dX7_putFour_48
        · have r_vu_1 : RI vu_1 0 939 := rc_lt1 r_vu_1 rl_940 (ti_nle c_16) (by decide)
          refine lv_aload_n hx hb dX7_putFour_19 rfl (lv_at hl 0 rfl) ?_
          refine tg_mem (ci := 7) (C := RX7) (T := TX7) (N := 12) hx hb hts inX7 hown hK hw 0 m_u_2 rfl (by decide) (hts _ tw_87) (fun _ h9 => h9) dX7_putFour_20 ?_
          refine lv_aload_n hx hb dX7_putFour_23 rfl (lv_at hl 0 rfl) ?_
          refine tg_mem (ci := 7) (C := RX7) (T := TX7) (N := 12) hx hb hts inX7 hown hK hw 2 m_u_1 rfl (by decide) (hts _ tw_89) (fun _ h9 => h9) dX7_putFour_24 ?_
          refine lv_iload_n hx hb dX7_putFour_27 rfl (lv_at hl 1 rfl) ?_
          refine lv_iload_n hx hb dX7_putFour_28 rfl (lv_at hl 2 rfl) ?_
          obtain ⟨v_3, e_v_3⟩ : ∃ q9 : Int32, (Int32.toUInt32 p1 >>> (Int32.toUInt32 x2 &&& Int32.toUInt32 31)).toInt32 = q9 := ⟨_, rfl⟩
          refine lv_iushr (v := v_3) hx hb dX7_putFour_29 e_v_3 ?_
          have r_v_3 := ri_any v_3
          have q_v_3 : (Int32.toUInt32 p1 >>> (Int32.toUInt32 x2 &&& Int32.toUInt32 31)).toInt32 = v_3 := e_v_3
          obtain ⟨v_4, e_v_4⟩ : ∃ q9 : Int32, (fun x9 : Int32 => x9.toInt8.toInt32) v_3 = q9 := ⟨_, rfl⟩
          refine lv_i2b (v := v_4) hx hb dX7_putFour_30 e_v_4 ?_
          have r_v_4 : RI v_4 (-128) 127 := by rw [← e_v_4]; exact ri_i2b _
          have q_v_4 : (Int32.toInt8 v_3).toInt32 = v_4 := e_v_4
          have mo9 := m_u_2
          refine tg_bastE hx hb hK hw h_vu_2 rfl 0 939 r_vu_1 (by decide) (by decide) dX7_putFour_31 (fun ws H locs hw hF9 hU9 => ?_)
          have m_u_1 := FLD.over hF9 m_u_1 (by decide)
          have m_u_2 := FLD.over hF9 m_u_2 (by decide)
          obtain ⟨sg_5, q_sg_5⟩ : ∃ q9 : OS, sA s0 0 (Int32.toNatClampNeg vu_1) (vp_nar .byte v_4) = q9 := ⟨_, rfl⟩
          have o_p0 : OV vw_TT Ps ws p0 sg_5 := by rw [← q_sg_5]; exact OV.putA (V := vw_TT) (t := 2) hF9 hU9 o_p0 mo9 (by decide) (by decide)
          refine lv_aload_n hx hb dX7_putFour_32 rfl (lv_at hl 0 rfl) ?_
          refine lv_dup hx hb dX7_putFour_33 rfl ?_
          refine tg_mem (ci := 7) (C := RX7) (T := TX7) (N := 12) hx hb hts inX7 hown hK hw 2 m_u_1 rfl (by decide) (hts _ tw_89) (fun _ h9 => h9) dX7_putFour_34 ?_
          refine lv_iconst (v := 1) hx hb dX7_putFour_37 (by decide) ?_
          refine lv_iadd hx hb dX7_putFour_38 (lv_topi (fun v_6 e_v_6 => ?_))
          obtain ⟨t_v_6, r_v_6⟩ := tq_add (lo := 1) (hi := 940) r_vu_1 rl_1 (by decide +kernel) e_v_6
          have t_v_6 : v_6.toInt = vu_1.toInt + 1 := t_v_6
          have q_v_6 : vu_1 + (1 : Int32) = v_6 := e_v_6.symm
          refine tg_put (ci := 7) (ts := ty_TAPE) (v := .int v_6) (ty := .int) (C := RX7) (T := TX7) (N := 12) hx hb hts inX7 tyX7 tyX7_ok nmX7 hown hK hw h_p0 rfl rfl 2 (by decide) (hts _ tw_89) (fun _ h9 => h9) rfl (by decide +kernel) rfl rfl (ft := vI 0 940) rfl ⟨_, rfl, (r_v_6.to (by decide))⟩ (by decide) dX7_putFour_39 (fun ws H locs hw n_k_7 hF9 => ?_)
          have m_u_2 := FLD.over hF9 m_u_2 (by decide)
          obtain ⟨sg_8, q_sg_8⟩ : ∃ q9 : OS, sI sg_5 2 v_6 = q9 := ⟨_, rfl⟩
          have o_p0 : OV vw_TT Ps ws p0 sg_8 := by rw [← q_sg_8]; exact OV.putI (V := vw_TT) hF9 n_k_7 o_p0 (by decide)
          obtain ⟨v_9, e_v_9⟩ : ∃ q9 : Int32, q9 = x2 + Int32.ofInt (-8) := ⟨_, rfl⟩
          obtain ⟨t_v_9, r_v_9⟩ := tq_add (lo := (-8)) (hi := 16) r_x2 (show RI (Int32.ofInt (-8)) (-8) (-8) by unfold RI; decide +kernel) (by decide +kernel) e_v_9
          have t_v_9 : v_9.toInt = x2.toInt + (-8) := t_v_9
          refine lv_iinc (v := v_9) (lv' := [(2, .int v_9), (0, .ref p0), (1, .int p1)]) hx hb dX7_putFour_42 hl (k := 2) rfl e_v_9.symm (by decide) rfl (fun ls hl => ?_)
          have q_v_9 : x2 + ((-8) : Int32) = v_9 := by rw [e_v_9, show Int32.ofInt (-8) = ((-8) : Int32) by decide]
          refine lv_goto (tgt := 3) hx hb dX7_putFour_45 (by decide) ?_
          simp only [f_X7_putFour__1_3, ↓reduceIte, eq_false c_4, q_vu_1, eq_false c_16, q_v_3, q_v_4, q_sg_5, q_v_6, q_sg_8, q_v_9] at hE
          exact ih3 v_9 sg_8 ws _ _ ls (by have q0 := r_v_9.1; have u0 := r_v_9.2; have o0 := r_x2.1; have p0 := r_x2.2; omega) r_p1 (r_v_9.to (by decide)) o_p0 hE hw (lv_sub hl [1, 2, 0] rfl)
  refine lv_bipush (v := 24) hx hb dX7_putFour_0 (by decide) ?_
  refine lv_istore_n (lv' := [(2, .int 24), (0, .ref p0), (1, .int p1)]) hx hb dX7_putFour_2 rfl hl (by decide) rfl (fun ls hl => ?_)
  simp only [f_X7_putFour__1, ↓reduceIte] at hE
  exact B3 4294967298 24 s0 w0 _ _ ls (by have q0 := rl_24.1; have u0 := rl_24.2; omega) r_p1 (rl_24.to (by decide)) o_p0 hE hw (lv_sub hl [1, 2, 0] rfl)
def f_X10_come__5 (p1 : Int32) (s0 : OS) : OS := ((sI (sA (sI (sA (sI (sA (sI (sA s0 1 (Int32.toNatClampNeg (s0.1 2)) (((Int32.toUInt32 p1 >>> (Int32.toUInt32 (24 : Int32) &&& Int32.toUInt32 31)).toInt32) &&& (255 : Int32))) 2 ((s0.1 2) + (1 : Int32))) 1 (Int32.toNatClampNeg ((s0.1 2) + (1 : Int32))) (((Int32.toUInt32 p1 >>> (Int32.toUInt32 (16 : Int32) &&& Int32.toUInt32 31)).toInt32) &&& (255 : Int32))) 2 (((s0.1 2) + (1 : Int32)) + (1 : Int32))) 1 (Int32.toNatClampNeg (((s0.1 2) + (1 : Int32)) + (1 : Int32))) (((Int32.toUInt32 p1 >>> (Int32.toUInt32 (8 : Int32) &&& Int32.toUInt32 31)).toInt32) &&& (255 : Int32))) 2 ((((s0.1 2) + (1 : Int32)) + (1 : Int32)) + (1 : Int32))) 1 (Int32.toNatClampNeg ((((s0.1 2) + (1 : Int32)) + (1 : Int32)) + (1 : Int32))) (((Int32.toUInt32 p1 >>> (Int32.toUInt32 (0 : Int32) &&& Int32.toUInt32 31)).toInt32) &&& (255 : Int32))) 2 (((((s0.1 2) + (1 : Int32)) + (1 : Int32)) + (1 : Int32)) + (1 : Int32))))
abbrev wr_X10_come__5 : List (Nat × Nat) := [(10, 2)]
abbrev wa_X10_come__5 : List Nat := [40]
set_option maxHeartbeats 4000000 in
set_option maxRecDepth 100000 in
theorem c_X10_come__5 (l : Launch) (D : va_G) (cy : Nat → ClassId) (z : Nat → Nat) (sz : Nat) (Ps : PSI) (w0 : va_W) (hT : HT cy GG Ps w0) (p0 : Nat) (p1 : Int32) (f0_2 : Int32) (s0 : OS) (h_p0 : (p0, 55) ∈ Ps) (r_p1 : RI p1 (-2147483648) 2147483647) (r_f0_2 : RI f0_2 0 920) (m_f0_2 : FLD w0 p0 10 2 (.int f0_2)) (o_p0 : OV vw_MT Ps w0 p0 s0) : Met l yX10_come (Cond.code yX10_come cX10_come 3 none :: gT) ({ frames := 0, cells := 0, slots := 0, locals := 200 } : Room) (va_Pc [.ref p0, .int p1] (PRE D cy z w0 sz)) (va_Qv (fun (u : va_W) => ((OV vw_MT Ps u p0 ((f_X10_come__5 p1 s0)) ∧ True) ∧ ((∃ v9 : Int32, FLD u p0 10 2 (.int v9) ∧ RI v9 4 924) ∧ True)) ∧ HT cy GG Ps u ∧ FR wr_X10_come__5 wa_X10_come__5 Ps w0 u) (BB D cy (va_A w0 sz) (fun (u : va_W) => u)) (va_A w0 sz)) 0 0 (va_A w0 sz) := by
  refine Met.ofW (cc := cX10_come) (maxL := 3) (ret := none) (by decide) rfl ?_
  intro p e s m args below meth c s₁ B hml hv
  obtain ⟨rfl, hsz, hP, hK, hD0, hSD⟩ := hv
  have hx := B.exec
  have hb := B.bytes
  have hr := B.returns
  have hlocks := B.notSynchronized
  have hts : ∀ w ∈ gT, w.before _ s = true := fun w h => atoms_spec (ws := Cond.code yX10_come cX10_come 3 none :: gT) B.pre w (List.mem_cons_of_mem _ h)
  have hown : s.vm.findClass RX10 = some m.cls := findClass_of_methodNamed B.named
  subst hsz
  have hD := hD0.self (sz := s.heap.size)
  generalize hAe : va_A w0 s.heap.size = A at hD hSD ⊢
  have hA : ∀ q : Nat, s.heap.size ≤ q → A q := fun q h => by rw [← hAe]; exact Or.inr h
  have hl := lv_entry ([.ref p0, .int p1]) (n := 3) (Nat.le_of_ble_eq_true rfl)
  rw [lg_entry_eq]
  generalize (lg_sl ([.ref p0, .int p1]) ++ List.replicate (3 - (lg_sl ([.ref p0, .int p1])).length) Slot.unset).toArray = ls at hl ⊢
  have hl : lv_has ls 3 [(0, .ref p0), (1, .int p1)] := hl
  refine nameQ (fun Q hQ => ?_)
  have hw : WD D cy GG A s wr_X10_come__5 wa_X10_come__5 Ps w0 Ps w0 s.heap [] := ⟨hT, hP, hD, va_S.rf, FR.rf, hT.1, [], (List.append_nil _).symm⟩
  obtain ⟨R9, hR⟩ : ∃ q9 : OS, f_X10_come__5 p1 s0 = q9 := ⟨_, rfl⟩
  have hE := hR
  refine lv_bipush (v := 24) hx hb dX10_come_0 (by decide) ?_
  refine lv_istore_n (lv' := [(2, .int 24), (0, .ref p0), (1, .int p1)]) hx hb dX10_come_2 rfl hl (by decide) rfl (fun ls hl => ?_)
  refine lv_iload_n hx hb dX10_come_3 rfl (lv_at hl 0 rfl) ?_
  refine lv_if_lt (tgt := 39) hx hb dX10_come_4 (by decide) (fun c9 => absurd c9 (by decide)) (fun _ => ?_)
  refine lv_aload_n hx hb dX10_come_7 rfl (lv_at hl 1 rfl) ?_
  refine tg_get (ci := 10) (ts := ty_MODEL) (C := RX10) (T := TX10) (N := 49) hx hb hts inX10 hown hK hw h_p0 rfl rfl 1 (by decide) (hts _ tw_1138) (fun _ h9 => h9) (ft := vR 40) rfl dX10_come_8 (fun u_1 hv_u_1 m_u_1 => ?_)
  obtain ⟨vu_1, rfl, h_vu_1⟩ := hv_u_1
  refine lv_aload_n hx hb dX10_come_11 rfl (lv_at hl 1 rfl) ?_
  refine tg_mem (ci := 10) (C := RX10) (T := TX10) (N := 49) hx hb hts inX10 hown hK hw 2 m_f0_2 rfl (by decide) (hts _ tw_1139) (fun _ h9 => h9) dX10_come_12 ?_
  have q_f0_2 : s0.1 2 = f0_2 := OV.eqI (V := vw_MT) hw.2.2.1 o_p0 m_f0_2 (by decide)
  refine lv_iload_n hx hb dX10_come_15 rfl (lv_at hl 2 rfl) ?_
  refine lv_iload_n hx hb dX10_come_16 rfl (lv_at hl 0 rfl) ?_
  obtain ⟨v_2, e_v_2⟩ : ∃ q9 : Int32, (Int32.toUInt32 p1 >>> (Int32.toUInt32 24 &&& Int32.toUInt32 31)).toInt32 = q9 := ⟨_, rfl⟩
  refine lv_iushr (v := v_2) hx hb dX10_come_17 e_v_2 ?_
  have r_v_2 := ri_any v_2
  have q_v_2 : (Int32.toUInt32 p1 >>> (Int32.toUInt32 (24 : Int32) &&& Int32.toUInt32 31)).toInt32 = v_2 := e_v_2
  refine lv_sipush (v := 255) hx hb dX10_come_18 (by decide) ?_
  refine lv_iand hx hb dX10_come_21 (lv_topi (fun v_3 e_v_3 => ?_))
  have r_v_3 : RI v_3 0 255 := by rw [e_v_3]; exact ri_and (d := 255) (rl_255.to (by decide)) (by decide)
  have q_v_3 : v_2 &&& (255 : Int32) = v_3 := e_v_3.symm
  have mo9 := m_u_1
  refine tg_iast hx hb hK hw h_vu_1 rfl 0 920 r_f0_2 (by decide) r_v_3 (by exact fun _ _ _ => by decide) (fun _ _ _ _ _ => trivial) (by decide) dX10_come_22 (fun ws H locs hw hF9 hU9 => ?_)
  have m_f0_2 := FLD.over hF9 m_f0_2 (by decide)
  have m_u_1 := FLD.over hF9 m_u_1 (by decide)
  obtain ⟨sg_4, q_sg_4⟩ : ∃ q9 : OS, sA s0 1 (Int32.toNatClampNeg f0_2) v_3 = q9 := ⟨_, rfl⟩
  have o_p0 : OV vw_MT Ps ws p0 sg_4 := by rw [← q_sg_4]; exact OV.putA (V := vw_MT) (t := 40) hF9 hU9 o_p0 mo9 (by decide) (by decide)
  refine lv_aload_n hx hb dX10_come_23 rfl (lv_at hl 1 rfl) ?_
  refine lv_dup hx hb dX10_come_24 rfl ?_
  refine tg_mem (ci := 10) (C := RX10) (T := TX10) (N := 49) hx hb hts inX10 hown hK hw 2 m_f0_2 rfl (by decide) (hts _ tw_1139) (fun _ h9 => h9) dX10_come_25 ?_
  refine lv_iconst (v := 1) hx hb dX10_come_28 (by decide) ?_
  refine lv_iadd hx hb dX10_come_29 (lv_topi (fun v_5 e_v_5 => ?_))
  obtain ⟨t_v_5, r_v_5⟩ := tq_add (lo := 1) (hi := 921) r_f0_2 rl_1 (by decide +kernel) e_v_5
  have t_v_5 : v_5.toInt = f0_2.toInt + 1 := t_v_5
  have q_v_5 : f0_2 + (1 : Int32) = v_5 := e_v_5.symm
  refine tg_put (ci := 10) (ts := ty_MODEL) (v := .int v_5) (ty := .int) (C := RX10) (T := TX10) (N := 49) hx hb hts inX10 tyX10 tyX10_ok nmX10 hown hK hw h_p0 rfl rfl 2 (by decide) (hts _ tw_1139) (fun _ h9 => h9) rfl (by decide +kernel) rfl rfl (ft := vI 0 940) rfl ⟨_, rfl, (r_v_5.to (by decide))⟩ (by decide) dX10_come_30 (fun ws H locs hw n_k_6 hF9 => ?_)
  have m_u_1 := FLD.over hF9 m_u_1 (by decide)
  obtain ⟨sg_7, q_sg_7⟩ : ∃ q9 : OS, sI sg_4 2 v_5 = q9 := ⟨_, rfl⟩
  have o_p0 : OV vw_MT Ps ws p0 sg_7 := by rw [← q_sg_7]; exact OV.putI (V := vw_MT) hF9 n_k_6 o_p0 (by decide)
  refine lv_iinc (v := 16) (lv' := [(2, .int 16), (0, .ref p0), (1, .int p1)]) hx hb dX10_come_33 hl (k := 0) rfl (by decide) (by decide) rfl (fun ls hl => ?_)
  refine lv_goto (tgt := 3) hx hb dX10_come_36 (by decide) ?_
  refine lv_iload_n hx hb dX10_come_3 rfl (lv_at hl 0 rfl) ?_
  refine lv_if_lt (tgt := 39) hx hb dX10_come_4 (by decide) (fun c9 => absurd c9 (by decide)) (fun _ => ?_)
  refine lv_aload_n hx hb dX10_come_7 rfl (lv_at hl 1 rfl) ?_
  refine tg_mem (ci := 10) (C := RX10) (T := TX10) (N := 49) hx hb hts inX10 hown hK hw 1 m_u_1 rfl (by decide) (hts _ tw_1138) (fun _ h9 => h9) dX10_come_8 ?_
  refine lv_aload_n hx hb dX10_come_11 rfl (lv_at hl 1 rfl) ?_
  refine tg_mem (ci := 10) (C := RX10) (T := TX10) (N := 49) hx hb hts inX10 hown hK hw 2 n_k_6 rfl (by decide) (hts _ tw_1139) (fun _ h9 => h9) dX10_come_12 ?_
  refine lv_iload_n hx hb dX10_come_15 rfl (lv_at hl 2 rfl) ?_
  refine lv_iload_n hx hb dX10_come_16 rfl (lv_at hl 0 rfl) ?_
  obtain ⟨v_8, e_v_8⟩ : ∃ q9 : Int32, (Int32.toUInt32 p1 >>> (Int32.toUInt32 16 &&& Int32.toUInt32 31)).toInt32 = q9 := ⟨_, rfl⟩
  refine lv_iushr (v := v_8) hx hb dX10_come_17 e_v_8 ?_
  have r_v_8 := ri_any v_8
  have q_v_8 : (Int32.toUInt32 p1 >>> (Int32.toUInt32 (16 : Int32) &&& Int32.toUInt32 31)).toInt32 = v_8 := e_v_8
  refine lv_sipush (v := 255) hx hb dX10_come_18 (by decide) ?_
  refine lv_iand hx hb dX10_come_21 (lv_topi (fun v_9 e_v_9 => ?_))
  have r_v_9 : RI v_9 0 255 := by rw [e_v_9]; exact ri_and (d := 255) (rl_255.to (by decide)) (by decide)
  have q_v_9 : v_8 &&& (255 : Int32) = v_9 := e_v_9.symm
  have mo9 := m_u_1
  refine tg_iast hx hb hK hw h_vu_1 rfl 1 921 r_v_5 (by decide) r_v_9 (by exact fun _ _ _ => by decide) (fun _ _ _ _ _ => trivial) (by decide) dX10_come_22 (fun ws H locs hw hF9 hU9 => ?_)
  have m_u_1 := FLD.over hF9 m_u_1 (by decide)
  have n_k_6 := FLD.over hF9 n_k_6 (by decide)
  obtain ⟨sg_10, q_sg_10⟩ : ∃ q9 : OS, sA sg_7 1 (Int32.toNatClampNeg v_5) v_9 = q9 := ⟨_, rfl⟩
  have o_p0 : OV vw_MT Ps ws p0 sg_10 := by rw [← q_sg_10]; exact OV.putA (V := vw_MT) (t := 40) hF9 hU9 o_p0 mo9 (by decide) (by decide)
  refine lv_aload_n hx hb dX10_come_23 rfl (lv_at hl 1 rfl) ?_
  refine lv_dup hx hb dX10_come_24 rfl ?_
  refine tg_mem (ci := 10) (C := RX10) (T := TX10) (N := 49) hx hb hts inX10 hown hK hw 2 n_k_6 rfl (by decide) (hts _ tw_1139) (fun _ h9 => h9) dX10_come_25 ?_
  refine lv_iconst (v := 1) hx hb dX10_come_28 (by decide) ?_
  refine lv_iadd hx hb dX10_come_29 (lv_topi (fun v_11 e_v_11 => ?_))
  obtain ⟨t_v_11, r_v_11⟩ := tq_add (lo := 2) (hi := 922) r_v_5 rl_1 (by decide +kernel) e_v_11
  have t_v_11 : v_11.toInt = v_5.toInt + 1 := t_v_11
  have q_v_11 : v_5 + (1 : Int32) = v_11 := e_v_11.symm
  refine tg_put (ci := 10) (ts := ty_MODEL) (v := .int v_11) (ty := .int) (C := RX10) (T := TX10) (N := 49) hx hb hts inX10 tyX10 tyX10_ok nmX10 hown hK hw h_p0 rfl rfl 2 (by decide) (hts _ tw_1139) (fun _ h9 => h9) rfl (by decide +kernel) rfl rfl (ft := vI 0 940) rfl ⟨_, rfl, (r_v_11.to (by decide))⟩ (by decide) dX10_come_30 (fun ws H locs hw n_k_12 hF9 => ?_)
  have m_u_1 := FLD.over hF9 m_u_1 (by decide)
  obtain ⟨sg_13, q_sg_13⟩ : ∃ q9 : OS, sI sg_10 2 v_11 = q9 := ⟨_, rfl⟩
  have o_p0 : OV vw_MT Ps ws p0 sg_13 := by rw [← q_sg_13]; exact OV.putI (V := vw_MT) hF9 n_k_12 o_p0 (by decide)
  refine lv_iinc (v := 8) (lv' := [(2, .int 8), (0, .ref p0), (1, .int p1)]) hx hb dX10_come_33 hl (k := 0) rfl (by decide) (by decide) rfl (fun ls hl => ?_)
  refine lv_goto (tgt := 3) hx hb dX10_come_36 (by decide) ?_
  refine lv_iload_n hx hb dX10_come_3 rfl (lv_at hl 0 rfl) ?_
  refine lv_if_lt (tgt := 39) hx hb dX10_come_4 (by decide) (fun c9 => absurd c9 (by decide)) (fun _ => ?_)
  refine lv_aload_n hx hb dX10_come_7 rfl (lv_at hl 1 rfl) ?_
  refine tg_mem (ci := 10) (C := RX10) (T := TX10) (N := 49) hx hb hts inX10 hown hK hw 1 m_u_1 rfl (by decide) (hts _ tw_1138) (fun _ h9 => h9) dX10_come_8 ?_
  refine lv_aload_n hx hb dX10_come_11 rfl (lv_at hl 1 rfl) ?_
  refine tg_mem (ci := 10) (C := RX10) (T := TX10) (N := 49) hx hb hts inX10 hown hK hw 2 n_k_12 rfl (by decide) (hts _ tw_1139) (fun _ h9 => h9) dX10_come_12 ?_
  refine lv_iload_n hx hb dX10_come_15 rfl (lv_at hl 2 rfl) ?_
  refine lv_iload_n hx hb dX10_come_16 rfl (lv_at hl 0 rfl) ?_
  obtain ⟨v_14, e_v_14⟩ : ∃ q9 : Int32, (Int32.toUInt32 p1 >>> (Int32.toUInt32 8 &&& Int32.toUInt32 31)).toInt32 = q9 := ⟨_, rfl⟩
  refine lv_iushr (v := v_14) hx hb dX10_come_17 e_v_14 ?_
  have r_v_14 : RI v_14 0 16777215 := by rw [← e_v_14]; exact ri_ushr8 _
  have q_v_14 : (Int32.toUInt32 p1 >>> (Int32.toUInt32 (8 : Int32) &&& Int32.toUInt32 31)).toInt32 = v_14 := e_v_14
  refine lv_sipush (v := 255) hx hb dX10_come_18 (by decide) ?_
  refine lv_iand hx hb dX10_come_21 (lv_topi (fun v_15 e_v_15 => ?_))
  have r_v_15 : RI v_15 0 255 := by rw [e_v_15]; exact ri_and (d := 255) (rl_255.to (by decide)) (by decide)
  have q_v_15 : v_14 &&& (255 : Int32) = v_15 := e_v_15.symm
  have mo9 := m_u_1
  refine tg_iast hx hb hK hw h_vu_1 rfl 2 922 r_v_11 (by decide) r_v_15 (by exact fun _ _ _ => by decide) (fun _ _ _ _ _ => trivial) (by decide) dX10_come_22 (fun ws H locs hw hF9 hU9 => ?_)
  have m_u_1 := FLD.over hF9 m_u_1 (by decide)
  have n_k_12 := FLD.over hF9 n_k_12 (by decide)
  obtain ⟨sg_16, q_sg_16⟩ : ∃ q9 : OS, sA sg_13 1 (Int32.toNatClampNeg v_11) v_15 = q9 := ⟨_, rfl⟩
  have o_p0 : OV vw_MT Ps ws p0 sg_16 := by rw [← q_sg_16]; exact OV.putA (V := vw_MT) (t := 40) hF9 hU9 o_p0 mo9 (by decide) (by decide)
  refine lv_aload_n hx hb dX10_come_23 rfl (lv_at hl 1 rfl) ?_
  refine lv_dup hx hb dX10_come_24 rfl ?_
  refine tg_mem (ci := 10) (C := RX10) (T := TX10) (N := 49) hx hb hts inX10 hown hK hw 2 n_k_12 rfl (by decide) (hts _ tw_1139) (fun _ h9 => h9) dX10_come_25 ?_
  refine lv_iconst (v := 1) hx hb dX10_come_28 (by decide) ?_
  refine lv_iadd hx hb dX10_come_29 (lv_topi (fun v_17 e_v_17 => ?_))
  obtain ⟨t_v_17, r_v_17⟩ := tq_add (lo := 3) (hi := 923) r_v_11 rl_1 (by decide +kernel) e_v_17
  have t_v_17 : v_17.toInt = v_11.toInt + 1 := t_v_17
  have q_v_17 : v_11 + (1 : Int32) = v_17 := e_v_17.symm
  refine tg_put (ci := 10) (ts := ty_MODEL) (v := .int v_17) (ty := .int) (C := RX10) (T := TX10) (N := 49) hx hb hts inX10 tyX10 tyX10_ok nmX10 hown hK hw h_p0 rfl rfl 2 (by decide) (hts _ tw_1139) (fun _ h9 => h9) rfl (by decide +kernel) rfl rfl (ft := vI 0 940) rfl ⟨_, rfl, (r_v_17.to (by decide))⟩ (by decide) dX10_come_30 (fun ws H locs hw n_k_18 hF9 => ?_)
  have m_u_1 := FLD.over hF9 m_u_1 (by decide)
  obtain ⟨sg_19, q_sg_19⟩ : ∃ q9 : OS, sI sg_16 2 v_17 = q9 := ⟨_, rfl⟩
  have o_p0 : OV vw_MT Ps ws p0 sg_19 := by rw [← q_sg_19]; exact OV.putI (V := vw_MT) hF9 n_k_18 o_p0 (by decide)
  refine lv_iinc (v := 0) (lv' := [(2, .int 0), (0, .ref p0), (1, .int p1)]) hx hb dX10_come_33 hl (k := 0) rfl (by decide) (by decide) rfl (fun ls hl => ?_)
  refine lv_goto (tgt := 3) hx hb dX10_come_36 (by decide) ?_
  refine lv_iload_n hx hb dX10_come_3 rfl (lv_at hl 0 rfl) ?_
  refine lv_if_lt (tgt := 39) hx hb dX10_come_4 (by decide) (fun c9 => absurd c9 (by decide)) (fun _ => ?_)
  refine lv_aload_n hx hb dX10_come_7 rfl (lv_at hl 1 rfl) ?_
  refine tg_mem (ci := 10) (C := RX10) (T := TX10) (N := 49) hx hb hts inX10 hown hK hw 1 m_u_1 rfl (by decide) (hts _ tw_1138) (fun _ h9 => h9) dX10_come_8 ?_
  refine lv_aload_n hx hb dX10_come_11 rfl (lv_at hl 1 rfl) ?_
  refine tg_mem (ci := 10) (C := RX10) (T := TX10) (N := 49) hx hb hts inX10 hown hK hw 2 n_k_18 rfl (by decide) (hts _ tw_1139) (fun _ h9 => h9) dX10_come_12 ?_
  refine lv_iload_n hx hb dX10_come_15 rfl (lv_at hl 2 rfl) ?_
  refine lv_iload_n hx hb dX10_come_16 rfl (lv_at hl 0 rfl) ?_
  obtain ⟨v_20, e_v_20⟩ : ∃ q9 : Int32, (Int32.toUInt32 p1 >>> (Int32.toUInt32 0 &&& Int32.toUInt32 31)).toInt32 = q9 := ⟨_, rfl⟩
  refine lv_iushr (v := v_20) hx hb dX10_come_17 e_v_20 ?_
  have r_v_20 := ri_any v_20
  have q_v_20 : (Int32.toUInt32 p1 >>> (Int32.toUInt32 (0 : Int32) &&& Int32.toUInt32 31)).toInt32 = v_20 := e_v_20
  refine lv_sipush (v := 255) hx hb dX10_come_18 (by decide) ?_
  refine lv_iand hx hb dX10_come_21 (lv_topi (fun v_21 e_v_21 => ?_))
  have r_v_21 : RI v_21 0 255 := by rw [e_v_21]; exact ri_and (d := 255) (rl_255.to (by decide)) (by decide)
  have q_v_21 : v_20 &&& (255 : Int32) = v_21 := e_v_21.symm
  have mo9 := m_u_1
  refine tg_iast hx hb hK hw h_vu_1 rfl 3 923 r_v_17 (by decide) r_v_21 (by exact fun _ _ _ => by decide) (fun _ _ _ _ _ => trivial) (by decide) dX10_come_22 (fun ws H locs hw hF9 hU9 => ?_)
  have m_u_1 := FLD.over hF9 m_u_1 (by decide)
  have n_k_18 := FLD.over hF9 n_k_18 (by decide)
  obtain ⟨sg_22, q_sg_22⟩ : ∃ q9 : OS, sA sg_19 1 (Int32.toNatClampNeg v_17) v_21 = q9 := ⟨_, rfl⟩
  have o_p0 : OV vw_MT Ps ws p0 sg_22 := by rw [← q_sg_22]; exact OV.putA (V := vw_MT) (t := 40) hF9 hU9 o_p0 mo9 (by decide) (by decide)
  refine lv_aload_n hx hb dX10_come_23 rfl (lv_at hl 1 rfl) ?_
  refine lv_dup hx hb dX10_come_24 rfl ?_
  refine tg_mem (ci := 10) (C := RX10) (T := TX10) (N := 49) hx hb hts inX10 hown hK hw 2 n_k_18 rfl (by decide) (hts _ tw_1139) (fun _ h9 => h9) dX10_come_25 ?_
  refine lv_iconst (v := 1) hx hb dX10_come_28 (by decide) ?_
  refine lv_iadd hx hb dX10_come_29 (lv_topi (fun v_23 e_v_23 => ?_))
  obtain ⟨t_v_23, r_v_23⟩ := tq_add (lo := 4) (hi := 924) r_v_17 rl_1 (by decide +kernel) e_v_23
  have t_v_23 : v_23.toInt = v_17.toInt + 1 := t_v_23
  have q_v_23 : v_17 + (1 : Int32) = v_23 := e_v_23.symm
  refine tg_put (ci := 10) (ts := ty_MODEL) (v := .int v_23) (ty := .int) (C := RX10) (T := TX10) (N := 49) hx hb hts inX10 tyX10 tyX10_ok nmX10 hown hK hw h_p0 rfl rfl 2 (by decide) (hts _ tw_1139) (fun _ h9 => h9) rfl (by decide +kernel) rfl rfl (ft := vI 0 940) rfl ⟨_, rfl, (r_v_23.to (by decide))⟩ (by decide) dX10_come_30 (fun ws H locs hw n_k_24 hF9 => ?_)
  have m_u_1 := FLD.over hF9 m_u_1 (by decide)
  obtain ⟨sg_25, q_sg_25⟩ : ∃ q9 : OS, sI sg_22 2 v_23 = q9 := ⟨_, rfl⟩
  have o_p0 : OV vw_MT Ps ws p0 sg_25 := by rw [← q_sg_25]; exact OV.putI (V := vw_MT) hF9 n_k_24 o_p0 (by decide)
  refine lv_iinc (v := (-8)) (lv' := [(2, .int (-8)), (0, .ref p0), (1, .int p1)]) hx hb dX10_come_33 hl (k := 0) rfl (by decide) (by decide) rfl (fun ls hl => ?_)
  refine lv_goto (tgt := 3) hx hb dX10_come_36 (by decide) ?_
  refine lv_iload_n hx hb dX10_come_3 rfl (lv_at hl 0 rfl) ?_
  refine lv_if_lt (tgt := 39) hx hb dX10_come_4 (by decide) (fun _ => ?_) (fun c9 => absurd (by decide) c9)
  simp only [f_X10_come__5, ↓reduceIte, q_f0_2, q_v_2, q_v_3, q_sg_4, q_v_5, q_sg_7, q_v_8, q_v_9, q_sg_10, q_v_11, q_sg_13, q_v_14, q_v_15, q_sg_16, q_v_17, q_sg_19, q_v_20, q_v_21, q_sg_22, q_v_23, q_sg_25] at hE
  subst hQ
  exact W.vret hx hb hr (fun t ht hW => ⟨⟨ws, rfl, ⟨⟨⟨(by rw [hR, ← hE]; exact o_p0), trivial⟩, ⟨⟨_, n_k_24, r_v_23⟩, trivial⟩⟩, hw.1, hw.2.2.2.2.1⟩, by rw [ht]; exact hw.2.1, va_K.moved hW.alike hK, hw.2.2.1⟩, hw.2.2.2.1.F ht⟩) hw.2.2.2.1.2.2 dX10_come_39
abbrev wr_X10_come__6 : List (Nat × Nat) := [(10, 2)]
abbrev wa_X10_come__6 : List Nat := [40]
set_option maxHeartbeats 4000000 in
set_option maxRecDepth 100000 in
theorem c_X10_come__6 (l : Launch) (D : va_G) (cy : Nat → ClassId) (z : Nat → Nat) (sz : Nat) (Ps : PSI) (w0 : va_W) (hT : HT cy GG Ps w0) (p0 : Nat) (p1 : Int32) (f0_2 : Int32) (s0 : OS) (h_p0 : (p0, 55) ∈ Ps) (r_p1 : RI p1 (-2147483648) 2147483647) (r_f0_2 : RI f0_2 4 924) (m_f0_2 : FLD w0 p0 10 2 (.int f0_2)) (o_p0 : OV vw_MT Ps w0 p0 s0) : Met l yX10_come (Cond.code yX10_come cX10_come 3 none :: gT) ({ frames := 0, cells := 0, slots := 0, locals := 200 } : Room) (va_Pc [.ref p0, .int p1] (PRE D cy z w0 sz)) (va_Qv (fun (u : va_W) => ((OV vw_MT Ps u p0 ((f_X10_come__5 p1 s0)) ∧ True) ∧ ((∃ v9 : Int32, FLD u p0 10 2 (.int v9) ∧ RI v9 8 928) ∧ True)) ∧ HT cy GG Ps u ∧ FR wr_X10_come__6 wa_X10_come__6 Ps w0 u) (BB D cy (va_A w0 sz) (fun (u : va_W) => u)) (va_A w0 sz)) 0 0 (va_A w0 sz) := by
  refine Met.ofW (cc := cX10_come) (maxL := 3) (ret := none) (by decide) rfl ?_
  intro p e s m args below meth c s₁ B hml hv
  obtain ⟨rfl, hsz, hP, hK, hD0, hSD⟩ := hv
  have hx := B.exec
  have hb := B.bytes
  have hr := B.returns
  have hlocks := B.notSynchronized
  have hts : ∀ w ∈ gT, w.before _ s = true := fun w h => atoms_spec (ws := Cond.code yX10_come cX10_come 3 none :: gT) B.pre w (List.mem_cons_of_mem _ h)
  have hown : s.vm.findClass RX10 = some m.cls := findClass_of_methodNamed B.named
  subst hsz
  have hD := hD0.self (sz := s.heap.size)
  generalize hAe : va_A w0 s.heap.size = A at hD hSD ⊢
  have hA : ∀ q : Nat, s.heap.size ≤ q → A q := fun q h => by rw [← hAe]; exact Or.inr h
  have hl := lv_entry ([.ref p0, .int p1]) (n := 3) (Nat.le_of_ble_eq_true rfl)
  rw [lg_entry_eq]
  generalize (lg_sl ([.ref p0, .int p1]) ++ List.replicate (3 - (lg_sl ([.ref p0, .int p1])).length) Slot.unset).toArray = ls at hl ⊢
  have hl : lv_has ls 3 [(0, .ref p0), (1, .int p1)] := hl
  refine nameQ (fun Q hQ => ?_)
  have hw : WD D cy GG A s wr_X10_come__6 wa_X10_come__6 Ps w0 Ps w0 s.heap [] := ⟨hT, hP, hD, va_S.rf, FR.rf, hT.1, [], (List.append_nil _).symm⟩
  obtain ⟨R9, hR⟩ : ∃ q9 : OS, f_X10_come__5 p1 s0 = q9 := ⟨_, rfl⟩
  have hE := hR
  refine lv_bipush (v := 24) hx hb dX10_come_0 (by decide) ?_
  refine lv_istore_n (lv' := [(2, .int 24), (0, .ref p0), (1, .int p1)]) hx hb dX10_come_2 rfl hl (by decide) rfl (fun ls hl => ?_)
  refine lv_iload_n hx hb dX10_come_3 rfl (lv_at hl 0 rfl) ?_
  refine lv_if_lt (tgt := 39) hx hb dX10_come_4 (by decide) (fun c9 => absurd c9 (by decide)) (fun _ => ?_)
  refine lv_aload_n hx hb dX10_come_7 rfl (lv_at hl 1 rfl) ?_
  refine tg_get (ci := 10) (ts := ty_MODEL) (C := RX10) (T := TX10) (N := 49) hx hb hts inX10 hown hK hw h_p0 rfl rfl 1 (by decide) (hts _ tw_1138) (fun _ h9 => h9) (ft := vR 40) rfl dX10_come_8 (fun u_1 hv_u_1 m_u_1 => ?_)
  obtain ⟨vu_1, rfl, h_vu_1⟩ := hv_u_1
  refine lv_aload_n hx hb dX10_come_11 rfl (lv_at hl 1 rfl) ?_
  refine tg_mem (ci := 10) (C := RX10) (T := TX10) (N := 49) hx hb hts inX10 hown hK hw 2 m_f0_2 rfl (by decide) (hts _ tw_1139) (fun _ h9 => h9) dX10_come_12 ?_
  have q_f0_2 : s0.1 2 = f0_2 := OV.eqI (V := vw_MT) hw.2.2.1 o_p0 m_f0_2 (by decide)
  refine lv_iload_n hx hb dX10_come_15 rfl (lv_at hl 2 rfl) ?_
  refine lv_iload_n hx hb dX10_come_16 rfl (lv_at hl 0 rfl) ?_
  obtain ⟨v_2, e_v_2⟩ : ∃ q9 : Int32, (Int32.toUInt32 p1 >>> (Int32.toUInt32 24 &&& Int32.toUInt32 31)).toInt32 = q9 := ⟨_, rfl⟩
  refine lv_iushr (v := v_2) hx hb dX10_come_17 e_v_2 ?_
  have r_v_2 := ri_any v_2
  have q_v_2 : (Int32.toUInt32 p1 >>> (Int32.toUInt32 (24 : Int32) &&& Int32.toUInt32 31)).toInt32 = v_2 := e_v_2
  refine lv_sipush (v := 255) hx hb dX10_come_18 (by decide) ?_
  refine lv_iand hx hb dX10_come_21 (lv_topi (fun v_3 e_v_3 => ?_))
  have r_v_3 : RI v_3 0 255 := by rw [e_v_3]; exact ri_and (d := 255) (rl_255.to (by decide)) (by decide)
  have q_v_3 : v_2 &&& (255 : Int32) = v_3 := e_v_3.symm
  have mo9 := m_u_1
  refine tg_iast hx hb hK hw h_vu_1 rfl 4 924 r_f0_2 (by decide) r_v_3 (by exact fun _ _ _ => by decide) (fun _ _ _ _ _ => trivial) (by decide) dX10_come_22 (fun ws H locs hw hF9 hU9 => ?_)
  have m_f0_2 := FLD.over hF9 m_f0_2 (by decide)
  have m_u_1 := FLD.over hF9 m_u_1 (by decide)
  obtain ⟨sg_4, q_sg_4⟩ : ∃ q9 : OS, sA s0 1 (Int32.toNatClampNeg f0_2) v_3 = q9 := ⟨_, rfl⟩
  have o_p0 : OV vw_MT Ps ws p0 sg_4 := by rw [← q_sg_4]; exact OV.putA (V := vw_MT) (t := 40) hF9 hU9 o_p0 mo9 (by decide) (by decide)
  refine lv_aload_n hx hb dX10_come_23 rfl (lv_at hl 1 rfl) ?_
  refine lv_dup hx hb dX10_come_24 rfl ?_
  refine tg_mem (ci := 10) (C := RX10) (T := TX10) (N := 49) hx hb hts inX10 hown hK hw 2 m_f0_2 rfl (by decide) (hts _ tw_1139) (fun _ h9 => h9) dX10_come_25 ?_
  refine lv_iconst (v := 1) hx hb dX10_come_28 (by decide) ?_
  refine lv_iadd hx hb dX10_come_29 (lv_topi (fun v_5 e_v_5 => ?_))
  obtain ⟨t_v_5, r_v_5⟩ := tq_add (lo := 5) (hi := 925) r_f0_2 rl_1 (by decide +kernel) e_v_5
  have t_v_5 : v_5.toInt = f0_2.toInt + 1 := t_v_5
  have q_v_5 : f0_2 + (1 : Int32) = v_5 := e_v_5.symm
  refine tg_put (ci := 10) (ts := ty_MODEL) (v := .int v_5) (ty := .int) (C := RX10) (T := TX10) (N := 49) hx hb hts inX10 tyX10 tyX10_ok nmX10 hown hK hw h_p0 rfl rfl 2 (by decide) (hts _ tw_1139) (fun _ h9 => h9) rfl (by decide +kernel) rfl rfl (ft := vI 0 940) rfl ⟨_, rfl, (r_v_5.to (by decide))⟩ (by decide) dX10_come_30 (fun ws H locs hw n_k_6 hF9 => ?_)
  have m_u_1 := FLD.over hF9 m_u_1 (by decide)
  obtain ⟨sg_7, q_sg_7⟩ : ∃ q9 : OS, sI sg_4 2 v_5 = q9 := ⟨_, rfl⟩
  have o_p0 : OV vw_MT Ps ws p0 sg_7 := by rw [← q_sg_7]; exact OV.putI (V := vw_MT) hF9 n_k_6 o_p0 (by decide)
  refine lv_iinc (v := 16) (lv' := [(2, .int 16), (0, .ref p0), (1, .int p1)]) hx hb dX10_come_33 hl (k := 0) rfl (by decide) (by decide) rfl (fun ls hl => ?_)
  refine lv_goto (tgt := 3) hx hb dX10_come_36 (by decide) ?_
  refine lv_iload_n hx hb dX10_come_3 rfl (lv_at hl 0 rfl) ?_
  refine lv_if_lt (tgt := 39) hx hb dX10_come_4 (by decide) (fun c9 => absurd c9 (by decide)) (fun _ => ?_)
  refine lv_aload_n hx hb dX10_come_7 rfl (lv_at hl 1 rfl) ?_
  refine tg_mem (ci := 10) (C := RX10) (T := TX10) (N := 49) hx hb hts inX10 hown hK hw 1 m_u_1 rfl (by decide) (hts _ tw_1138) (fun _ h9 => h9) dX10_come_8 ?_
  refine lv_aload_n hx hb dX10_come_11 rfl (lv_at hl 1 rfl) ?_
  refine tg_mem (ci := 10) (C := RX10) (T := TX10) (N := 49) hx hb hts inX10 hown hK hw 2 n_k_6 rfl (by decide) (hts _ tw_1139) (fun _ h9 => h9) dX10_come_12 ?_
  refine lv_iload_n hx hb dX10_come_15 rfl (lv_at hl 2 rfl) ?_
  refine lv_iload_n hx hb dX10_come_16 rfl (lv_at hl 0 rfl) ?_
  obtain ⟨v_8, e_v_8⟩ : ∃ q9 : Int32, (Int32.toUInt32 p1 >>> (Int32.toUInt32 16 &&& Int32.toUInt32 31)).toInt32 = q9 := ⟨_, rfl⟩
  refine lv_iushr (v := v_8) hx hb dX10_come_17 e_v_8 ?_
  have r_v_8 := ri_any v_8
  have q_v_8 : (Int32.toUInt32 p1 >>> (Int32.toUInt32 (16 : Int32) &&& Int32.toUInt32 31)).toInt32 = v_8 := e_v_8
  refine lv_sipush (v := 255) hx hb dX10_come_18 (by decide) ?_
  refine lv_iand hx hb dX10_come_21 (lv_topi (fun v_9 e_v_9 => ?_))
  have r_v_9 : RI v_9 0 255 := by rw [e_v_9]; exact ri_and (d := 255) (rl_255.to (by decide)) (by decide)
  have q_v_9 : v_8 &&& (255 : Int32) = v_9 := e_v_9.symm
  have mo9 := m_u_1
  refine tg_iast hx hb hK hw h_vu_1 rfl 5 925 r_v_5 (by decide) r_v_9 (by exact fun _ _ _ => by decide) (fun _ _ _ _ _ => trivial) (by decide) dX10_come_22 (fun ws H locs hw hF9 hU9 => ?_)
  have m_u_1 := FLD.over hF9 m_u_1 (by decide)
  have n_k_6 := FLD.over hF9 n_k_6 (by decide)
  obtain ⟨sg_10, q_sg_10⟩ : ∃ q9 : OS, sA sg_7 1 (Int32.toNatClampNeg v_5) v_9 = q9 := ⟨_, rfl⟩
  have o_p0 : OV vw_MT Ps ws p0 sg_10 := by rw [← q_sg_10]; exact OV.putA (V := vw_MT) (t := 40) hF9 hU9 o_p0 mo9 (by decide) (by decide)
  refine lv_aload_n hx hb dX10_come_23 rfl (lv_at hl 1 rfl) ?_
  refine lv_dup hx hb dX10_come_24 rfl ?_
  refine tg_mem (ci := 10) (C := RX10) (T := TX10) (N := 49) hx hb hts inX10 hown hK hw 2 n_k_6 rfl (by decide) (hts _ tw_1139) (fun _ h9 => h9) dX10_come_25 ?_
  refine lv_iconst (v := 1) hx hb dX10_come_28 (by decide) ?_
  refine lv_iadd hx hb dX10_come_29 (lv_topi (fun v_11 e_v_11 => ?_))
  obtain ⟨t_v_11, r_v_11⟩ := tq_add (lo := 6) (hi := 926) r_v_5 rl_1 (by decide +kernel) e_v_11
  have t_v_11 : v_11.toInt = v_5.toInt + 1 := t_v_11
  have q_v_11 : v_5 + (1 : Int32) = v_11 := e_v_11.symm
  refine tg_put (ci := 10) (ts := ty_MODEL) (v := .int v_11) (ty := .int) (C := RX10) (T := TX10) (N := 49) hx hb hts inX10 tyX10 tyX10_ok nmX10 hown hK hw h_p0 rfl rfl 2 (by decide) (hts _ tw_1139) (fun _ h9 => h9) rfl (by decide +kernel) rfl rfl (ft := vI 0 940) rfl ⟨_, rfl, (r_v_11.to (by decide))⟩ (by decide) dX10_come_30 (fun ws H locs hw n_k_12 hF9 => ?_)
  have m_u_1 := FLD.over hF9 m_u_1 (by decide)
  obtain ⟨sg_13, q_sg_13⟩ : ∃ q9 : OS, sI sg_10 2 v_11 = q9 := ⟨_, rfl⟩
  have o_p0 : OV vw_MT Ps ws p0 sg_13 := by rw [← q_sg_13]; exact OV.putI (V := vw_MT) hF9 n_k_12 o_p0 (by decide)
  refine lv_iinc (v := 8) (lv' := [(2, .int 8), (0, .ref p0), (1, .int p1)]) hx hb dX10_come_33 hl (k := 0) rfl (by decide) (by decide) rfl (fun ls hl => ?_)
  refine lv_goto (tgt := 3) hx hb dX10_come_36 (by decide) ?_
  refine lv_iload_n hx hb dX10_come_3 rfl (lv_at hl 0 rfl) ?_
  refine lv_if_lt (tgt := 39) hx hb dX10_come_4 (by decide) (fun c9 => absurd c9 (by decide)) (fun _ => ?_)
  refine lv_aload_n hx hb dX10_come_7 rfl (lv_at hl 1 rfl) ?_
  refine tg_mem (ci := 10) (C := RX10) (T := TX10) (N := 49) hx hb hts inX10 hown hK hw 1 m_u_1 rfl (by decide) (hts _ tw_1138) (fun _ h9 => h9) dX10_come_8 ?_
  refine lv_aload_n hx hb dX10_come_11 rfl (lv_at hl 1 rfl) ?_
  refine tg_mem (ci := 10) (C := RX10) (T := TX10) (N := 49) hx hb hts inX10 hown hK hw 2 n_k_12 rfl (by decide) (hts _ tw_1139) (fun _ h9 => h9) dX10_come_12 ?_
  refine lv_iload_n hx hb dX10_come_15 rfl (lv_at hl 2 rfl) ?_
  refine lv_iload_n hx hb dX10_come_16 rfl (lv_at hl 0 rfl) ?_
  obtain ⟨v_14, e_v_14⟩ : ∃ q9 : Int32, (Int32.toUInt32 p1 >>> (Int32.toUInt32 8 &&& Int32.toUInt32 31)).toInt32 = q9 := ⟨_, rfl⟩
  refine lv_iushr (v := v_14) hx hb dX10_come_17 e_v_14 ?_
  have r_v_14 : RI v_14 0 16777215 := by rw [← e_v_14]; exact ri_ushr8 _
  have q_v_14 : (Int32.toUInt32 p1 >>> (Int32.toUInt32 (8 : Int32) &&& Int32.toUInt32 31)).toInt32 = v_14 := e_v_14
  refine lv_sipush (v := 255) hx hb dX10_come_18 (by decide) ?_
  refine lv_iand hx hb dX10_come_21 (lv_topi (fun v_15 e_v_15 => ?_))
  have r_v_15 : RI v_15 0 255 := by rw [e_v_15]; exact ri_and (d := 255) (rl_255.to (by decide)) (by decide)
  have q_v_15 : v_14 &&& (255 : Int32) = v_15 := e_v_15.symm
  have mo9 := m_u_1
  refine tg_iast hx hb hK hw h_vu_1 rfl 6 926 r_v_11 (by decide) r_v_15 (by exact fun _ _ _ => by decide) (fun _ _ _ _ _ => trivial) (by decide) dX10_come_22 (fun ws H locs hw hF9 hU9 => ?_)
  have m_u_1 := FLD.over hF9 m_u_1 (by decide)
  have n_k_12 := FLD.over hF9 n_k_12 (by decide)
  obtain ⟨sg_16, q_sg_16⟩ : ∃ q9 : OS, sA sg_13 1 (Int32.toNatClampNeg v_11) v_15 = q9 := ⟨_, rfl⟩
  have o_p0 : OV vw_MT Ps ws p0 sg_16 := by rw [← q_sg_16]; exact OV.putA (V := vw_MT) (t := 40) hF9 hU9 o_p0 mo9 (by decide) (by decide)
  refine lv_aload_n hx hb dX10_come_23 rfl (lv_at hl 1 rfl) ?_
  refine lv_dup hx hb dX10_come_24 rfl ?_
  refine tg_mem (ci := 10) (C := RX10) (T := TX10) (N := 49) hx hb hts inX10 hown hK hw 2 n_k_12 rfl (by decide) (hts _ tw_1139) (fun _ h9 => h9) dX10_come_25 ?_
  refine lv_iconst (v := 1) hx hb dX10_come_28 (by decide) ?_
  refine lv_iadd hx hb dX10_come_29 (lv_topi (fun v_17 e_v_17 => ?_))
  obtain ⟨t_v_17, r_v_17⟩ := tq_add (lo := 7) (hi := 927) r_v_11 rl_1 (by decide +kernel) e_v_17
  have t_v_17 : v_17.toInt = v_11.toInt + 1 := t_v_17
  have q_v_17 : v_11 + (1 : Int32) = v_17 := e_v_17.symm
  refine tg_put (ci := 10) (ts := ty_MODEL) (v := .int v_17) (ty := .int) (C := RX10) (T := TX10) (N := 49) hx hb hts inX10 tyX10 tyX10_ok nmX10 hown hK hw h_p0 rfl rfl 2 (by decide) (hts _ tw_1139) (fun _ h9 => h9) rfl (by decide +kernel) rfl rfl (ft := vI 0 940) rfl ⟨_, rfl, (r_v_17.to (by decide))⟩ (by decide) dX10_come_30 (fun ws H locs hw n_k_18 hF9 => ?_)
  have m_u_1 := FLD.over hF9 m_u_1 (by decide)
  obtain ⟨sg_19, q_sg_19⟩ : ∃ q9 : OS, sI sg_16 2 v_17 = q9 := ⟨_, rfl⟩
  have o_p0 : OV vw_MT Ps ws p0 sg_19 := by rw [← q_sg_19]; exact OV.putI (V := vw_MT) hF9 n_k_18 o_p0 (by decide)
  refine lv_iinc (v := 0) (lv' := [(2, .int 0), (0, .ref p0), (1, .int p1)]) hx hb dX10_come_33 hl (k := 0) rfl (by decide) (by decide) rfl (fun ls hl => ?_)
  refine lv_goto (tgt := 3) hx hb dX10_come_36 (by decide) ?_
  refine lv_iload_n hx hb dX10_come_3 rfl (lv_at hl 0 rfl) ?_
  refine lv_if_lt (tgt := 39) hx hb dX10_come_4 (by decide) (fun c9 => absurd c9 (by decide)) (fun _ => ?_)
  refine lv_aload_n hx hb dX10_come_7 rfl (lv_at hl 1 rfl) ?_
  refine tg_mem (ci := 10) (C := RX10) (T := TX10) (N := 49) hx hb hts inX10 hown hK hw 1 m_u_1 rfl (by decide) (hts _ tw_1138) (fun _ h9 => h9) dX10_come_8 ?_
  refine lv_aload_n hx hb dX10_come_11 rfl (lv_at hl 1 rfl) ?_
  refine tg_mem (ci := 10) (C := RX10) (T := TX10) (N := 49) hx hb hts inX10 hown hK hw 2 n_k_18 rfl (by decide) (hts _ tw_1139) (fun _ h9 => h9) dX10_come_12 ?_
  refine lv_iload_n hx hb dX10_come_15 rfl (lv_at hl 2 rfl) ?_
  refine lv_iload_n hx hb dX10_come_16 rfl (lv_at hl 0 rfl) ?_
  obtain ⟨v_20, e_v_20⟩ : ∃ q9 : Int32, (Int32.toUInt32 p1 >>> (Int32.toUInt32 0 &&& Int32.toUInt32 31)).toInt32 = q9 := ⟨_, rfl⟩
  refine lv_iushr (v := v_20) hx hb dX10_come_17 e_v_20 ?_
  have r_v_20 := ri_any v_20
  have q_v_20 : (Int32.toUInt32 p1 >>> (Int32.toUInt32 (0 : Int32) &&& Int32.toUInt32 31)).toInt32 = v_20 := e_v_20
  refine lv_sipush (v := 255) hx hb dX10_come_18 (by decide) ?_
  refine lv_iand hx hb dX10_come_21 (lv_topi (fun v_21 e_v_21 => ?_))
  have r_v_21 : RI v_21 0 255 := by rw [e_v_21]; exact ri_and (d := 255) (rl_255.to (by decide)) (by decide)
  have q_v_21 : v_20 &&& (255 : Int32) = v_21 := e_v_21.symm
  have mo9 := m_u_1
  refine tg_iast hx hb hK hw h_vu_1 rfl 7 927 r_v_17 (by decide) r_v_21 (by exact fun _ _ _ => by decide) (fun _ _ _ _ _ => trivial) (by decide) dX10_come_22 (fun ws H locs hw hF9 hU9 => ?_)
  have m_u_1 := FLD.over hF9 m_u_1 (by decide)
  have n_k_18 := FLD.over hF9 n_k_18 (by decide)
  obtain ⟨sg_22, q_sg_22⟩ : ∃ q9 : OS, sA sg_19 1 (Int32.toNatClampNeg v_17) v_21 = q9 := ⟨_, rfl⟩
  have o_p0 : OV vw_MT Ps ws p0 sg_22 := by rw [← q_sg_22]; exact OV.putA (V := vw_MT) (t := 40) hF9 hU9 o_p0 mo9 (by decide) (by decide)
  refine lv_aload_n hx hb dX10_come_23 rfl (lv_at hl 1 rfl) ?_
  refine lv_dup hx hb dX10_come_24 rfl ?_
  refine tg_mem (ci := 10) (C := RX10) (T := TX10) (N := 49) hx hb hts inX10 hown hK hw 2 n_k_18 rfl (by decide) (hts _ tw_1139) (fun _ h9 => h9) dX10_come_25 ?_
  refine lv_iconst (v := 1) hx hb dX10_come_28 (by decide) ?_
  refine lv_iadd hx hb dX10_come_29 (lv_topi (fun v_23 e_v_23 => ?_))
  obtain ⟨t_v_23, r_v_23⟩ := tq_add (lo := 8) (hi := 928) r_v_17 rl_1 (by decide +kernel) e_v_23
  have t_v_23 : v_23.toInt = v_17.toInt + 1 := t_v_23
  have q_v_23 : v_17 + (1 : Int32) = v_23 := e_v_23.symm
  refine tg_put (ci := 10) (ts := ty_MODEL) (v := .int v_23) (ty := .int) (C := RX10) (T := TX10) (N := 49) hx hb hts inX10 tyX10 tyX10_ok nmX10 hown hK hw h_p0 rfl rfl 2 (by decide) (hts _ tw_1139) (fun _ h9 => h9) rfl (by decide +kernel) rfl rfl (ft := vI 0 940) rfl ⟨_, rfl, (r_v_23.to (by decide))⟩ (by decide) dX10_come_30 (fun ws H locs hw n_k_24 hF9 => ?_)
  have m_u_1 := FLD.over hF9 m_u_1 (by decide)
  obtain ⟨sg_25, q_sg_25⟩ : ∃ q9 : OS, sI sg_22 2 v_23 = q9 := ⟨_, rfl⟩
  have o_p0 : OV vw_MT Ps ws p0 sg_25 := by rw [← q_sg_25]; exact OV.putI (V := vw_MT) hF9 n_k_24 o_p0 (by decide)
  refine lv_iinc (v := (-8)) (lv' := [(2, .int (-8)), (0, .ref p0), (1, .int p1)]) hx hb dX10_come_33 hl (k := 0) rfl (by decide) (by decide) rfl (fun ls hl => ?_)
  refine lv_goto (tgt := 3) hx hb dX10_come_36 (by decide) ?_
  refine lv_iload_n hx hb dX10_come_3 rfl (lv_at hl 0 rfl) ?_
  refine lv_if_lt (tgt := 39) hx hb dX10_come_4 (by decide) (fun _ => ?_) (fun c9 => absurd (by decide) c9)
  simp only [f_X10_come__5, ↓reduceIte, q_f0_2, q_v_2, q_v_3, q_sg_4, q_v_5, q_sg_7, q_v_8, q_v_9, q_sg_10, q_v_11, q_sg_13, q_v_14, q_v_15, q_sg_16, q_v_17, q_sg_19, q_v_20, q_v_21, q_sg_22, q_v_23, q_sg_25] at hE
  subst hQ
  exact W.vret hx hb hr (fun t ht hW => ⟨⟨ws, rfl, ⟨⟨⟨(by rw [hR, ← hE]; exact o_p0), trivial⟩, ⟨⟨_, n_k_24, r_v_23⟩, trivial⟩⟩, hw.1, hw.2.2.2.2.1⟩, by rw [ht]; exact hw.2.1, va_K.moved hW.alike hK, hw.2.2.1⟩, hw.2.2.2.1.F ht⟩) hw.2.2.2.1.2.2 dX10_come_39
abbrev wr_X10_come__7 : List (Nat × Nat) := [(10, 2)]
abbrev wa_X10_come__7 : List Nat := [40]
set_option maxHeartbeats 4000000 in
set_option maxRecDepth 100000 in
theorem c_X10_come__7 (l : Launch) (D : va_G) (cy : Nat → ClassId) (z : Nat → Nat) (sz : Nat) (Ps : PSI) (w0 : va_W) (hT : HT cy GG Ps w0) (p0 : Nat) (p1 : Int32) (f0_2 : Int32) (s0 : OS) (h_p0 : (p0, 55) ∈ Ps) (r_p1 : RI p1 (-2147483648) 2147483647) (r_f0_2 : RI f0_2 8 928) (m_f0_2 : FLD w0 p0 10 2 (.int f0_2)) (o_p0 : OV vw_MT Ps w0 p0 s0) : Met l yX10_come (Cond.code yX10_come cX10_come 3 none :: gT) ({ frames := 0, cells := 0, slots := 0, locals := 200 } : Room) (va_Pc [.ref p0, .int p1] (PRE D cy z w0 sz)) (va_Qv (fun (u : va_W) => ((OV vw_MT Ps u p0 ((f_X10_come__5 p1 s0)) ∧ True) ∧ ((∃ v9 : Int32, FLD u p0 10 2 (.int v9) ∧ RI v9 12 932) ∧ True)) ∧ HT cy GG Ps u ∧ FR wr_X10_come__7 wa_X10_come__7 Ps w0 u) (BB D cy (va_A w0 sz) (fun (u : va_W) => u)) (va_A w0 sz)) 0 0 (va_A w0 sz) := by
  refine Met.ofW (cc := cX10_come) (maxL := 3) (ret := none) (by decide) rfl ?_
  intro p e s m args below meth c s₁ B hml hv
  obtain ⟨rfl, hsz, hP, hK, hD0, hSD⟩ := hv
  have hx := B.exec
  have hb := B.bytes
  have hr := B.returns
  have hlocks := B.notSynchronized
  have hts : ∀ w ∈ gT, w.before _ s = true := fun w h => atoms_spec (ws := Cond.code yX10_come cX10_come 3 none :: gT) B.pre w (List.mem_cons_of_mem _ h)
  have hown : s.vm.findClass RX10 = some m.cls := findClass_of_methodNamed B.named
  subst hsz
  have hD := hD0.self (sz := s.heap.size)
  generalize hAe : va_A w0 s.heap.size = A at hD hSD ⊢
  have hA : ∀ q : Nat, s.heap.size ≤ q → A q := fun q h => by rw [← hAe]; exact Or.inr h
  have hl := lv_entry ([.ref p0, .int p1]) (n := 3) (Nat.le_of_ble_eq_true rfl)
  rw [lg_entry_eq]
  generalize (lg_sl ([.ref p0, .int p1]) ++ List.replicate (3 - (lg_sl ([.ref p0, .int p1])).length) Slot.unset).toArray = ls at hl ⊢
  have hl : lv_has ls 3 [(0, .ref p0), (1, .int p1)] := hl
  refine nameQ (fun Q hQ => ?_)
  have hw : WD D cy GG A s wr_X10_come__7 wa_X10_come__7 Ps w0 Ps w0 s.heap [] := ⟨hT, hP, hD, va_S.rf, FR.rf, hT.1, [], (List.append_nil _).symm⟩
  obtain ⟨R9, hR⟩ : ∃ q9 : OS, f_X10_come__5 p1 s0 = q9 := ⟨_, rfl⟩
  have hE := hR
  refine lv_bipush (v := 24) hx hb dX10_come_0 (by decide) ?_
  refine lv_istore_n (lv' := [(2, .int 24), (0, .ref p0), (1, .int p1)]) hx hb dX10_come_2 rfl hl (by decide) rfl (fun ls hl => ?_)
  refine lv_iload_n hx hb dX10_come_3 rfl (lv_at hl 0 rfl) ?_
  refine lv_if_lt (tgt := 39) hx hb dX10_come_4 (by decide) (fun c9 => absurd c9 (by decide)) (fun _ => ?_)
  refine lv_aload_n hx hb dX10_come_7 rfl (lv_at hl 1 rfl) ?_
  refine tg_get (ci := 10) (ts := ty_MODEL) (C := RX10) (T := TX10) (N := 49) hx hb hts inX10 hown hK hw h_p0 rfl rfl 1 (by decide) (hts _ tw_1138) (fun _ h9 => h9) (ft := vR 40) rfl dX10_come_8 (fun u_1 hv_u_1 m_u_1 => ?_)
  obtain ⟨vu_1, rfl, h_vu_1⟩ := hv_u_1
  refine lv_aload_n hx hb dX10_come_11 rfl (lv_at hl 1 rfl) ?_
  refine tg_mem (ci := 10) (C := RX10) (T := TX10) (N := 49) hx hb hts inX10 hown hK hw 2 m_f0_2 rfl (by decide) (hts _ tw_1139) (fun _ h9 => h9) dX10_come_12 ?_
  have q_f0_2 : s0.1 2 = f0_2 := OV.eqI (V := vw_MT) hw.2.2.1 o_p0 m_f0_2 (by decide)
  refine lv_iload_n hx hb dX10_come_15 rfl (lv_at hl 2 rfl) ?_
  refine lv_iload_n hx hb dX10_come_16 rfl (lv_at hl 0 rfl) ?_
  obtain ⟨v_2, e_v_2⟩ : ∃ q9 : Int32, (Int32.toUInt32 p1 >>> (Int32.toUInt32 24 &&& Int32.toUInt32 31)).toInt32 = q9 := ⟨_, rfl⟩
  refine lv_iushr (v := v_2) hx hb dX10_come_17 e_v_2 ?_
  have r_v_2 := ri_any v_2
  have q_v_2 : (Int32.toUInt32 p1 >>> (Int32.toUInt32 (24 : Int32) &&& Int32.toUInt32 31)).toInt32 = v_2 := e_v_2
  refine lv_sipush (v := 255) hx hb dX10_come_18 (by decide) ?_
  refine lv_iand hx hb dX10_come_21 (lv_topi (fun v_3 e_v_3 => ?_))
  have r_v_3 : RI v_3 0 255 := by rw [e_v_3]; exact ri_and (d := 255) (rl_255.to (by decide)) (by decide)
  have q_v_3 : v_2 &&& (255 : Int32) = v_3 := e_v_3.symm
  have mo9 := m_u_1
  refine tg_iast hx hb hK hw h_vu_1 rfl 8 928 r_f0_2 (by decide) r_v_3 (by exact fun _ _ _ => by decide) (fun _ _ _ _ _ => trivial) (by decide) dX10_come_22 (fun ws H locs hw hF9 hU9 => ?_)
  have m_f0_2 := FLD.over hF9 m_f0_2 (by decide)
  have m_u_1 := FLD.over hF9 m_u_1 (by decide)
  obtain ⟨sg_4, q_sg_4⟩ : ∃ q9 : OS, sA s0 1 (Int32.toNatClampNeg f0_2) v_3 = q9 := ⟨_, rfl⟩
  have o_p0 : OV vw_MT Ps ws p0 sg_4 := by rw [← q_sg_4]; exact OV.putA (V := vw_MT) (t := 40) hF9 hU9 o_p0 mo9 (by decide) (by decide)
  refine lv_aload_n hx hb dX10_come_23 rfl (lv_at hl 1 rfl) ?_
  refine lv_dup hx hb dX10_come_24 rfl ?_
  refine tg_mem (ci := 10) (C := RX10) (T := TX10) (N := 49) hx hb hts inX10 hown hK hw 2 m_f0_2 rfl (by decide) (hts _ tw_1139) (fun _ h9 => h9) dX10_come_25 ?_
  refine lv_iconst (v := 1) hx hb dX10_come_28 (by decide) ?_
  refine lv_iadd hx hb dX10_come_29 (lv_topi (fun v_5 e_v_5 => ?_))
  obtain ⟨t_v_5, r_v_5⟩ := tq_add (lo := 9) (hi := 929) r_f0_2 rl_1 (by decide +kernel) e_v_5
  have t_v_5 : v_5.toInt = f0_2.toInt + 1 := t_v_5
  have q_v_5 : f0_2 + (1 : Int32) = v_5 := e_v_5.symm
  refine tg_put (ci := 10) (ts := ty_MODEL) (v := .int v_5) (ty := .int) (C := RX10) (T := TX10) (N := 49) hx hb hts inX10 tyX10 tyX10_ok nmX10 hown hK hw h_p0 rfl rfl 2 (by decide) (hts _ tw_1139) (fun _ h9 => h9) rfl (by decide +kernel) rfl rfl (ft := vI 0 940) rfl ⟨_, rfl, (r_v_5.to (by decide))⟩ (by decide) dX10_come_30 (fun ws H locs hw n_k_6 hF9 => ?_)
  have m_u_1 := FLD.over hF9 m_u_1 (by decide)
  obtain ⟨sg_7, q_sg_7⟩ : ∃ q9 : OS, sI sg_4 2 v_5 = q9 := ⟨_, rfl⟩
  have o_p0 : OV vw_MT Ps ws p0 sg_7 := by rw [← q_sg_7]; exact OV.putI (V := vw_MT) hF9 n_k_6 o_p0 (by decide)
  refine lv_iinc (v := 16) (lv' := [(2, .int 16), (0, .ref p0), (1, .int p1)]) hx hb dX10_come_33 hl (k := 0) rfl (by decide) (by decide) rfl (fun ls hl => ?_)
  refine lv_goto (tgt := 3) hx hb dX10_come_36 (by decide) ?_
  refine lv_iload_n hx hb dX10_come_3 rfl (lv_at hl 0 rfl) ?_
  refine lv_if_lt (tgt := 39) hx hb dX10_come_4 (by decide) (fun c9 => absurd c9 (by decide)) (fun _ => ?_)
  refine lv_aload_n hx hb dX10_come_7 rfl (lv_at hl 1 rfl) ?_
  refine tg_mem (ci := 10) (C := RX10) (T := TX10) (N := 49) hx hb hts inX10 hown hK hw 1 m_u_1 rfl (by decide) (hts _ tw_1138) (fun _ h9 => h9) dX10_come_8 ?_
  refine lv_aload_n hx hb dX10_come_11 rfl (lv_at hl 1 rfl) ?_
  refine tg_mem (ci := 10) (C := RX10) (T := TX10) (N := 49) hx hb hts inX10 hown hK hw 2 n_k_6 rfl (by decide) (hts _ tw_1139) (fun _ h9 => h9) dX10_come_12 ?_
  refine lv_iload_n hx hb dX10_come_15 rfl (lv_at hl 2 rfl) ?_
  refine lv_iload_n hx hb dX10_come_16 rfl (lv_at hl 0 rfl) ?_
  obtain ⟨v_8, e_v_8⟩ : ∃ q9 : Int32, (Int32.toUInt32 p1 >>> (Int32.toUInt32 16 &&& Int32.toUInt32 31)).toInt32 = q9 := ⟨_, rfl⟩
  refine lv_iushr (v := v_8) hx hb dX10_come_17 e_v_8 ?_
  have r_v_8 := ri_any v_8
  have q_v_8 : (Int32.toUInt32 p1 >>> (Int32.toUInt32 (16 : Int32) &&& Int32.toUInt32 31)).toInt32 = v_8 := e_v_8
  refine lv_sipush (v := 255) hx hb dX10_come_18 (by decide) ?_
  refine lv_iand hx hb dX10_come_21 (lv_topi (fun v_9 e_v_9 => ?_))
  have r_v_9 : RI v_9 0 255 := by rw [e_v_9]; exact ri_and (d := 255) (rl_255.to (by decide)) (by decide)
  have q_v_9 : v_8 &&& (255 : Int32) = v_9 := e_v_9.symm
  have mo9 := m_u_1
  refine tg_iast hx hb hK hw h_vu_1 rfl 9 929 r_v_5 (by decide) r_v_9 (by exact fun _ _ _ => by decide) (fun _ _ _ _ _ => trivial) (by decide) dX10_come_22 (fun ws H locs hw hF9 hU9 => ?_)
  have m_u_1 := FLD.over hF9 m_u_1 (by decide)
  have n_k_6 := FLD.over hF9 n_k_6 (by decide)
  obtain ⟨sg_10, q_sg_10⟩ : ∃ q9 : OS, sA sg_7 1 (Int32.toNatClampNeg v_5) v_9 = q9 := ⟨_, rfl⟩
  have o_p0 : OV vw_MT Ps ws p0 sg_10 := by rw [← q_sg_10]; exact OV.putA (V := vw_MT) (t := 40) hF9 hU9 o_p0 mo9 (by decide) (by decide)
  refine lv_aload_n hx hb dX10_come_23 rfl (lv_at hl 1 rfl) ?_
  refine lv_dup hx hb dX10_come_24 rfl ?_
  refine tg_mem (ci := 10) (C := RX10) (T := TX10) (N := 49) hx hb hts inX10 hown hK hw 2 n_k_6 rfl (by decide) (hts _ tw_1139) (fun _ h9 => h9) dX10_come_25 ?_
  refine lv_iconst (v := 1) hx hb dX10_come_28 (by decide) ?_
  refine lv_iadd hx hb dX10_come_29 (lv_topi (fun v_11 e_v_11 => ?_))
  obtain ⟨t_v_11, r_v_11⟩ := tq_add (lo := 10) (hi := 930) r_v_5 rl_1 (by decide +kernel) e_v_11
  have t_v_11 : v_11.toInt = v_5.toInt + 1 := t_v_11
  have q_v_11 : v_5 + (1 : Int32) = v_11 := e_v_11.symm
  refine tg_put (ci := 10) (ts := ty_MODEL) (v := .int v_11) (ty := .int) (C := RX10) (T := TX10) (N := 49) hx hb hts inX10 tyX10 tyX10_ok nmX10 hown hK hw h_p0 rfl rfl 2 (by decide) (hts _ tw_1139) (fun _ h9 => h9) rfl (by decide +kernel) rfl rfl (ft := vI 0 940) rfl ⟨_, rfl, (r_v_11.to (by decide))⟩ (by decide) dX10_come_30 (fun ws H locs hw n_k_12 hF9 => ?_)
  have m_u_1 := FLD.over hF9 m_u_1 (by decide)
  obtain ⟨sg_13, q_sg_13⟩ : ∃ q9 : OS, sI sg_10 2 v_11 = q9 := ⟨_, rfl⟩
  have o_p0 : OV vw_MT Ps ws p0 sg_13 := by rw [← q_sg_13]; exact OV.putI (V := vw_MT) hF9 n_k_12 o_p0 (by decide)
  refine lv_iinc (v := 8) (lv' := [(2, .int 8), (0, .ref p0), (1, .int p1)]) hx hb dX10_come_33 hl (k := 0) rfl (by decide) (by decide) rfl (fun ls hl => ?_)
  refine lv_goto (tgt := 3) hx hb dX10_come_36 (by decide) ?_
  refine lv_iload_n hx hb dX10_come_3 rfl (lv_at hl 0 rfl) ?_
  refine lv_if_lt (tgt := 39) hx hb dX10_come_4 (by decide) (fun c9 => absurd c9 (by decide)) (fun _ => ?_)
  refine lv_aload_n hx hb dX10_come_7 rfl (lv_at hl 1 rfl) ?_
  refine tg_mem (ci := 10) (C := RX10) (T := TX10) (N := 49) hx hb hts inX10 hown hK hw 1 m_u_1 rfl (by decide) (hts _ tw_1138) (fun _ h9 => h9) dX10_come_8 ?_
  refine lv_aload_n hx hb dX10_come_11 rfl (lv_at hl 1 rfl) ?_
  refine tg_mem (ci := 10) (C := RX10) (T := TX10) (N := 49) hx hb hts inX10 hown hK hw 2 n_k_12 rfl (by decide) (hts _ tw_1139) (fun _ h9 => h9) dX10_come_12 ?_
  refine lv_iload_n hx hb dX10_come_15 rfl (lv_at hl 2 rfl) ?_
  refine lv_iload_n hx hb dX10_come_16 rfl (lv_at hl 0 rfl) ?_
  obtain ⟨v_14, e_v_14⟩ : ∃ q9 : Int32, (Int32.toUInt32 p1 >>> (Int32.toUInt32 8 &&& Int32.toUInt32 31)).toInt32 = q9 := ⟨_, rfl⟩
  refine lv_iushr (v := v_14) hx hb dX10_come_17 e_v_14 ?_
  have r_v_14 : RI v_14 0 16777215 := by rw [← e_v_14]; exact ri_ushr8 _
  have q_v_14 : (Int32.toUInt32 p1 >>> (Int32.toUInt32 (8 : Int32) &&& Int32.toUInt32 31)).toInt32 = v_14 := e_v_14
  refine lv_sipush (v := 255) hx hb dX10_come_18 (by decide) ?_
  refine lv_iand hx hb dX10_come_21 (lv_topi (fun v_15 e_v_15 => ?_))
  have r_v_15 : RI v_15 0 255 := by rw [e_v_15]; exact ri_and (d := 255) (rl_255.to (by decide)) (by decide)
  have q_v_15 : v_14 &&& (255 : Int32) = v_15 := e_v_15.symm
  have mo9 := m_u_1
  refine tg_iast hx hb hK hw h_vu_1 rfl 10 930 r_v_11 (by decide) r_v_15 (by exact fun _ _ _ => by decide) (fun _ _ _ _ _ => trivial) (by decide) dX10_come_22 (fun ws H locs hw hF9 hU9 => ?_)
  have m_u_1 := FLD.over hF9 m_u_1 (by decide)
  have n_k_12 := FLD.over hF9 n_k_12 (by decide)
  obtain ⟨sg_16, q_sg_16⟩ : ∃ q9 : OS, sA sg_13 1 (Int32.toNatClampNeg v_11) v_15 = q9 := ⟨_, rfl⟩
  have o_p0 : OV vw_MT Ps ws p0 sg_16 := by rw [← q_sg_16]; exact OV.putA (V := vw_MT) (t := 40) hF9 hU9 o_p0 mo9 (by decide) (by decide)
  refine lv_aload_n hx hb dX10_come_23 rfl (lv_at hl 1 rfl) ?_
  refine lv_dup hx hb dX10_come_24 rfl ?_
  refine tg_mem (ci := 10) (C := RX10) (T := TX10) (N := 49) hx hb hts inX10 hown hK hw 2 n_k_12 rfl (by decide) (hts _ tw_1139) (fun _ h9 => h9) dX10_come_25 ?_
  refine lv_iconst (v := 1) hx hb dX10_come_28 (by decide) ?_
  refine lv_iadd hx hb dX10_come_29 (lv_topi (fun v_17 e_v_17 => ?_))
  obtain ⟨t_v_17, r_v_17⟩ := tq_add (lo := 11) (hi := 931) r_v_11 rl_1 (by decide +kernel) e_v_17
  have t_v_17 : v_17.toInt = v_11.toInt + 1 := t_v_17
  have q_v_17 : v_11 + (1 : Int32) = v_17 := e_v_17.symm
  refine tg_put (ci := 10) (ts := ty_MODEL) (v := .int v_17) (ty := .int) (C := RX10) (T := TX10) (N := 49) hx hb hts inX10 tyX10 tyX10_ok nmX10 hown hK hw h_p0 rfl rfl 2 (by decide) (hts _ tw_1139) (fun _ h9 => h9) rfl (by decide +kernel) rfl rfl (ft := vI 0 940) rfl ⟨_, rfl, (r_v_17.to (by decide))⟩ (by decide) dX10_come_30 (fun ws H locs hw n_k_18 hF9 => ?_)
  have m_u_1 := FLD.over hF9 m_u_1 (by decide)
  obtain ⟨sg_19, q_sg_19⟩ : ∃ q9 : OS, sI sg_16 2 v_17 = q9 := ⟨_, rfl⟩
  have o_p0 : OV vw_MT Ps ws p0 sg_19 := by rw [← q_sg_19]; exact OV.putI (V := vw_MT) hF9 n_k_18 o_p0 (by decide)
  refine lv_iinc (v := 0) (lv' := [(2, .int 0), (0, .ref p0), (1, .int p1)]) hx hb dX10_come_33 hl (k := 0) rfl (by decide) (by decide) rfl (fun ls hl => ?_)
  refine lv_goto (tgt := 3) hx hb dX10_come_36 (by decide) ?_
  refine lv_iload_n hx hb dX10_come_3 rfl (lv_at hl 0 rfl) ?_
  refine lv_if_lt (tgt := 39) hx hb dX10_come_4 (by decide) (fun c9 => absurd c9 (by decide)) (fun _ => ?_)
  refine lv_aload_n hx hb dX10_come_7 rfl (lv_at hl 1 rfl) ?_
  refine tg_mem (ci := 10) (C := RX10) (T := TX10) (N := 49) hx hb hts inX10 hown hK hw 1 m_u_1 rfl (by decide) (hts _ tw_1138) (fun _ h9 => h9) dX10_come_8 ?_
  refine lv_aload_n hx hb dX10_come_11 rfl (lv_at hl 1 rfl) ?_
  refine tg_mem (ci := 10) (C := RX10) (T := TX10) (N := 49) hx hb hts inX10 hown hK hw 2 n_k_18 rfl (by decide) (hts _ tw_1139) (fun _ h9 => h9) dX10_come_12 ?_
  refine lv_iload_n hx hb dX10_come_15 rfl (lv_at hl 2 rfl) ?_
  refine lv_iload_n hx hb dX10_come_16 rfl (lv_at hl 0 rfl) ?_
  obtain ⟨v_20, e_v_20⟩ : ∃ q9 : Int32, (Int32.toUInt32 p1 >>> (Int32.toUInt32 0 &&& Int32.toUInt32 31)).toInt32 = q9 := ⟨_, rfl⟩
  refine lv_iushr (v := v_20) hx hb dX10_come_17 e_v_20 ?_
  have r_v_20 := ri_any v_20
  have q_v_20 : (Int32.toUInt32 p1 >>> (Int32.toUInt32 (0 : Int32) &&& Int32.toUInt32 31)).toInt32 = v_20 := e_v_20
  refine lv_sipush (v := 255) hx hb dX10_come_18 (by decide) ?_
  refine lv_iand hx hb dX10_come_21 (lv_topi (fun v_21 e_v_21 => ?_))
  have r_v_21 : RI v_21 0 255 := by rw [e_v_21]; exact ri_and (d := 255) (rl_255.to (by decide)) (by decide)
  have q_v_21 : v_20 &&& (255 : Int32) = v_21 := e_v_21.symm
  have mo9 := m_u_1
  refine tg_iast hx hb hK hw h_vu_1 rfl 11 931 r_v_17 (by decide) r_v_21 (by exact fun _ _ _ => by decide) (fun _ _ _ _ _ => trivial) (by decide) dX10_come_22 (fun ws H locs hw hF9 hU9 => ?_)
  have m_u_1 := FLD.over hF9 m_u_1 (by decide)
  have n_k_18 := FLD.over hF9 n_k_18 (by decide)
  obtain ⟨sg_22, q_sg_22⟩ : ∃ q9 : OS, sA sg_19 1 (Int32.toNatClampNeg v_17) v_21 = q9 := ⟨_, rfl⟩
  have o_p0 : OV vw_MT Ps ws p0 sg_22 := by rw [← q_sg_22]; exact OV.putA (V := vw_MT) (t := 40) hF9 hU9 o_p0 mo9 (by decide) (by decide)
  refine lv_aload_n hx hb dX10_come_23 rfl (lv_at hl 1 rfl) ?_
  refine lv_dup hx hb dX10_come_24 rfl ?_
  refine tg_mem (ci := 10) (C := RX10) (T := TX10) (N := 49) hx hb hts inX10 hown hK hw 2 n_k_18 rfl (by decide) (hts _ tw_1139) (fun _ h9 => h9) dX10_come_25 ?_
  refine lv_iconst (v := 1) hx hb dX10_come_28 (by decide) ?_
  refine lv_iadd hx hb dX10_come_29 (lv_topi (fun v_23 e_v_23 => ?_))
  obtain ⟨t_v_23, r_v_23⟩ := tq_add (lo := 12) (hi := 932) r_v_17 rl_1 (by decide +kernel) e_v_23
  have t_v_23 : v_23.toInt = v_17.toInt + 1 := t_v_23
  have q_v_23 : v_17 + (1 : Int32) = v_23 := e_v_23.symm
  refine tg_put (ci := 10) (ts := ty_MODEL) (v := .int v_23) (ty := .int) (C := RX10) (T := TX10) (N := 49) hx hb hts inX10 tyX10 tyX10_ok nmX10 hown hK hw h_p0 rfl rfl 2 (by decide) (hts _ tw_1139) (fun _ h9 => h9) rfl (by decide +kernel) rfl rfl (ft := vI 0 940) rfl ⟨_, rfl, (r_v_23.to (by decide))⟩ (by decide) dX10_come_30 (fun ws H locs hw n_k_24 hF9 => ?_)
  have m_u_1 := FLD.over hF9 m_u_1 (by decide)
  obtain ⟨sg_25, q_sg_25⟩ : ∃ q9 : OS, sI sg_22 2 v_23 = q9 := ⟨_, rfl⟩
  have o_p0 : OV vw_MT Ps ws p0 sg_25 := by rw [← q_sg_25]; exact OV.putI (V := vw_MT) hF9 n_k_24 o_p0 (by decide)
  refine lv_iinc (v := (-8)) (lv' := [(2, .int (-8)), (0, .ref p0), (1, .int p1)]) hx hb dX10_come_33 hl (k := 0) rfl (by decide) (by decide) rfl (fun ls hl => ?_)
  refine lv_goto (tgt := 3) hx hb dX10_come_36 (by decide) ?_
  refine lv_iload_n hx hb dX10_come_3 rfl (lv_at hl 0 rfl) ?_
  refine lv_if_lt (tgt := 39) hx hb dX10_come_4 (by decide) (fun _ => ?_) (fun c9 => absurd (by decide) c9)
  simp only [f_X10_come__5, ↓reduceIte, q_f0_2, q_v_2, q_v_3, q_sg_4, q_v_5, q_sg_7, q_v_8, q_v_9, q_sg_10, q_v_11, q_sg_13, q_v_14, q_v_15, q_sg_16, q_v_17, q_sg_19, q_v_20, q_v_21, q_sg_22, q_v_23, q_sg_25] at hE
  subst hQ
  exact W.vret hx hb hr (fun t ht hW => ⟨⟨ws, rfl, ⟨⟨⟨(by rw [hR, ← hE]; exact o_p0), trivial⟩, ⟨⟨_, n_k_24, r_v_23⟩, trivial⟩⟩, hw.1, hw.2.2.2.2.1⟩, by rw [ht]; exact hw.2.1, va_K.moved hW.alike hK, hw.2.2.1⟩, hw.2.2.2.1.F ht⟩) hw.2.2.2.1.2.2 dX10_come_39
abbrev wr_X10_come__8 : List (Nat × Nat) := [(10, 2)]
abbrev wa_X10_come__8 : List Nat := [40]
set_option maxHeartbeats 4000000 in
set_option maxRecDepth 100000 in
theorem c_X10_come__8 (l : Launch) (D : va_G) (cy : Nat → ClassId) (z : Nat → Nat) (sz : Nat) (Ps : PSI) (w0 : va_W) (hT : HT cy GG Ps w0) (p0 : Nat) (p1 : Int32) (f0_2 : Int32) (s0 : OS) (h_p0 : (p0, 55) ∈ Ps) (r_p1 : RI p1 (-2147483648) 2147483647) (r_f0_2 : RI f0_2 12 932) (m_f0_2 : FLD w0 p0 10 2 (.int f0_2)) (o_p0 : OV vw_MT Ps w0 p0 s0) : Met l yX10_come (Cond.code yX10_come cX10_come 3 none :: gT) ({ frames := 0, cells := 0, slots := 0, locals := 200 } : Room) (va_Pc [.ref p0, .int p1] (PRE D cy z w0 sz)) (va_Qv (fun (u : va_W) => ((OV vw_MT Ps u p0 ((f_X10_come__5 p1 s0)) ∧ True) ∧ ((∃ v9 : Int32, FLD u p0 10 2 (.int v9) ∧ RI v9 16 936) ∧ True)) ∧ HT cy GG Ps u ∧ FR wr_X10_come__8 wa_X10_come__8 Ps w0 u) (BB D cy (va_A w0 sz) (fun (u : va_W) => u)) (va_A w0 sz)) 0 0 (va_A w0 sz) := by
  refine Met.ofW (cc := cX10_come) (maxL := 3) (ret := none) (by decide) rfl ?_
  intro p e s m args below meth c s₁ B hml hv
  obtain ⟨rfl, hsz, hP, hK, hD0, hSD⟩ := hv
  have hx := B.exec
  have hb := B.bytes
  have hr := B.returns
  have hlocks := B.notSynchronized
  have hts : ∀ w ∈ gT, w.before _ s = true := fun w h => atoms_spec (ws := Cond.code yX10_come cX10_come 3 none :: gT) B.pre w (List.mem_cons_of_mem _ h)
  have hown : s.vm.findClass RX10 = some m.cls := findClass_of_methodNamed B.named
  subst hsz
  have hD := hD0.self (sz := s.heap.size)
  generalize hAe : va_A w0 s.heap.size = A at hD hSD ⊢
  have hA : ∀ q : Nat, s.heap.size ≤ q → A q := fun q h => by rw [← hAe]; exact Or.inr h
  have hl := lv_entry ([.ref p0, .int p1]) (n := 3) (Nat.le_of_ble_eq_true rfl)
  rw [lg_entry_eq]
  generalize (lg_sl ([.ref p0, .int p1]) ++ List.replicate (3 - (lg_sl ([.ref p0, .int p1])).length) Slot.unset).toArray = ls at hl ⊢
  have hl : lv_has ls 3 [(0, .ref p0), (1, .int p1)] := hl
  refine nameQ (fun Q hQ => ?_)
  have hw : WD D cy GG A s wr_X10_come__8 wa_X10_come__8 Ps w0 Ps w0 s.heap [] := ⟨hT, hP, hD, va_S.rf, FR.rf, hT.1, [], (List.append_nil _).symm⟩
  obtain ⟨R9, hR⟩ : ∃ q9 : OS, f_X10_come__5 p1 s0 = q9 := ⟨_, rfl⟩
  have hE := hR
  refine lv_bipush (v := 24) hx hb dX10_come_0 (by decide) ?_
  refine lv_istore_n (lv' := [(2, .int 24), (0, .ref p0), (1, .int p1)]) hx hb dX10_come_2 rfl hl (by decide) rfl (fun ls hl => ?_)
  refine lv_iload_n hx hb dX10_come_3 rfl (lv_at hl 0 rfl) ?_
  refine lv_if_lt (tgt := 39) hx hb dX10_come_4 (by decide) (fun c9 => absurd c9 (by decide)) (fun _ => ?_)
  refine lv_aload_n hx hb dX10_come_7 rfl (lv_at hl 1 rfl) ?_
  refine tg_get (ci := 10) (ts := ty_MODEL) (C := RX10) (T := TX10) (N := 49) hx hb hts inX10 hown hK hw h_p0 rfl rfl 1 (by decide) (hts _ tw_1138) (fun _ h9 => h9) (ft := vR 40) rfl dX10_come_8 (fun u_1 hv_u_1 m_u_1 => ?_)
  obtain ⟨vu_1, rfl, h_vu_1⟩ := hv_u_1
  refine lv_aload_n hx hb dX10_come_11 rfl (lv_at hl 1 rfl) ?_
  refine tg_mem (ci := 10) (C := RX10) (T := TX10) (N := 49) hx hb hts inX10 hown hK hw 2 m_f0_2 rfl (by decide) (hts _ tw_1139) (fun _ h9 => h9) dX10_come_12 ?_
  have q_f0_2 : s0.1 2 = f0_2 := OV.eqI (V := vw_MT) hw.2.2.1 o_p0 m_f0_2 (by decide)
  refine lv_iload_n hx hb dX10_come_15 rfl (lv_at hl 2 rfl) ?_
  refine lv_iload_n hx hb dX10_come_16 rfl (lv_at hl 0 rfl) ?_
  obtain ⟨v_2, e_v_2⟩ : ∃ q9 : Int32, (Int32.toUInt32 p1 >>> (Int32.toUInt32 24 &&& Int32.toUInt32 31)).toInt32 = q9 := ⟨_, rfl⟩
  refine lv_iushr (v := v_2) hx hb dX10_come_17 e_v_2 ?_
  have r_v_2 := ri_any v_2
  have q_v_2 : (Int32.toUInt32 p1 >>> (Int32.toUInt32 (24 : Int32) &&& Int32.toUInt32 31)).toInt32 = v_2 := e_v_2
  refine lv_sipush (v := 255) hx hb dX10_come_18 (by decide) ?_
  refine lv_iand hx hb dX10_come_21 (lv_topi (fun v_3 e_v_3 => ?_))
  have r_v_3 : RI v_3 0 255 := by rw [e_v_3]; exact ri_and (d := 255) (rl_255.to (by decide)) (by decide)
  have q_v_3 : v_2 &&& (255 : Int32) = v_3 := e_v_3.symm
  have mo9 := m_u_1
  refine tg_iast hx hb hK hw h_vu_1 rfl 12 932 r_f0_2 (by decide) r_v_3 (by exact fun _ _ _ => by decide) (fun _ _ _ _ _ => trivial) (by decide) dX10_come_22 (fun ws H locs hw hF9 hU9 => ?_)
  have m_f0_2 := FLD.over hF9 m_f0_2 (by decide)
  have m_u_1 := FLD.over hF9 m_u_1 (by decide)
  obtain ⟨sg_4, q_sg_4⟩ : ∃ q9 : OS, sA s0 1 (Int32.toNatClampNeg f0_2) v_3 = q9 := ⟨_, rfl⟩
  have o_p0 : OV vw_MT Ps ws p0 sg_4 := by rw [← q_sg_4]; exact OV.putA (V := vw_MT) (t := 40) hF9 hU9 o_p0 mo9 (by decide) (by decide)
  refine lv_aload_n hx hb dX10_come_23 rfl (lv_at hl 1 rfl) ?_
  refine lv_dup hx hb dX10_come_24 rfl ?_
  refine tg_mem (ci := 10) (C := RX10) (T := TX10) (N := 49) hx hb hts inX10 hown hK hw 2 m_f0_2 rfl (by decide) (hts _ tw_1139) (fun _ h9 => h9) dX10_come_25 ?_
  refine lv_iconst (v := 1) hx hb dX10_come_28 (by decide) ?_
  refine lv_iadd hx hb dX10_come_29 (lv_topi (fun v_5 e_v_5 => ?_))
  obtain ⟨t_v_5, r_v_5⟩ := tq_add (lo := 13) (hi := 933) r_f0_2 rl_1 (by decide +kernel) e_v_5
  have t_v_5 : v_5.toInt = f0_2.toInt + 1 := t_v_5
  have q_v_5 : f0_2 + (1 : Int32) = v_5 := e_v_5.symm
  refine tg_put (ci := 10) (ts := ty_MODEL) (v := .int v_5) (ty := .int) (C := RX10) (T := TX10) (N := 49) hx hb hts inX10 tyX10 tyX10_ok nmX10 hown hK hw h_p0 rfl rfl 2 (by decide) (hts _ tw_1139) (fun _ h9 => h9) rfl (by decide +kernel) rfl rfl (ft := vI 0 940) rfl ⟨_, rfl, (r_v_5.to (by decide))⟩ (by decide) dX10_come_30 (fun ws H locs hw n_k_6 hF9 => ?_)
  have m_u_1 := FLD.over hF9 m_u_1 (by decide)
  obtain ⟨sg_7, q_sg_7⟩ : ∃ q9 : OS, sI sg_4 2 v_5 = q9 := ⟨_, rfl⟩
  have o_p0 : OV vw_MT Ps ws p0 sg_7 := by rw [← q_sg_7]; exact OV.putI (V := vw_MT) hF9 n_k_6 o_p0 (by decide)
  refine lv_iinc (v := 16) (lv' := [(2, .int 16), (0, .ref p0), (1, .int p1)]) hx hb dX10_come_33 hl (k := 0) rfl (by decide) (by decide) rfl (fun ls hl => ?_)
  refine lv_goto (tgt := 3) hx hb dX10_come_36 (by decide) ?_
  refine lv_iload_n hx hb dX10_come_3 rfl (lv_at hl 0 rfl) ?_
  refine lv_if_lt (tgt := 39) hx hb dX10_come_4 (by decide) (fun c9 => absurd c9 (by decide)) (fun _ => ?_)
  refine lv_aload_n hx hb dX10_come_7 rfl (lv_at hl 1 rfl) ?_
  refine tg_mem (ci := 10) (C := RX10) (T := TX10) (N := 49) hx hb hts inX10 hown hK hw 1 m_u_1 rfl (by decide) (hts _ tw_1138) (fun _ h9 => h9) dX10_come_8 ?_
  refine lv_aload_n hx hb dX10_come_11 rfl (lv_at hl 1 rfl) ?_
  refine tg_mem (ci := 10) (C := RX10) (T := TX10) (N := 49) hx hb hts inX10 hown hK hw 2 n_k_6 rfl (by decide) (hts _ tw_1139) (fun _ h9 => h9) dX10_come_12 ?_
  refine lv_iload_n hx hb dX10_come_15 rfl (lv_at hl 2 rfl) ?_
  refine lv_iload_n hx hb dX10_come_16 rfl (lv_at hl 0 rfl) ?_
  obtain ⟨v_8, e_v_8⟩ : ∃ q9 : Int32, (Int32.toUInt32 p1 >>> (Int32.toUInt32 16 &&& Int32.toUInt32 31)).toInt32 = q9 := ⟨_, rfl⟩
  refine lv_iushr (v := v_8) hx hb dX10_come_17 e_v_8 ?_
  have r_v_8 := ri_any v_8
  have q_v_8 : (Int32.toUInt32 p1 >>> (Int32.toUInt32 (16 : Int32) &&& Int32.toUInt32 31)).toInt32 = v_8 := e_v_8
  refine lv_sipush (v := 255) hx hb dX10_come_18 (by decide) ?_
  refine lv_iand hx hb dX10_come_21 (lv_topi (fun v_9 e_v_9 => ?_))
  have r_v_9 : RI v_9 0 255 := by rw [e_v_9]; exact ri_and (d := 255) (rl_255.to (by decide)) (by decide)
  have q_v_9 : v_8 &&& (255 : Int32) = v_9 := e_v_9.symm
  have mo9 := m_u_1
  refine tg_iast hx hb hK hw h_vu_1 rfl 13 933 r_v_5 (by decide) r_v_9 (by exact fun _ _ _ => by decide) (fun _ _ _ _ _ => trivial) (by decide) dX10_come_22 (fun ws H locs hw hF9 hU9 => ?_)
  have m_u_1 := FLD.over hF9 m_u_1 (by decide)
  have n_k_6 := FLD.over hF9 n_k_6 (by decide)
  obtain ⟨sg_10, q_sg_10⟩ : ∃ q9 : OS, sA sg_7 1 (Int32.toNatClampNeg v_5) v_9 = q9 := ⟨_, rfl⟩
  have o_p0 : OV vw_MT Ps ws p0 sg_10 := by rw [← q_sg_10]; exact OV.putA (V := vw_MT) (t := 40) hF9 hU9 o_p0 mo9 (by decide) (by decide)
  refine lv_aload_n hx hb dX10_come_23 rfl (lv_at hl 1 rfl) ?_
  refine lv_dup hx hb dX10_come_24 rfl ?_
  refine tg_mem (ci := 10) (C := RX10) (T := TX10) (N := 49) hx hb hts inX10 hown hK hw 2 n_k_6 rfl (by decide) (hts _ tw_1139) (fun _ h9 => h9) dX10_come_25 ?_
  refine lv_iconst (v := 1) hx hb dX10_come_28 (by decide) ?_
  refine lv_iadd hx hb dX10_come_29 (lv_topi (fun v_11 e_v_11 => ?_))
  obtain ⟨t_v_11, r_v_11⟩ := tq_add (lo := 14) (hi := 934) r_v_5 rl_1 (by decide +kernel) e_v_11
  have t_v_11 : v_11.toInt = v_5.toInt + 1 := t_v_11
  have q_v_11 : v_5 + (1 : Int32) = v_11 := e_v_11.symm
  refine tg_put (ci := 10) (ts := ty_MODEL) (v := .int v_11) (ty := .int) (C := RX10) (T := TX10) (N := 49) hx hb hts inX10 tyX10 tyX10_ok nmX10 hown hK hw h_p0 rfl rfl 2 (by decide) (hts _ tw_1139) (fun _ h9 => h9) rfl (by decide +kernel) rfl rfl (ft := vI 0 940) rfl ⟨_, rfl, (r_v_11.to (by decide))⟩ (by decide) dX10_come_30 (fun ws H locs hw n_k_12 hF9 => ?_)
  have m_u_1 := FLD.over hF9 m_u_1 (by decide)
  obtain ⟨sg_13, q_sg_13⟩ : ∃ q9 : OS, sI sg_10 2 v_11 = q9 := ⟨_, rfl⟩
  have o_p0 : OV vw_MT Ps ws p0 sg_13 := by rw [← q_sg_13]; exact OV.putI (V := vw_MT) hF9 n_k_12 o_p0 (by decide)
  refine lv_iinc (v := 8) (lv' := [(2, .int 8), (0, .ref p0), (1, .int p1)]) hx hb dX10_come_33 hl (k := 0) rfl (by decide) (by decide) rfl (fun ls hl => ?_)
  refine lv_goto (tgt := 3) hx hb dX10_come_36 (by decide) ?_
  refine lv_iload_n hx hb dX10_come_3 rfl (lv_at hl 0 rfl) ?_
  refine lv_if_lt (tgt := 39) hx hb dX10_come_4 (by decide) (fun c9 => absurd c9 (by decide)) (fun _ => ?_)
  refine lv_aload_n hx hb dX10_come_7 rfl (lv_at hl 1 rfl) ?_
  refine tg_mem (ci := 10) (C := RX10) (T := TX10) (N := 49) hx hb hts inX10 hown hK hw 1 m_u_1 rfl (by decide) (hts _ tw_1138) (fun _ h9 => h9) dX10_come_8 ?_
  refine lv_aload_n hx hb dX10_come_11 rfl (lv_at hl 1 rfl) ?_
  refine tg_mem (ci := 10) (C := RX10) (T := TX10) (N := 49) hx hb hts inX10 hown hK hw 2 n_k_12 rfl (by decide) (hts _ tw_1139) (fun _ h9 => h9) dX10_come_12 ?_
  refine lv_iload_n hx hb dX10_come_15 rfl (lv_at hl 2 rfl) ?_
  refine lv_iload_n hx hb dX10_come_16 rfl (lv_at hl 0 rfl) ?_
  obtain ⟨v_14, e_v_14⟩ : ∃ q9 : Int32, (Int32.toUInt32 p1 >>> (Int32.toUInt32 8 &&& Int32.toUInt32 31)).toInt32 = q9 := ⟨_, rfl⟩
  refine lv_iushr (v := v_14) hx hb dX10_come_17 e_v_14 ?_
  have r_v_14 : RI v_14 0 16777215 := by rw [← e_v_14]; exact ri_ushr8 _
  have q_v_14 : (Int32.toUInt32 p1 >>> (Int32.toUInt32 (8 : Int32) &&& Int32.toUInt32 31)).toInt32 = v_14 := e_v_14
  refine lv_sipush (v := 255) hx hb dX10_come_18 (by decide) ?_
  refine lv_iand hx hb dX10_come_21 (lv_topi (fun v_15 e_v_15 => ?_))
  have r_v_15 : RI v_15 0 255 := by rw [e_v_15]; exact ri_and (d := 255) (rl_255.to (by decide)) (by decide)
  have q_v_15 : v_14 &&& (255 : Int32) = v_15 := e_v_15.symm
  have mo9 := m_u_1
  refine tg_iast hx hb hK hw h_vu_1 rfl 14 934 r_v_11 (by decide) r_v_15 (by exact fun _ _ _ => by decide) (fun _ _ _ _ _ => trivial) (by decide) dX10_come_22 (fun ws H locs hw hF9 hU9 => ?_)
  have m_u_1 := FLD.over hF9 m_u_1 (by decide)
  have n_k_12 := FLD.over hF9 n_k_12 (by decide)
  obtain ⟨sg_16, q_sg_16⟩ : ∃ q9 : OS, sA sg_13 1 (Int32.toNatClampNeg v_11) v_15 = q9 := ⟨_, rfl⟩
  have o_p0 : OV vw_MT Ps ws p0 sg_16 := by rw [← q_sg_16]; exact OV.putA (V := vw_MT) (t := 40) hF9 hU9 o_p0 mo9 (by decide) (by decide)
  refine lv_aload_n hx hb dX10_come_23 rfl (lv_at hl 1 rfl) ?_
  refine lv_dup hx hb dX10_come_24 rfl ?_
  refine tg_mem (ci := 10) (C := RX10) (T := TX10) (N := 49) hx hb hts inX10 hown hK hw 2 n_k_12 rfl (by decide) (hts _ tw_1139) (fun _ h9 => h9) dX10_come_25 ?_
  refine lv_iconst (v := 1) hx hb dX10_come_28 (by decide) ?_
  refine lv_iadd hx hb dX10_come_29 (lv_topi (fun v_17 e_v_17 => ?_))
  obtain ⟨t_v_17, r_v_17⟩ := tq_add (lo := 15) (hi := 935) r_v_11 rl_1 (by decide +kernel) e_v_17
  have t_v_17 : v_17.toInt = v_11.toInt + 1 := t_v_17
  have q_v_17 : v_11 + (1 : Int32) = v_17 := e_v_17.symm
  refine tg_put (ci := 10) (ts := ty_MODEL) (v := .int v_17) (ty := .int) (C := RX10) (T := TX10) (N := 49) hx hb hts inX10 tyX10 tyX10_ok nmX10 hown hK hw h_p0 rfl rfl 2 (by decide) (hts _ tw_1139) (fun _ h9 => h9) rfl (by decide +kernel) rfl rfl (ft := vI 0 940) rfl ⟨_, rfl, (r_v_17.to (by decide))⟩ (by decide) dX10_come_30 (fun ws H locs hw n_k_18 hF9 => ?_)
  have m_u_1 := FLD.over hF9 m_u_1 (by decide)
  obtain ⟨sg_19, q_sg_19⟩ : ∃ q9 : OS, sI sg_16 2 v_17 = q9 := ⟨_, rfl⟩
  have o_p0 : OV vw_MT Ps ws p0 sg_19 := by rw [← q_sg_19]; exact OV.putI (V := vw_MT) hF9 n_k_18 o_p0 (by decide)
  refine lv_iinc (v := 0) (lv' := [(2, .int 0), (0, .ref p0), (1, .int p1)]) hx hb dX10_come_33 hl (k := 0) rfl (by decide) (by decide) rfl (fun ls hl => ?_)
  refine lv_goto (tgt := 3) hx hb dX10_come_36 (by decide) ?_
  refine lv_iload_n hx hb dX10_come_3 rfl (lv_at hl 0 rfl) ?_
  refine lv_if_lt (tgt := 39) hx hb dX10_come_4 (by decide) (fun c9 => absurd c9 (by decide)) (fun _ => ?_)
  refine lv_aload_n hx hb dX10_come_7 rfl (lv_at hl 1 rfl) ?_
  refine tg_mem (ci := 10) (C := RX10) (T := TX10) (N := 49) hx hb hts inX10 hown hK hw 1 m_u_1 rfl (by decide) (hts _ tw_1138) (fun _ h9 => h9) dX10_come_8 ?_
  refine lv_aload_n hx hb dX10_come_11 rfl (lv_at hl 1 rfl) ?_
  refine tg_mem (ci := 10) (C := RX10) (T := TX10) (N := 49) hx hb hts inX10 hown hK hw 2 n_k_18 rfl (by decide) (hts _ tw_1139) (fun _ h9 => h9) dX10_come_12 ?_
  refine lv_iload_n hx hb dX10_come_15 rfl (lv_at hl 2 rfl) ?_
  refine lv_iload_n hx hb dX10_come_16 rfl (lv_at hl 0 rfl) ?_
  obtain ⟨v_20, e_v_20⟩ : ∃ q9 : Int32, (Int32.toUInt32 p1 >>> (Int32.toUInt32 0 &&& Int32.toUInt32 31)).toInt32 = q9 := ⟨_, rfl⟩
  refine lv_iushr (v := v_20) hx hb dX10_come_17 e_v_20 ?_
  have r_v_20 := ri_any v_20
  have q_v_20 : (Int32.toUInt32 p1 >>> (Int32.toUInt32 (0 : Int32) &&& Int32.toUInt32 31)).toInt32 = v_20 := e_v_20
  refine lv_sipush (v := 255) hx hb dX10_come_18 (by decide) ?_
  refine lv_iand hx hb dX10_come_21 (lv_topi (fun v_21 e_v_21 => ?_))
  have r_v_21 : RI v_21 0 255 := by rw [e_v_21]; exact ri_and (d := 255) (rl_255.to (by decide)) (by decide)
  have q_v_21 : v_20 &&& (255 : Int32) = v_21 := e_v_21.symm
  have mo9 := m_u_1
  refine tg_iast hx hb hK hw h_vu_1 rfl 15 935 r_v_17 (by decide) r_v_21 (by exact fun _ _ _ => by decide) (fun _ _ _ _ _ => trivial) (by decide) dX10_come_22 (fun ws H locs hw hF9 hU9 => ?_)
  have m_u_1 := FLD.over hF9 m_u_1 (by decide)
  have n_k_18 := FLD.over hF9 n_k_18 (by decide)
  obtain ⟨sg_22, q_sg_22⟩ : ∃ q9 : OS, sA sg_19 1 (Int32.toNatClampNeg v_17) v_21 = q9 := ⟨_, rfl⟩
  have o_p0 : OV vw_MT Ps ws p0 sg_22 := by rw [← q_sg_22]; exact OV.putA (V := vw_MT) (t := 40) hF9 hU9 o_p0 mo9 (by decide) (by decide)
  refine lv_aload_n hx hb dX10_come_23 rfl (lv_at hl 1 rfl) ?_
  refine lv_dup hx hb dX10_come_24 rfl ?_
  refine tg_mem (ci := 10) (C := RX10) (T := TX10) (N := 49) hx hb hts inX10 hown hK hw 2 n_k_18 rfl (by decide) (hts _ tw_1139) (fun _ h9 => h9) dX10_come_25 ?_
  refine lv_iconst (v := 1) hx hb dX10_come_28 (by decide) ?_
  refine lv_iadd hx hb dX10_come_29 (lv_topi (fun v_23 e_v_23 => ?_))
  obtain ⟨t_v_23, r_v_23⟩ := tq_add (lo := 16) (hi := 936) r_v_17 rl_1 (by decide +kernel) e_v_23
  have t_v_23 : v_23.toInt = v_17.toInt + 1 := t_v_23
  have q_v_23 : v_17 + (1 : Int32) = v_23 := e_v_23.symm
  refine tg_put (ci := 10) (ts := ty_MODEL) (v := .int v_23) (ty := .int) (C := RX10) (T := TX10) (N := 49) hx hb hts inX10 tyX10 tyX10_ok nmX10 hown hK hw h_p0 rfl rfl 2 (by decide) (hts _ tw_1139) (fun _ h9 => h9) rfl (by decide +kernel) rfl rfl (ft := vI 0 940) rfl ⟨_, rfl, (r_v_23.to (by decide))⟩ (by decide) dX10_come_30 (fun ws H locs hw n_k_24 hF9 => ?_)
  have m_u_1 := FLD.over hF9 m_u_1 (by decide)
  obtain ⟨sg_25, q_sg_25⟩ : ∃ q9 : OS, sI sg_22 2 v_23 = q9 := ⟨_, rfl⟩
  have o_p0 : OV vw_MT Ps ws p0 sg_25 := by rw [← q_sg_25]; exact OV.putI (V := vw_MT) hF9 n_k_24 o_p0 (by decide)
  refine lv_iinc (v := (-8)) (lv' := [(2, .int (-8)), (0, .ref p0), (1, .int p1)]) hx hb dX10_come_33 hl (k := 0) rfl (by decide) (by decide) rfl (fun ls hl => ?_)
  refine lv_goto (tgt := 3) hx hb dX10_come_36 (by decide) ?_
  refine lv_iload_n hx hb dX10_come_3 rfl (lv_at hl 0 rfl) ?_
  refine lv_if_lt (tgt := 39) hx hb dX10_come_4 (by decide) (fun _ => ?_) (fun c9 => absurd (by decide) c9)
  simp only [f_X10_come__5, ↓reduceIte, q_f0_2, q_v_2, q_v_3, q_sg_4, q_v_5, q_sg_7, q_v_8, q_v_9, q_sg_10, q_v_11, q_sg_13, q_v_14, q_v_15, q_sg_16, q_v_17, q_sg_19, q_v_20, q_v_21, q_sg_22, q_v_23, q_sg_25] at hE
  subst hQ
  exact W.vret hx hb hr (fun t ht hW => ⟨⟨ws, rfl, ⟨⟨⟨(by rw [hR, ← hE]; exact o_p0), trivial⟩, ⟨⟨_, n_k_24, r_v_23⟩, trivial⟩⟩, hw.1, hw.2.2.2.2.1⟩, by rw [ht]; exact hw.2.1, va_K.moved hW.alike hK, hw.2.2.1⟩, hw.2.2.2.1.F ht⟩) hw.2.2.2.1.2.2 dX10_come_39
abbrev wr_X10_come__9 : List (Nat × Nat) := [(10, 2)]
abbrev wa_X10_come__9 : List Nat := [40]
set_option maxHeartbeats 4000000 in
set_option maxRecDepth 100000 in
theorem c_X10_come__9 (l : Launch) (D : va_G) (cy : Nat → ClassId) (z : Nat → Nat) (sz : Nat) (Ps : PSI) (w0 : va_W) (hT : HT cy GG Ps w0) (p0 : Nat) (p1 : Int32) (f0_2 : Int32) (s0 : OS) (h_p0 : (p0, 55) ∈ Ps) (r_p1 : RI p1 (-2147483648) 2147483647) (r_f0_2 : RI f0_2 16 936) (m_f0_2 : FLD w0 p0 10 2 (.int f0_2)) (o_p0 : OV vw_MT Ps w0 p0 s0) : Met l yX10_come (Cond.code yX10_come cX10_come 3 none :: gT) ({ frames := 0, cells := 0, slots := 0, locals := 200 } : Room) (va_Pc [.ref p0, .int p1] (PRE D cy z w0 sz)) (va_Qv (fun (u : va_W) => ((OV vw_MT Ps u p0 ((f_X10_come__5 p1 s0)) ∧ True) ∧ ((∃ v9 : Int32, FLD u p0 10 2 (.int v9) ∧ RI v9 20 940) ∧ True)) ∧ HT cy GG Ps u ∧ FR wr_X10_come__9 wa_X10_come__9 Ps w0 u) (BB D cy (va_A w0 sz) (fun (u : va_W) => u)) (va_A w0 sz)) 0 0 (va_A w0 sz) := by
  refine Met.ofW (cc := cX10_come) (maxL := 3) (ret := none) (by decide) rfl ?_
  intro p e s m args below meth c s₁ B hml hv
  obtain ⟨rfl, hsz, hP, hK, hD0, hSD⟩ := hv
  have hx := B.exec
  have hb := B.bytes
  have hr := B.returns
  have hlocks := B.notSynchronized
  have hts : ∀ w ∈ gT, w.before _ s = true := fun w h => atoms_spec (ws := Cond.code yX10_come cX10_come 3 none :: gT) B.pre w (List.mem_cons_of_mem _ h)
  have hown : s.vm.findClass RX10 = some m.cls := findClass_of_methodNamed B.named
  subst hsz
  have hD := hD0.self (sz := s.heap.size)
  generalize hAe : va_A w0 s.heap.size = A at hD hSD ⊢
  have hA : ∀ q : Nat, s.heap.size ≤ q → A q := fun q h => by rw [← hAe]; exact Or.inr h
  have hl := lv_entry ([.ref p0, .int p1]) (n := 3) (Nat.le_of_ble_eq_true rfl)
  rw [lg_entry_eq]
  generalize (lg_sl ([.ref p0, .int p1]) ++ List.replicate (3 - (lg_sl ([.ref p0, .int p1])).length) Slot.unset).toArray = ls at hl ⊢
  have hl : lv_has ls 3 [(0, .ref p0), (1, .int p1)] := hl
  refine nameQ (fun Q hQ => ?_)
  have hw : WD D cy GG A s wr_X10_come__9 wa_X10_come__9 Ps w0 Ps w0 s.heap [] := ⟨hT, hP, hD, va_S.rf, FR.rf, hT.1, [], (List.append_nil _).symm⟩
  obtain ⟨R9, hR⟩ : ∃ q9 : OS, f_X10_come__5 p1 s0 = q9 := ⟨_, rfl⟩
  have hE := hR
  refine lv_bipush (v := 24) hx hb dX10_come_0 (by decide) ?_
  refine lv_istore_n (lv' := [(2, .int 24), (0, .ref p0), (1, .int p1)]) hx hb dX10_come_2 rfl hl (by decide) rfl (fun ls hl => ?_)
  refine lv_iload_n hx hb dX10_come_3 rfl (lv_at hl 0 rfl) ?_
  refine lv_if_lt (tgt := 39) hx hb dX10_come_4 (by decide) (fun c9 => absurd c9 (by decide)) (fun _ => ?_)
  refine lv_aload_n hx hb dX10_come_7 rfl (lv_at hl 1 rfl) ?_
  refine tg_get (ci := 10) (ts := ty_MODEL) (C := RX10) (T := TX10) (N := 49) hx hb hts inX10 hown hK hw h_p0 rfl rfl 1 (by decide) (hts _ tw_1138) (fun _ h9 => h9) (ft := vR 40) rfl dX10_come_8 (fun u_1 hv_u_1 m_u_1 => ?_)
  obtain ⟨vu_1, rfl, h_vu_1⟩ := hv_u_1
  refine lv_aload_n hx hb dX10_come_11 rfl (lv_at hl 1 rfl) ?_
  refine tg_mem (ci := 10) (C := RX10) (T := TX10) (N := 49) hx hb hts inX10 hown hK hw 2 m_f0_2 rfl (by decide) (hts _ tw_1139) (fun _ h9 => h9) dX10_come_12 ?_
  have q_f0_2 : s0.1 2 = f0_2 := OV.eqI (V := vw_MT) hw.2.2.1 o_p0 m_f0_2 (by decide)
  refine lv_iload_n hx hb dX10_come_15 rfl (lv_at hl 2 rfl) ?_
  refine lv_iload_n hx hb dX10_come_16 rfl (lv_at hl 0 rfl) ?_
  obtain ⟨v_2, e_v_2⟩ : ∃ q9 : Int32, (Int32.toUInt32 p1 >>> (Int32.toUInt32 24 &&& Int32.toUInt32 31)).toInt32 = q9 := ⟨_, rfl⟩
  refine lv_iushr (v := v_2) hx hb dX10_come_17 e_v_2 ?_
  have r_v_2 := ri_any v_2
  have q_v_2 : (Int32.toUInt32 p1 >>> (Int32.toUInt32 (24 : Int32) &&& Int32.toUInt32 31)).toInt32 = v_2 := e_v_2
  refine lv_sipush (v := 255) hx hb dX10_come_18 (by decide) ?_
  refine lv_iand hx hb dX10_come_21 (lv_topi (fun v_3 e_v_3 => ?_))
  have r_v_3 : RI v_3 0 255 := by rw [e_v_3]; exact ri_and (d := 255) (rl_255.to (by decide)) (by decide)
  have q_v_3 : v_2 &&& (255 : Int32) = v_3 := e_v_3.symm
  have mo9 := m_u_1
  refine tg_iast hx hb hK hw h_vu_1 rfl 16 936 r_f0_2 (by decide) r_v_3 (by exact fun _ _ _ => by decide) (fun _ _ _ _ _ => trivial) (by decide) dX10_come_22 (fun ws H locs hw hF9 hU9 => ?_)
  have m_f0_2 := FLD.over hF9 m_f0_2 (by decide)
  have m_u_1 := FLD.over hF9 m_u_1 (by decide)
  obtain ⟨sg_4, q_sg_4⟩ : ∃ q9 : OS, sA s0 1 (Int32.toNatClampNeg f0_2) v_3 = q9 := ⟨_, rfl⟩
  have o_p0 : OV vw_MT Ps ws p0 sg_4 := by rw [← q_sg_4]; exact OV.putA (V := vw_MT) (t := 40) hF9 hU9 o_p0 mo9 (by decide) (by decide)
  refine lv_aload_n hx hb dX10_come_23 rfl (lv_at hl 1 rfl) ?_
  refine lv_dup hx hb dX10_come_24 rfl ?_
  refine tg_mem (ci := 10) (C := RX10) (T := TX10) (N := 49) hx hb hts inX10 hown hK hw 2 m_f0_2 rfl (by decide) (hts _ tw_1139) (fun _ h9 => h9) dX10_come_25 ?_
  refine lv_iconst (v := 1) hx hb dX10_come_28 (by decide) ?_
  refine lv_iadd hx hb dX10_come_29 (lv_topi (fun v_5 e_v_5 => ?_))
  obtain ⟨t_v_5, r_v_5⟩ := tq_add (lo := 17) (hi := 937) r_f0_2 rl_1 (by decide +kernel) e_v_5
  have t_v_5 : v_5.toInt = f0_2.toInt + 1 := t_v_5
  have q_v_5 : f0_2 + (1 : Int32) = v_5 := e_v_5.symm
  refine tg_put (ci := 10) (ts := ty_MODEL) (v := .int v_5) (ty := .int) (C := RX10) (T := TX10) (N := 49) hx hb hts inX10 tyX10 tyX10_ok nmX10 hown hK hw h_p0 rfl rfl 2 (by decide) (hts _ tw_1139) (fun _ h9 => h9) rfl (by decide +kernel) rfl rfl (ft := vI 0 940) rfl ⟨_, rfl, (r_v_5.to (by decide))⟩ (by decide) dX10_come_30 (fun ws H locs hw n_k_6 hF9 => ?_)
  have m_u_1 := FLD.over hF9 m_u_1 (by decide)
  obtain ⟨sg_7, q_sg_7⟩ : ∃ q9 : OS, sI sg_4 2 v_5 = q9 := ⟨_, rfl⟩
  have o_p0 : OV vw_MT Ps ws p0 sg_7 := by rw [← q_sg_7]; exact OV.putI (V := vw_MT) hF9 n_k_6 o_p0 (by decide)
  refine lv_iinc (v := 16) (lv' := [(2, .int 16), (0, .ref p0), (1, .int p1)]) hx hb dX10_come_33 hl (k := 0) rfl (by decide) (by decide) rfl (fun ls hl => ?_)
  refine lv_goto (tgt := 3) hx hb dX10_come_36 (by decide) ?_
  refine lv_iload_n hx hb dX10_come_3 rfl (lv_at hl 0 rfl) ?_
  refine lv_if_lt (tgt := 39) hx hb dX10_come_4 (by decide) (fun c9 => absurd c9 (by decide)) (fun _ => ?_)
  refine lv_aload_n hx hb dX10_come_7 rfl (lv_at hl 1 rfl) ?_
  refine tg_mem (ci := 10) (C := RX10) (T := TX10) (N := 49) hx hb hts inX10 hown hK hw 1 m_u_1 rfl (by decide) (hts _ tw_1138) (fun _ h9 => h9) dX10_come_8 ?_
  refine lv_aload_n hx hb dX10_come_11 rfl (lv_at hl 1 rfl) ?_
  refine tg_mem (ci := 10) (C := RX10) (T := TX10) (N := 49) hx hb hts inX10 hown hK hw 2 n_k_6 rfl (by decide) (hts _ tw_1139) (fun _ h9 => h9) dX10_come_12 ?_
  refine lv_iload_n hx hb dX10_come_15 rfl (lv_at hl 2 rfl) ?_
  refine lv_iload_n hx hb dX10_come_16 rfl (lv_at hl 0 rfl) ?_
  obtain ⟨v_8, e_v_8⟩ : ∃ q9 : Int32, (Int32.toUInt32 p1 >>> (Int32.toUInt32 16 &&& Int32.toUInt32 31)).toInt32 = q9 := ⟨_, rfl⟩
  refine lv_iushr (v := v_8) hx hb dX10_come_17 e_v_8 ?_
  have r_v_8 := ri_any v_8
  have q_v_8 : (Int32.toUInt32 p1 >>> (Int32.toUInt32 (16 : Int32) &&& Int32.toUInt32 31)).toInt32 = v_8 := e_v_8
  refine lv_sipush (v := 255) hx hb dX10_come_18 (by decide) ?_
  refine lv_iand hx hb dX10_come_21 (lv_topi (fun v_9 e_v_9 => ?_))
  have r_v_9 : RI v_9 0 255 := by rw [e_v_9]; exact ri_and (d := 255) (rl_255.to (by decide)) (by decide)
  have q_v_9 : v_8 &&& (255 : Int32) = v_9 := e_v_9.symm
  have mo9 := m_u_1
  refine tg_iast hx hb hK hw h_vu_1 rfl 17 937 r_v_5 (by decide) r_v_9 (by exact fun _ _ _ => by decide) (fun _ _ _ _ _ => trivial) (by decide) dX10_come_22 (fun ws H locs hw hF9 hU9 => ?_)
  have m_u_1 := FLD.over hF9 m_u_1 (by decide)
  have n_k_6 := FLD.over hF9 n_k_6 (by decide)
  obtain ⟨sg_10, q_sg_10⟩ : ∃ q9 : OS, sA sg_7 1 (Int32.toNatClampNeg v_5) v_9 = q9 := ⟨_, rfl⟩
  have o_p0 : OV vw_MT Ps ws p0 sg_10 := by rw [← q_sg_10]; exact OV.putA (V := vw_MT) (t := 40) hF9 hU9 o_p0 mo9 (by decide) (by decide)
  refine lv_aload_n hx hb dX10_come_23 rfl (lv_at hl 1 rfl) ?_
  refine lv_dup hx hb dX10_come_24 rfl ?_
  refine tg_mem (ci := 10) (C := RX10) (T := TX10) (N := 49) hx hb hts inX10 hown hK hw 2 n_k_6 rfl (by decide) (hts _ tw_1139) (fun _ h9 => h9) dX10_come_25 ?_
  refine lv_iconst (v := 1) hx hb dX10_come_28 (by decide) ?_
  refine lv_iadd hx hb dX10_come_29 (lv_topi (fun v_11 e_v_11 => ?_))
  obtain ⟨t_v_11, r_v_11⟩ := tq_add (lo := 18) (hi := 938) r_v_5 rl_1 (by decide +kernel) e_v_11
  have t_v_11 : v_11.toInt = v_5.toInt + 1 := t_v_11
  have q_v_11 : v_5 + (1 : Int32) = v_11 := e_v_11.symm
  refine tg_put (ci := 10) (ts := ty_MODEL) (v := .int v_11) (ty := .int) (C := RX10) (T := TX10) (N := 49) hx hb hts inX10 tyX10 tyX10_ok nmX10 hown hK hw h_p0 rfl rfl 2 (by decide) (hts _ tw_1139) (fun _ h9 => h9) rfl (by decide +kernel) rfl rfl (ft := vI 0 940) rfl ⟨_, rfl, (r_v_11.to (by decide))⟩ (by decide) dX10_come_30 (fun ws H locs hw n_k_12 hF9 => ?_)
  have m_u_1 := FLD.over hF9 m_u_1 (by decide)
  obtain ⟨sg_13, q_sg_13⟩ : ∃ q9 : OS, sI sg_10 2 v_11 = q9 := ⟨_, rfl⟩
  have o_p0 : OV vw_MT Ps ws p0 sg_13 := by rw [← q_sg_13]; exact OV.putI (V := vw_MT) hF9 n_k_12 o_p0 (by decide)
  refine lv_iinc (v := 8) (lv' := [(2, .int 8), (0, .ref p0), (1, .int p1)]) hx hb dX10_come_33 hl (k := 0) rfl (by decide) (by decide) rfl (fun ls hl => ?_)
  refine lv_goto (tgt := 3) hx hb dX10_come_36 (by decide) ?_
  refine lv_iload_n hx hb dX10_come_3 rfl (lv_at hl 0 rfl) ?_
  refine lv_if_lt (tgt := 39) hx hb dX10_come_4 (by decide) (fun c9 => absurd c9 (by decide)) (fun _ => ?_)
  refine lv_aload_n hx hb dX10_come_7 rfl (lv_at hl 1 rfl) ?_
  refine tg_mem (ci := 10) (C := RX10) (T := TX10) (N := 49) hx hb hts inX10 hown hK hw 1 m_u_1 rfl (by decide) (hts _ tw_1138) (fun _ h9 => h9) dX10_come_8 ?_
  refine lv_aload_n hx hb dX10_come_11 rfl (lv_at hl 1 rfl) ?_
  refine tg_mem (ci := 10) (C := RX10) (T := TX10) (N := 49) hx hb hts inX10 hown hK hw 2 n_k_12 rfl (by decide) (hts _ tw_1139) (fun _ h9 => h9) dX10_come_12 ?_
  refine lv_iload_n hx hb dX10_come_15 rfl (lv_at hl 2 rfl) ?_
  refine lv_iload_n hx hb dX10_come_16 rfl (lv_at hl 0 rfl) ?_
  obtain ⟨v_14, e_v_14⟩ : ∃ q9 : Int32, (Int32.toUInt32 p1 >>> (Int32.toUInt32 8 &&& Int32.toUInt32 31)).toInt32 = q9 := ⟨_, rfl⟩
  refine lv_iushr (v := v_14) hx hb dX10_come_17 e_v_14 ?_
  have r_v_14 : RI v_14 0 16777215 := by rw [← e_v_14]; exact ri_ushr8 _
  have q_v_14 : (Int32.toUInt32 p1 >>> (Int32.toUInt32 (8 : Int32) &&& Int32.toUInt32 31)).toInt32 = v_14 := e_v_14
  refine lv_sipush (v := 255) hx hb dX10_come_18 (by decide) ?_
  refine lv_iand hx hb dX10_come_21 (lv_topi (fun v_15 e_v_15 => ?_))
  have r_v_15 : RI v_15 0 255 := by rw [e_v_15]; exact ri_and (d := 255) (rl_255.to (by decide)) (by decide)
  have q_v_15 : v_14 &&& (255 : Int32) = v_15 := e_v_15.symm
  have mo9 := m_u_1
  refine tg_iast hx hb hK hw h_vu_1 rfl 18 938 r_v_11 (by decide) r_v_15 (by exact fun _ _ _ => by decide) (fun _ _ _ _ _ => trivial) (by decide) dX10_come_22 (fun ws H locs hw hF9 hU9 => ?_)
  have m_u_1 := FLD.over hF9 m_u_1 (by decide)
  have n_k_12 := FLD.over hF9 n_k_12 (by decide)
  obtain ⟨sg_16, q_sg_16⟩ : ∃ q9 : OS, sA sg_13 1 (Int32.toNatClampNeg v_11) v_15 = q9 := ⟨_, rfl⟩
  have o_p0 : OV vw_MT Ps ws p0 sg_16 := by rw [← q_sg_16]; exact OV.putA (V := vw_MT) (t := 40) hF9 hU9 o_p0 mo9 (by decide) (by decide)
  refine lv_aload_n hx hb dX10_come_23 rfl (lv_at hl 1 rfl) ?_
  refine lv_dup hx hb dX10_come_24 rfl ?_
  refine tg_mem (ci := 10) (C := RX10) (T := TX10) (N := 49) hx hb hts inX10 hown hK hw 2 n_k_12 rfl (by decide) (hts _ tw_1139) (fun _ h9 => h9) dX10_come_25 ?_
  refine lv_iconst (v := 1) hx hb dX10_come_28 (by decide) ?_
  refine lv_iadd hx hb dX10_come_29 (lv_topi (fun v_17 e_v_17 => ?_))
  obtain ⟨t_v_17, r_v_17⟩ := tq_add (lo := 19) (hi := 939) r_v_11 rl_1 (by decide +kernel) e_v_17
  have t_v_17 : v_17.toInt = v_11.toInt + 1 := t_v_17
  have q_v_17 : v_11 + (1 : Int32) = v_17 := e_v_17.symm
  refine tg_put (ci := 10) (ts := ty_MODEL) (v := .int v_17) (ty := .int) (C := RX10) (T := TX10) (N := 49) hx hb hts inX10 tyX10 tyX10_ok nmX10 hown hK hw h_p0 rfl rfl 2 (by decide) (hts _ tw_1139) (fun _ h9 => h9) rfl (by decide +kernel) rfl rfl (ft := vI 0 940) rfl ⟨_, rfl, (r_v_17.to (by decide))⟩ (by decide) dX10_come_30 (fun ws H locs hw n_k_18 hF9 => ?_)
  have m_u_1 := FLD.over hF9 m_u_1 (by decide)
  obtain ⟨sg_19, q_sg_19⟩ : ∃ q9 : OS, sI sg_16 2 v_17 = q9 := ⟨_, rfl⟩
  have o_p0 : OV vw_MT Ps ws p0 sg_19 := by rw [← q_sg_19]; exact OV.putI (V := vw_MT) hF9 n_k_18 o_p0 (by decide)
  refine lv_iinc (v := 0) (lv' := [(2, .int 0), (0, .ref p0), (1, .int p1)]) hx hb dX10_come_33 hl (k := 0) rfl (by decide) (by decide) rfl (fun ls hl => ?_)
  refine lv_goto (tgt := 3) hx hb dX10_come_36 (by decide) ?_
  refine lv_iload_n hx hb dX10_come_3 rfl (lv_at hl 0 rfl) ?_
  refine lv_if_lt (tgt := 39) hx hb dX10_come_4 (by decide) (fun c9 => absurd c9 (by decide)) (fun _ => ?_)
  refine lv_aload_n hx hb dX10_come_7 rfl (lv_at hl 1 rfl) ?_
  refine tg_mem (ci := 10) (C := RX10) (T := TX10) (N := 49) hx hb hts inX10 hown hK hw 1 m_u_1 rfl (by decide) (hts _ tw_1138) (fun _ h9 => h9) dX10_come_8 ?_
  refine lv_aload_n hx hb dX10_come_11 rfl (lv_at hl 1 rfl) ?_
  refine tg_mem (ci := 10) (C := RX10) (T := TX10) (N := 49) hx hb hts inX10 hown hK hw 2 n_k_18 rfl (by decide) (hts _ tw_1139) (fun _ h9 => h9) dX10_come_12 ?_
  refine lv_iload_n hx hb dX10_come_15 rfl (lv_at hl 2 rfl) ?_
  refine lv_iload_n hx hb dX10_come_16 rfl (lv_at hl 0 rfl) ?_
  obtain ⟨v_20, e_v_20⟩ : ∃ q9 : Int32, (Int32.toUInt32 p1 >>> (Int32.toUInt32 0 &&& Int32.toUInt32 31)).toInt32 = q9 := ⟨_, rfl⟩
  refine lv_iushr (v := v_20) hx hb dX10_come_17 e_v_20 ?_
  have r_v_20 := ri_any v_20
  have q_v_20 : (Int32.toUInt32 p1 >>> (Int32.toUInt32 (0 : Int32) &&& Int32.toUInt32 31)).toInt32 = v_20 := e_v_20
  refine lv_sipush (v := 255) hx hb dX10_come_18 (by decide) ?_
  refine lv_iand hx hb dX10_come_21 (lv_topi (fun v_21 e_v_21 => ?_))
  have r_v_21 : RI v_21 0 255 := by rw [e_v_21]; exact ri_and (d := 255) (rl_255.to (by decide)) (by decide)
  have q_v_21 : v_20 &&& (255 : Int32) = v_21 := e_v_21.symm
  have mo9 := m_u_1
  refine tg_iast hx hb hK hw h_vu_1 rfl 19 939 r_v_17 (by decide) r_v_21 (by exact fun _ _ _ => by decide) (fun _ _ _ _ _ => trivial) (by decide) dX10_come_22 (fun ws H locs hw hF9 hU9 => ?_)
  have m_u_1 := FLD.over hF9 m_u_1 (by decide)
  have n_k_18 := FLD.over hF9 n_k_18 (by decide)
  obtain ⟨sg_22, q_sg_22⟩ : ∃ q9 : OS, sA sg_19 1 (Int32.toNatClampNeg v_17) v_21 = q9 := ⟨_, rfl⟩
  have o_p0 : OV vw_MT Ps ws p0 sg_22 := by rw [← q_sg_22]; exact OV.putA (V := vw_MT) (t := 40) hF9 hU9 o_p0 mo9 (by decide) (by decide)
  refine lv_aload_n hx hb dX10_come_23 rfl (lv_at hl 1 rfl) ?_
  refine lv_dup hx hb dX10_come_24 rfl ?_
  refine tg_mem (ci := 10) (C := RX10) (T := TX10) (N := 49) hx hb hts inX10 hown hK hw 2 n_k_18 rfl (by decide) (hts _ tw_1139) (fun _ h9 => h9) dX10_come_25 ?_
  refine lv_iconst (v := 1) hx hb dX10_come_28 (by decide) ?_
  refine lv_iadd hx hb dX10_come_29 (lv_topi (fun v_23 e_v_23 => ?_))
  obtain ⟨t_v_23, r_v_23⟩ := tq_add (lo := 20) (hi := 940) r_v_17 rl_1 (by decide +kernel) e_v_23
  have t_v_23 : v_23.toInt = v_17.toInt + 1 := t_v_23
  have q_v_23 : v_17 + (1 : Int32) = v_23 := e_v_23.symm
  refine tg_put (ci := 10) (ts := ty_MODEL) (v := .int v_23) (ty := .int) (C := RX10) (T := TX10) (N := 49) hx hb hts inX10 tyX10 tyX10_ok nmX10 hown hK hw h_p0 rfl rfl 2 (by decide) (hts _ tw_1139) (fun _ h9 => h9) rfl (by decide +kernel) rfl rfl (ft := vI 0 940) rfl ⟨_, rfl, (r_v_23.to (by decide))⟩ (by decide) dX10_come_30 (fun ws H locs hw n_k_24 hF9 => ?_)
  have m_u_1 := FLD.over hF9 m_u_1 (by decide)
  obtain ⟨sg_25, q_sg_25⟩ : ∃ q9 : OS, sI sg_22 2 v_23 = q9 := ⟨_, rfl⟩
  have o_p0 : OV vw_MT Ps ws p0 sg_25 := by rw [← q_sg_25]; exact OV.putI (V := vw_MT) hF9 n_k_24 o_p0 (by decide)
  refine lv_iinc (v := (-8)) (lv' := [(2, .int (-8)), (0, .ref p0), (1, .int p1)]) hx hb dX10_come_33 hl (k := 0) rfl (by decide) (by decide) rfl (fun ls hl => ?_)
  refine lv_goto (tgt := 3) hx hb dX10_come_36 (by decide) ?_
  refine lv_iload_n hx hb dX10_come_3 rfl (lv_at hl 0 rfl) ?_
  refine lv_if_lt (tgt := 39) hx hb dX10_come_4 (by decide) (fun _ => ?_) (fun c9 => absurd (by decide) c9)
  simp only [f_X10_come__5, ↓reduceIte, q_f0_2, q_v_2, q_v_3, q_sg_4, q_v_5, q_sg_7, q_v_8, q_v_9, q_sg_10, q_v_11, q_sg_13, q_v_14, q_v_15, q_sg_16, q_v_17, q_sg_19, q_v_20, q_v_21, q_sg_22, q_v_23, q_sg_25] at hE
  subst hQ
  exact W.vret hx hb hr (fun t ht hW => ⟨⟨ws, rfl, ⟨⟨⟨(by rw [hR, ← hE]; exact o_p0), trivial⟩, ⟨⟨_, n_k_24, r_v_23⟩, trivial⟩⟩, hw.1, hw.2.2.2.2.1⟩, by rw [ht]; exact hw.2.1, va_K.moved hW.alike hK, hw.2.2.1⟩, hw.2.2.2.1.F ht⟩) hw.2.2.2.1.2.2 dX10_come_39
def f_X10_feed__1 (p1 : Int32) (p2 : Int32) (p3 : Int32) (p4 : Int32) (p5 : Int32) (s0 : OS) : OS × Int32 := (if ((s0.1 2) + (20 : Int32)) ≤ (940 : Int32) then ((f_X10_come__5 p5 (f_X10_come__5 p4 (f_X10_come__5 p3 (f_X10_come__5 p2 (f_X10_come__5 p1 s0))))), ((f_X10_come__5 p5 (f_X10_come__5 p4 (f_X10_come__5 p3 (f_X10_come__5 p2 (f_X10_come__5 p1 s0))))).1 2)) else (s0, ((-1) : Int32)))
abbrev wr_X10_feed__1 : List (Nat × Nat) := [(10, 0), (10, 2)]
abbrev wa_X10_feed__1 : List Nat := [40]
set_option maxHeartbeats 4000000 in
set_option maxRecDepth 100000 in
theorem c_X10_feed__1 (l : Launch) (D : va_G) (cy : Nat → ClassId) (z : Nat → Nat) (sz : Nat) (Ps : PSI) (w0 : va_W) (hT : HT cy GG Ps w0) (p0 : Nat) (p1 : Int32) (p2 : Int32) (p3 : Int32) (p4 : Int32) (p5 : Int32) (s0 : OS) (h_p0 : (p0, 55) ∈ Ps) (r_p1 : RI p1 (-2147483648) 2147483647) (r_p2 : RI p2 (-2147483648) 2147483647) (r_p3 : RI p3 (-2147483648) 2147483647) (r_p4 : RI p4 (-2147483648) 2147483647) (r_p5 : RI p5 (-2147483648) 2147483647) (o_p0 : OV vw_MT Ps w0 p0 s0) : Met l yX10_feed (Cond.code yX10_feed cX10_feed 6 (some .int) :: gT) ({ frames := 2, cells := 0, slots := 0, locals := 400 } : Room) (va_Pc [.ref p0, .int p1, .int p2, .int p3, .int p4, .int p5] (PRE D cy z w0 sz)) (va_Qi (fun (r : Int32) (u : va_W) => ((OV vw_MT Ps u p0 ((f_X10_feed__1 p1 p2 p3 p4 p5 s0).1) ∧ (f_X10_feed__1 p1 p2 p3 p4 p5 s0).2 = r ∧ True) ∧ (RI r (-1) 940 ∧ (r = 0 → True) ∧ (¬ r = 0 → True))) ∧ HT cy GG Ps u ∧ FR wr_X10_feed__1 wa_X10_feed__1 Ps w0 u) (BB D cy (va_A w0 sz) (fun (u : va_W) => u)) (va_A w0 sz)) 0 0 (va_A w0 sz) := by
  refine Met.ofW (cc := cX10_feed) (maxL := 6) (ret := (some .int)) (by decide) rfl ?_
  intro p e s m args below meth c s₁ B hml hv
  obtain ⟨rfl, hsz, hP, hK, hD0, hSD⟩ := hv
  have hx := B.exec
  have hb := B.bytes
  have hr := B.returns
  have hlocks := B.notSynchronized
  have hts : ∀ w ∈ gT, w.before _ s = true := fun w h => atoms_spec (ws := Cond.code yX10_feed cX10_feed 6 (some .int) :: gT) B.pre w (List.mem_cons_of_mem _ h)
  have hown : s.vm.findClass RX10 = some m.cls := findClass_of_methodNamed B.named
  subst hsz
  have hD := hD0.self (sz := s.heap.size)
  generalize hAe : va_A w0 s.heap.size = A at hD hSD ⊢
  have hA : ∀ q : Nat, s.heap.size ≤ q → A q := fun q h => by rw [← hAe]; exact Or.inr h
  have hl := lv_entry ([.ref p0, .int p1, .int p2, .int p3, .int p4, .int p5]) (n := 6) (Nat.le_of_ble_eq_true rfl)
  rw [lg_entry_eq]
  generalize (lg_sl ([.ref p0, .int p1, .int p2, .int p3, .int p4, .int p5]) ++ List.replicate (6 - (lg_sl ([.ref p0, .int p1, .int p2, .int p3, .int p4, .int p5])).length) Slot.unset).toArray = ls at hl ⊢
  have hl : lv_has ls 6 [(0, .ref p0), (1, .int p1), (2, .int p2), (3, .int p3), (4, .int p4), (5, .int p5)] := hl
  refine nameQ (fun Q hQ => ?_)
  have hw : WD D cy GG A s wr_X10_feed__1 wa_X10_feed__1 Ps w0 Ps w0 s.heap [] := ⟨hT, hP, hD, va_S.rf, FR.rf, hT.1, [], (List.append_nil _).symm⟩
  obtain ⟨R9, hR⟩ : ∃ q9 : OS × Int32, f_X10_feed__1 p1 p2 p3 p4 p5 s0 = q9 := ⟨_, rfl⟩
  have hE := hR
  refine lv_aload_n hx hb dX10_feed_0 rfl (lv_at hl 0 rfl) ?_
  refine lv_iconst (v := 0) hx hb dX10_feed_1 (by decide) ?_
  refine tg_put (ci := 10) (ts := ty_MODEL) (v := .int 0) (ty := .int) (C := RX10) (T := TX10) (N := 49) hx hb hts inX10 tyX10 tyX10_ok nmX10 hown hK hw h_p0 rfl rfl 0 (by decide) (hts _ tw_1137) (fun _ h9 => h9) rfl (by decide +kernel) rfl rfl (ft := vI (-2147483648) 2147483647) rfl ⟨_, rfl, (rl_0.to (by decide))⟩ (by decide) dX10_feed_2 (fun ws H locs hw n_k_1 hF9 => ?_)
  have o_p0 := OV.over (V := vw_MT) hF9 o_p0 (by decide)
  refine lv_aload_n hx hb dX10_feed_5 rfl (lv_at hl 0 rfl) ?_
  refine tg_get (ci := 10) (ts := ty_MODEL) (C := RX10) (T := TX10) (N := 49) hx hb hts inX10 hown hK hw h_p0 rfl rfl 2 (by decide) (hts _ tw_1139) (fun _ h9 => h9) (ft := vI 0 940) rfl dX10_feed_6 (fun u_2 hv_u_2 m_u_2 => ?_)
  obtain ⟨vu_2, rfl, r_vu_2⟩ := hv_u_2
  have q_vu_2 : s0.1 2 = vu_2 := OV.eqI (V := vw_MT) hw.2.2.1 o_p0 m_u_2 (by decide)
  refine lv_bipush (v := 20) hx hb dX10_feed_9 (by decide) ?_
  refine lv_iadd hx hb dX10_feed_11 (lv_topi (fun v_3 e_v_3 => ?_))
  obtain ⟨t_v_3, r_v_3⟩ := tq_add (lo := 20) (hi := 960) r_vu_2 rl_20 (by decide +kernel) e_v_3
  have t_v_3 : v_3.toInt = vu_2.toInt + 20 := t_v_3
  have q_v_3 : vu_2 + (20 : Int32) = v_3 := e_v_3.symm
  refine lv_sipush (v := 940) hx hb dX10_feed_12 (by decide) ?_
  refine lv_icmp_le (tgt := 20) hx hb dX10_feed_15 (by decide) (fun c_15 => ?_) (fun c_15 => ?_)
  · have r_v_3 : RI v_3 20 940 := rc_le1 r_v_3 rl_940 (ti_le c_15) (by decide)
    have r_vu_2 : RI vu_2 0 920 := ⟨by have k1 := r_v_3.1; have k2 := r_vu_2.1; omega, by have k1 := r_v_3.2; have k2 := r_vu_2.2; omega⟩
    refine lv_aload_n hx hb dX10_feed_20 rfl (lv_at hl 0 rfl) ?_
    refine lv_iload_n hx hb dX10_feed_21 rfl (lv_at hl 1 rfl) ?_
    refine tk_v (va_runV (As := [.int p1]) (rest := []) ⟨hx, hb, hml, hown, hts⟩ (c_X10_come__5 l D cy z H.size Ps ws hw.1 p0 p1 vu_2 s0 h_p0 r_p1 r_vu_2 m_u_2 o_p0) (cwV 1 hts (gV tw_1123 tw_1125 ts_37 tw_15 tw_1127) rfl rfl rfl (by decide +kernel) ⟨Nat.le_of_ble_eq_true rfl, Nat.le_of_ble_eq_true rfl⟩) (tg_preV hw hK hSD hA (ci := 10) (q := (RX10, TX10, 49)) rfl h_p0 rfl) rfl rfl hl.1 rfl (lv_room (Nat.le_of_ble_eq_true rfl)) dX10_feed_22 ⟨Nat.le_of_ble_eq_true rfl, Nat.le_of_ble_eq_true rfl⟩) hw hA ⟨by decide, by decide⟩ (fun ws H locs hp_v_4 hw hF9 => ?_)
    have n_k_1 := FLD.over hF9 n_k_1 (by decide)
    obtain ⟨hfn, hp_v_4⟩ := hp_v_4
    obtain ⟨sg_5, q_sg_5⟩ : ∃ q9 : OS, (f_X10_come__5 p1 s0) = q9 := ⟨_, rfl⟩
    have o_p0 : OV vw_MT Ps ws p0 sg_5 := by rw [← q_sg_5]; exact hfn.1
    obtain ⟨v_6, m_v_6, r_v_6⟩ := (hp_v_4.1)
    refine lv_aload_n hx hb dX10_feed_25 rfl (lv_at hl 0 rfl) ?_
    refine lv_iload_n hx hb dX10_feed_26 rfl (lv_at hl 2 rfl) ?_
    refine tk_v (va_runV (As := [.int p2]) (rest := []) ⟨hx, hb, hml, hown, hts⟩ (c_X10_come__6 l D cy z H.size Ps ws hw.1 p0 p2 v_6 sg_5 h_p0 r_p2 r_v_6 m_v_6 o_p0) (cwV 1 hts (gV tw_1123 tw_1125 ts_37 tw_15 tw_1127) rfl rfl rfl (by decide +kernel) ⟨Nat.le_of_ble_eq_true rfl, Nat.le_of_ble_eq_true rfl⟩) (tg_preV hw hK hSD hA (ci := 10) (q := (RX10, TX10, 49)) rfl h_p0 rfl) rfl rfl hl.1 rfl (lv_room (Nat.le_of_ble_eq_true rfl)) dX10_feed_27 ⟨Nat.le_of_ble_eq_true rfl, Nat.le_of_ble_eq_true rfl⟩) hw hA ⟨by decide, by decide⟩ (fun ws H locs hp_v_7 hw hF9 => ?_)
    have n_k_1 := FLD.over hF9 n_k_1 (by decide)
    obtain ⟨hfn, hp_v_7⟩ := hp_v_7
    obtain ⟨sg_8, q_sg_8⟩ : ∃ q9 : OS, (f_X10_come__5 p2 sg_5) = q9 := ⟨_, rfl⟩
    have o_p0 : OV vw_MT Ps ws p0 sg_8 := by rw [← q_sg_8]; exact hfn.1
    obtain ⟨v_9, m_v_9, r_v_9⟩ := (hp_v_7.1)
    refine lv_aload_n hx hb dX10_feed_30 rfl (lv_at hl 0 rfl) ?_
    refine lv_iload_n hx hb dX10_feed_31 rfl (lv_at hl 3 rfl) ?_
    refine tk_v (va_runV (As := [.int p3]) (rest := []) ⟨hx, hb, hml, hown, hts⟩ (c_X10_come__7 l D cy z H.size Ps ws hw.1 p0 p3 v_9 sg_8 h_p0 r_p3 r_v_9 m_v_9 o_p0) (cwV 1 hts (gV tw_1123 tw_1125 ts_37 tw_15 tw_1127) rfl rfl rfl (by decide +kernel) ⟨Nat.le_of_ble_eq_true rfl, Nat.le_of_ble_eq_true rfl⟩) (tg_preV hw hK hSD hA (ci := 10) (q := (RX10, TX10, 49)) rfl h_p0 rfl) rfl rfl hl.1 rfl (lv_room (Nat.le_of_ble_eq_true rfl)) dX10_feed_32 ⟨Nat.le_of_ble_eq_true rfl, Nat.le_of_ble_eq_true rfl⟩) hw hA ⟨by decide, by decide⟩ (fun ws H locs hp_v_10 hw hF9 => ?_)
    have n_k_1 := FLD.over hF9 n_k_1 (by decide)
    obtain ⟨hfn, hp_v_10⟩ := hp_v_10
    obtain ⟨sg_11, q_sg_11⟩ : ∃ q9 : OS, (f_X10_come__5 p3 sg_8) = q9 := ⟨_, rfl⟩
    have o_p0 : OV vw_MT Ps ws p0 sg_11 := by rw [← q_sg_11]; exact hfn.1
    obtain ⟨v_12, m_v_12, r_v_12⟩ := (hp_v_10.1)
    refine lv_aload_n hx hb dX10_feed_35 rfl (lv_at hl 0 rfl) ?_
    refine lv_iload hx hb dX10_feed_36 (lv_at hl 4 rfl) ?_
    refine tk_v (va_runV (As := [.int p4]) (rest := []) ⟨hx, hb, hml, hown, hts⟩ (c_X10_come__8 l D cy z H.size Ps ws hw.1 p0 p4 v_12 sg_11 h_p0 r_p4 r_v_12 m_v_12 o_p0) (cwV 1 hts (gV tw_1123 tw_1125 ts_37 tw_15 tw_1127) rfl rfl rfl (by decide +kernel) ⟨Nat.le_of_ble_eq_true rfl, Nat.le_of_ble_eq_true rfl⟩) (tg_preV hw hK hSD hA (ci := 10) (q := (RX10, TX10, 49)) rfl h_p0 rfl) rfl rfl hl.1 rfl (lv_room (Nat.le_of_ble_eq_true rfl)) dX10_feed_38 ⟨Nat.le_of_ble_eq_true rfl, Nat.le_of_ble_eq_true rfl⟩) hw hA ⟨by decide, by decide⟩ (fun ws H locs hp_v_13 hw hF9 => ?_)
    have n_k_1 := FLD.over hF9 n_k_1 (by decide)
    obtain ⟨hfn, hp_v_13⟩ := hp_v_13
    obtain ⟨sg_14, q_sg_14⟩ : ∃ q9 : OS, (f_X10_come__5 p4 sg_11) = q9 := ⟨_, rfl⟩
    have o_p0 : OV vw_MT Ps ws p0 sg_14 := by rw [← q_sg_14]; exact hfn.1
    obtain ⟨v_15, m_v_15, r_v_15⟩ := (hp_v_13.1)
    refine lv_aload_n hx hb dX10_feed_41 rfl (lv_at hl 0 rfl) ?_
    refine lv_iload hx hb dX10_feed_42 (lv_at hl 5 rfl) ?_
    refine tk_v (va_runV (As := [.int p5]) (rest := []) ⟨hx, hb, hml, hown, hts⟩ (c_X10_come__9 l D cy z H.size Ps ws hw.1 p0 p5 v_15 sg_14 h_p0 r_p5 r_v_15 m_v_15 o_p0) (cwV 1 hts (gV tw_1123 tw_1125 ts_37 tw_15 tw_1127) rfl rfl rfl (by decide +kernel) ⟨Nat.le_of_ble_eq_true rfl, Nat.le_of_ble_eq_true rfl⟩) (tg_preV hw hK hSD hA (ci := 10) (q := (RX10, TX10, 49)) rfl h_p0 rfl) rfl rfl hl.1 rfl (lv_room (Nat.le_of_ble_eq_true rfl)) dX10_feed_44 ⟨Nat.le_of_ble_eq_true rfl, Nat.le_of_ble_eq_true rfl⟩) hw hA ⟨by decide, by decide⟩ (fun ws H locs hp_v_16 hw hF9 => ?_)
    have n_k_1 := FLD.over hF9 n_k_1 (by decide)
    obtain ⟨hfn, hp_v_16⟩ := hp_v_16
    obtain ⟨sg_17, q_sg_17⟩ : ∃ q9 : OS, (f_X10_come__5 p5 sg_14) = q9 := ⟨_, rfl⟩
    have o_p0 : OV vw_MT Ps ws p0 sg_17 := by rw [← q_sg_17]; exact hfn.1
    obtain ⟨v_18, m_v_18, r_v_18⟩ := (hp_v_16.1)
    refine lv_aload_n hx hb dX10_feed_47 rfl (lv_at hl 0 rfl) ?_
    refine tg_mem (ci := 10) (C := RX10) (T := TX10) (N := 49) hx hb hts inX10 hown hK hw 2 m_v_18 rfl (by decide) (hts _ tw_1139) (fun _ h9 => h9) dX10_feed_48 ?_
    have q_v_18 : sg_17.1 2 = v_18 := OV.eqI (V := vw_MT) hw.2.2.1 o_p0 m_v_18 (by decide)
    simp only [f_X10_feed__1, ↓reduceIte, q_vu_2, q_v_3, eq_true c_15, q_sg_5, q_sg_8, q_sg_11, q_sg_14, q_sg_17, q_v_18] at hE
    subst hQ
    exact W.iret (v := v_18) hx hb hr (fun t ht hW => ⟨⟨v_18, ws, rfl, ⟨⟨⟨(by rw [hR, ← hE]; exact o_p0), (by rw [hR, ← hE]), trivial⟩, r_v_18.to (by decide), (fun _ => trivial), (fun h0 => trivial)⟩, hw.1, hw.2.2.2.2.1⟩, by rw [ht]; exact hw.2.1, va_K.moved hW.alike hK, hw.2.2.1⟩, hw.2.2.2.1.F ht⟩) hw.2.2.2.1.2.2 dX10_feed_51
  · have r_v_3 : RI v_3 941 960 := rc_lt2 rl_940 r_v_3 (ti_nle c_15) (by decide)
    have r_vu_2 : RI vu_2 921 940 := ⟨by have k1 := r_v_3.1; have k2 := r_vu_2.1; omega, by have k1 := r_v_3.2; have k2 := r_vu_2.2; omega⟩
    refine lv_iconst (v := (-1)) hx hb dX10_feed_18 (by decide) ?_
    simp only [f_X10_feed__1, ↓reduceIte, q_vu_2, q_v_3, eq_false c_15] at hE
    subst hQ
    exact W.iret (v := (-1)) hx hb hr (fun t ht hW => ⟨⟨(-1), ws, rfl, ⟨⟨⟨(by rw [hR, ← hE]; exact o_p0), (by rw [hR, ← hE]), trivial⟩, rl_m1.to (by decide), (fun _ => trivial), (fun h0 => trivial)⟩, hw.1, hw.2.2.2.2.1⟩, by rw [ht]; exact hw.2.1, va_K.moved hW.alike hK, hw.2.2.1⟩, hw.2.2.2.1.F ht⟩) hw.2.2.2.1.2.2 dX10_feed_19
