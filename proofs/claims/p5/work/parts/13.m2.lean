abbrev wr_X7_isSign : List (Nat × Nat) := []
abbrev wa_X7_isSign : List Nat := []
set_option maxHeartbeats 4000000 in
set_option maxRecDepth 100000 in
theorem c_X7_isSign (l : Launch) (D : va_G) (cy : Nat → ClassId) (z : Nat → Nat) (sz : Nat) (Ps : PSI) (w0 : va_W) (hT : HT cy GG Ps w0) (p0 : Int32) (r_p0 : RI p0 (-2147483648) 2147483647) : Met l yX7_isSign (Cond.code yX7_isSign cX7_isSign 1 (some .boolean) :: gT) ({ frames := 0, cells := 0, slots := 0, locals := 200 } : Room) (va_Pc [.int p0] (PRE D cy z w0 sz)) (va_Qi (fun (r : Int32) (u : Unit) => RI r 0 1 ∧ (r = 0 → True) ∧ (¬ r = 0 → RI p0 40 62 ∧ True)) (BB D cy (va_A w0 sz) (fun (u : Unit) => w0)) (va_A w0 sz)) 0 0 (va_A w0 sz) := by
  refine Met.ofW (cc := cX7_isSign) (maxL := 1) (ret := (some .boolean)) (by decide) rfl ?_
  intro p e s m args below meth c s₁ B hml hv
  obtain ⟨rfl, hsz, hP, hK, hD0, hSD⟩ := hv
  have hx := B.exec
  have hb := B.bytes
  have hr := B.returns
  have hlocks := B.notSynchronized
  have hts : ∀ w ∈ gT, w.before _ s = true := fun w h => atoms_spec (ws := Cond.code yX7_isSign cX7_isSign 1 (some .boolean) :: gT) B.pre w (List.mem_cons_of_mem _ h)
  have hown : s.vm.findClass RX7 = some m.cls := findClass_of_methodNamed B.named
  subst hsz
  have hD := hD0.self (sz := s.heap.size)
  generalize hAe : va_A w0 s.heap.size = A at hD hSD ⊢
  have hA : ∀ q : Nat, s.heap.size ≤ q → A q := fun q h => by rw [← hAe]; exact Or.inr h
  have hl := lv_entry ([.int p0]) (n := 1) (Nat.le_of_ble_eq_true rfl)
  rw [lg_entry_eq]
  generalize (lg_sl ([.int p0]) ++ List.replicate (1 - (lg_sl ([.int p0])).length) Slot.unset).toArray = ls at hl ⊢
  have hl : lv_has ls 1 [(0, .int p0)] := hl
  refine nameQ (fun Q hQ => ?_)
  have hw : WD D cy GG A s wr_X7_isSign wa_X7_isSign Ps w0 Ps w0 s.heap [] := ⟨hT, hP, hD, va_S.rf, FR.rf, hT.1, [], (List.append_nil _).symm⟩
  refine lv_iload_n hx hb dX7_isSign_0 rfl (lv_at hl 0 rfl) ?_
  refine lv_bipush (v := 59) hx hb dX7_isSign_1 (by decide) ?_
  refine lv_icmp_eq (tgt := 36) hx hb dX7_isSign_3 (by decide) (fun c_3 => ?_) (fun c_3 => ?_)
  · have r_p0 : RI p0 59 59 := rc_eq1 r_p0 rl_59 (ti_eq c_3) (by decide)
    refine lv_iconst (v := 1) hx hb dX7_isSign_36 (by decide) ?_
    refine lv_goto (tgt := 41) hx hb dX7_isSign_37 (by decide) ?_
    subst hQ
    exact W.zret (v := 1) hx hb hr (rfl) (fun t ht hW => ⟨⟨1, (), rfl, ⟨rl_1.to (by decide), (fun _ => trivial), (fun h0 => ⟨(r_p0.to (by decide)), trivial⟩)⟩, by rw [ht]; exact hw.2.1, va_K.moved hW.alike hK, hw.2.2.1⟩, hw.2.2.2.1.F ht⟩) hw.2.2.2.1.2.2 dX7_isSign_41
  · refine lv_iload_n hx hb dX7_isSign_6 rfl (lv_at hl 0 rfl) ?_
    refine lv_bipush (v := 60) hx hb dX7_isSign_7 (by decide) ?_
    refine lv_icmp_eq (tgt := 36) hx hb dX7_isSign_9 (by decide) (fun c_9 => ?_) (fun c_9 => ?_)
    · have r_p0 : RI p0 60 60 := rc_eq1 r_p0 rl_60 (ti_eq c_9) (by decide)
      refine lv_iconst (v := 1) hx hb dX7_isSign_36 (by decide) ?_
      refine lv_goto (tgt := 41) hx hb dX7_isSign_37 (by decide) ?_
      subst hQ
      exact W.zret (v := 1) hx hb hr (rfl) (fun t ht hW => ⟨⟨1, (), rfl, ⟨rl_1.to (by decide), (fun _ => trivial), (fun h0 => ⟨(r_p0.to (by decide)), trivial⟩)⟩, by rw [ht]; exact hw.2.1, va_K.moved hW.alike hK, hw.2.2.1⟩, hw.2.2.2.1.F ht⟩) hw.2.2.2.1.2.2 dX7_isSign_41
    · refine lv_iload_n hx hb dX7_isSign_12 rfl (lv_at hl 0 rfl) ?_
      refine lv_bipush (v := 61) hx hb dX7_isSign_13 (by decide) ?_
      refine lv_icmp_eq (tgt := 36) hx hb dX7_isSign_15 (by decide) (fun c_15 => ?_) (fun c_15 => ?_)
      · have r_p0 : RI p0 61 61 := rc_eq1 r_p0 rl_61 (ti_eq c_15) (by decide)
        refine lv_iconst (v := 1) hx hb dX7_isSign_36 (by decide) ?_
        refine lv_goto (tgt := 41) hx hb dX7_isSign_37 (by decide) ?_
        subst hQ
        exact W.zret (v := 1) hx hb hr (rfl) (fun t ht hW => ⟨⟨1, (), rfl, ⟨rl_1.to (by decide), (fun _ => trivial), (fun h0 => ⟨(r_p0.to (by decide)), trivial⟩)⟩, by rw [ht]; exact hw.2.1, va_K.moved hW.alike hK, hw.2.2.1⟩, hw.2.2.2.1.F ht⟩) hw.2.2.2.1.2.2 dX7_isSign_41
      · refine lv_iload_n hx hb dX7_isSign_18 rfl (lv_at hl 0 rfl) ?_
        refine lv_bipush (v := 62) hx hb dX7_isSign_19 (by decide) ?_
        refine lv_icmp_eq (tgt := 36) hx hb dX7_isSign_21 (by decide) (fun c_21 => ?_) (fun c_21 => ?_)
        · have r_p0 : RI p0 62 62 := rc_eq1 r_p0 rl_62 (ti_eq c_21) (by decide)
          refine lv_iconst (v := 1) hx hb dX7_isSign_36 (by decide) ?_
          refine lv_goto (tgt := 41) hx hb dX7_isSign_37 (by decide) ?_
          subst hQ
          exact W.zret (v := 1) hx hb hr (rfl) (fun t ht hW => ⟨⟨1, (), rfl, ⟨rl_1.to (by decide), (fun _ => trivial), (fun h0 => ⟨(r_p0.to (by decide)), trivial⟩)⟩, by rw [ht]; exact hw.2.1, va_K.moved hW.alike hK, hw.2.2.1⟩, hw.2.2.2.1.F ht⟩) hw.2.2.2.1.2.2 dX7_isSign_41
        · refine lv_iload_n hx hb dX7_isSign_24 rfl (lv_at hl 0 rfl) ?_
          refine lv_bipush (v := 40) hx hb dX7_isSign_25 (by decide) ?_
          refine lv_icmp_eq (tgt := 36) hx hb dX7_isSign_27 (by decide) (fun c_27 => ?_) (fun c_27 => ?_)
          · have r_p0 : RI p0 40 40 := rc_eq1 r_p0 rl_40 (ti_eq c_27) (by decide)
            refine lv_iconst (v := 1) hx hb dX7_isSign_36 (by decide) ?_
            refine lv_goto (tgt := 41) hx hb dX7_isSign_37 (by decide) ?_
            subst hQ
            exact W.zret (v := 1) hx hb hr (rfl) (fun t ht hW => ⟨⟨1, (), rfl, ⟨rl_1.to (by decide), (fun _ => trivial), (fun h0 => ⟨(r_p0.to (by decide)), trivial⟩)⟩, by rw [ht]; exact hw.2.1, va_K.moved hW.alike hK, hw.2.2.1⟩, hw.2.2.2.1.F ht⟩) hw.2.2.2.1.2.2 dX7_isSign_41
          · refine lv_iload_n hx hb dX7_isSign_30 rfl (lv_at hl 0 rfl) ?_
            refine lv_bipush (v := 41) hx hb dX7_isSign_31 (by decide) ?_
            refine lv_icmp_ne (tgt := 40) hx hb dX7_isSign_33 (by decide) (fun c_33 => ?_) (fun c_33 => ?_)
            · refine lv_iconst (v := 0) hx hb dX7_isSign_40 (by decide) ?_
              subst hQ
              exact W.zret (v := 0) hx hb hr (rfl) (fun t ht hW => ⟨⟨0, (), rfl, ⟨rl_0.to (by decide), (fun h0 => trivial), (fun h0 => absurd rfl h0)⟩, by rw [ht]; exact hw.2.1, va_K.moved hW.alike hK, hw.2.2.1⟩, hw.2.2.2.1.F ht⟩) hw.2.2.2.1.2.2 dX7_isSign_41
            · have r_p0 : RI p0 41 41 := rc_eq1 r_p0 rl_41 (ti_eq c_33) (by decide)
              refine lv_iconst (v := 1) hx hb dX7_isSign_36 (by decide) ?_
              refine lv_goto (tgt := 41) hx hb dX7_isSign_37 (by decide) ?_
              subst hQ
              exact W.zret (v := 1) hx hb hr (rfl) (fun t ht hW => ⟨⟨1, (), rfl, ⟨rl_1.to (by decide), (fun _ => trivial), (fun h0 => ⟨(r_p0.to (by decide)), trivial⟩)⟩, by rw [ht]; exact hw.2.1, va_K.moved hW.alike hK, hw.2.2.1⟩, hw.2.2.2.1.F ht⟩) hw.2.2.2.1.2.2 dX7_isSign_41
abbrev wr_X7_readRun : List (Nat × Nat) := [(7, 6), (7, 7), (7, 8), (7, 9)]
abbrev wa_X7_readRun : List Nat := []
set_option maxHeartbeats 4000000 in
set_option maxRecDepth 100000 in
theorem c_X7_readRun (l : Launch) (D : va_G) (cy : Nat → ClassId) (z : Nat → Nat) (sz : Nat) (Ps : PSI) (w0 : va_W) (hT : HT cy GG Ps w0) (p0 : Nat) (h_p0 : (p0, 26) ∈ Ps) : Met l yX7_readRun (Cond.code yX7_readRun cX7_readRun 8 none :: gT) ({ frames := 0, cells := 0, slots := 0, locals := 200 } : Room) (va_Pc [.ref p0] (PRE D cy z w0 sz)) (va_Qv (fun (u : va_W) => (True) ∧ HT cy GG Ps u ∧ FR wr_X7_readRun wa_X7_readRun Ps w0 u) (BB D cy (va_A w0 sz) (fun (u : va_W) => u)) (va_A w0 sz)) 0 0 (va_A w0 sz) := by
  refine Met.ofW (cc := cX7_readRun) (maxL := 8) (ret := none) (by decide) rfl ?_
  intro p e s m args below meth c s₁ B hml hv
  obtain ⟨rfl, hsz, hP, hK, hD0, hSD⟩ := hv
  have hx := B.exec
  have hb := B.bytes
  have hr := B.returns
  have hlocks := B.notSynchronized
  have hts : ∀ w ∈ gT, w.before _ s = true := fun w h => atoms_spec (ws := Cond.code yX7_readRun cX7_readRun 8 none :: gT) B.pre w (List.mem_cons_of_mem _ h)
  have hown : s.vm.findClass RX7 = some m.cls := findClass_of_methodNamed B.named
  subst hsz
  have hD := hD0.self (sz := s.heap.size)
  generalize hAe : va_A w0 s.heap.size = A at hD hSD ⊢
  have hA : ∀ q : Nat, s.heap.size ≤ q → A q := fun q h => by rw [← hAe]; exact Or.inr h
  have hl := lv_entry ([.ref p0]) (n := 8) (Nat.le_of_ble_eq_true rfl)
  rw [lg_entry_eq]
  generalize (lg_sl ([.ref p0]) ++ List.replicate (8 - (lg_sl ([.ref p0])).length) Slot.unset).toArray = ls at hl ⊢
  have hl : lv_has ls 8 [(0, .ref p0)] := hl
  refine nameQ (fun Q hQ => ?_)
  have hw : WD D cy GG A s wr_X7_readRun wa_X7_readRun Ps w0 Ps w0 s.heap [] := ⟨hT, hP, hD, va_S.rf, FR.rf, hT.1, [], (List.append_nil _).symm⟩
  have B178 : ∀ (nf : Nat) (x1 : Int32) (x2 : Int32) (x3 : Int64) (x5 : Int32) (x6 : Int32) (x7 : Int32) (z0_6 : Int32) (z0_7 : Int32) (ws : va_W) (H : Heap) (locs : List Loc) (ls : Array Slot), 28 - x7.toInt < (nf : Int) → RI x1 (-2147483648) 7 → RI x2 0 0 → RJ x3 (-9223372036854775808) 9223372036854775807 → RI x5 (-2147483648) 2147483647 → RI x6 0 1 → RI x7 0 28 → RI z0_6 0 940 → FLD ws p0 7 6 (.int z0_6) → RI z0_7 2 155 → FLD ws p0 7 7 (.int z0_7) → WD D cy GG A s wr_X7_readRun wa_X7_readRun Ps w0 Ps ws H locs → lv_has ls 8 [(0, .ref p0), (1, .int x1), (2, .int x2), (3, .long x3), (5, .int x5), (6, .int x6), (7, .int x7)] → W p l e (headSpec (Cond.code yX7_readRun cX7_readRun 8 none :: gT) ({ frames := 0, cells := 0, slots := 0, locals := 200 } : Room)).room s m ([.ref p0] : List Value).toArray below meth c H locs 0 0 Q (F0 m 178 ls []) := by
    intro nf178
    induction nf178 with
    | zero =>
      intro x1 x2 x3 x5 x6 x7 z0_6 z0_7 ws H locs ls hn178 r_x1 r_x2 r_x3 r_x5 r_x6 r_x7 r_z0_6 m_z0_6 r_z0_7 m_z0_7 hw hl
      exact absurd hn178 (by have q0 := r_x7.1; have u0 := r_x7.2; omega)
    | succ nf178 ih178 =>
      intro x1 x2 x3 x5 x6 x7 z0_6 z0_7 ws H locs ls hn178 r_x1 r_x2 r_x3 r_x5 r_x6 r_x7 r_z0_6 m_z0_6 r_z0_7 m_z0_7 hw hl
      refine lv_iload hx hb dX7_readRun_178 (lv_at hl 6 rfl) ?_
      refine lv_aload_n hx hb dX7_readRun_180 rfl (lv_at hl 0 rfl) ?_
      refine tg_get (ci := 7) (ts := ty_TAPE) (C := RX7) (T := TX7) (N := 12) hx hb hts inX7 hown hK hw h_p0 rfl rfl 1 (by decide) (hts _ tw_88) (fun _ h9 => h9) (ft := vR 0) rfl dX7_readRun_181 (fun u_1 hv_u_1 m_u_1 => ?_)
      obtain ⟨vu_1, rfl, h_vu_1⟩ := hv_u_1
      refine tg_alenL (v := 28) hx hb hK hw h_vu_1 rfl rfl dX7_readRun_184 ?_
      refine lv_icmp_ge (tgt := 216) hx hb dX7_readRun_185 (by decide) (fun c_185 => ?_) (fun c_185 => ?_)
      · have r_x7 : RI x7 28 28 := rc_le2 rl_28 r_x7 (ti_le c_185) (by decide)
        subst hQ
        exact W.vret hx hb hr (fun t ht hW => ⟨⟨ws, rfl, ⟨trivial, hw.1, hw.2.2.2.2.1⟩, by rw [ht]; exact hw.2.1, va_K.moved hW.alike hK, hw.2.2.1⟩, hw.2.2.2.1.F ht⟩) hw.2.2.2.1.2.2 dX7_readRun_216
      · have r_x7 : RI x7 0 27 := rc_lt1 r_x7 rl_28 (ti_nle c_185) (by decide)
        refine lv_aload_n hx hb dX7_readRun_188 rfl (lv_at hl 0 rfl) ?_
        refine tg_mem (ci := 7) (C := RX7) (T := TX7) (N := 12) hx hb hts inX7 hown hK hw 1 m_u_1 rfl (by decide) (hts _ tw_88) (fun _ h9 => h9) dX7_readRun_189 ?_
        refine lv_iload hx hb dX7_readRun_192 (lv_at hl 6 rfl) ?_
        refine tg_lald hx hb hK hw h_vu_1 rfl r_x7 (by decide) dX7_readRun_194 (fun w_2 r_w_2 => ?_)
        refine lv_lload_n hx hb dX7_readRun_195 rfl (lv_at hl 3 rfl) ?_
        refine W.lcmp hx hb dX7_readRun_196 (lv_topi (fun v_3 e_v_3 => ?_))
        have r_v_3 := ri_any v_3
        refine lv_if_ne (tgt := 210) hx hb dX7_readRun_197 (by decide) (fun c_197 => ?_) (fun c_197 => ?_)
        · obtain ⟨v_4, e_v_4⟩ : ∃ q9 : Int32, q9 = x7 + Int32.ofInt 1 := ⟨_, rfl⟩
          obtain ⟨t_v_4, r_v_4⟩ := tq_add (lo := 1) (hi := 28) r_x7 (show RI (Int32.ofInt 1) 1 1 by unfold RI; decide +kernel) (by decide +kernel) e_v_4
          have t_v_4 : v_4.toInt = x7.toInt + 1 := t_v_4
          refine lv_iinc (v := v_4) (lv' := [(7, .int v_4), (0, .ref p0), (1, .int x1), (2, .int x2), (3, .long x3), (5, .int x5), (6, .int x6)]) hx hb dX7_readRun_210 hl (k := 6) rfl e_v_4.symm (by decide) rfl (fun ls hl => ?_)
          refine lv_goto (tgt := 178) hx hb dX7_readRun_213 (by decide) ?_
          exact ih178 x1 x2 x3 x5 x6 v_4 z0_6 z0_7 ws _ _ ls (by have q0 := r_v_4.1; have u0 := r_v_4.2; have o0 := r_x7.1; have p0 := r_x7.2; omega) r_x1 r_x2 r_x3 r_x5 r_x6 (r_v_4.to (by decide)) r_z0_6 m_z0_6 r_z0_7 m_z0_7 hw (lv_sub hl [1, 2, 3, 4, 5, 6, 0] rfl)
        · have r_v_3 : RI v_3 0 0 := rc_eq1 r_v_3 rl_0 (ti_eq c_197) (by decide)
          refine lv_aload_n hx hb dX7_readRun_200 rfl (lv_at hl 0 rfl) ?_
          refine lv_sipush (v := 128) hx hb dX7_readRun_201 (by decide) ?_
          refine lv_iload hx hb dX7_readRun_204 (lv_at hl 6 rfl) ?_
          refine lv_iadd hx hb dX7_readRun_206 (lv_topi (fun v_5 e_v_5 => ?_))
          obtain ⟨t_v_5, r_v_5⟩ := tq_add (lo := 128) (hi := 155) rl_128 r_x7 (by decide +kernel) e_v_5
          have t_v_5 : v_5.toInt = 128 + x7.toInt := t_v_5
          refine tg_put (ci := 7) (ts := ty_TAPE) (v := .int v_5) (ty := .int) (C := RX7) (T := TX7) (N := 12) hx hb hts inX7 tyX7 tyX7_ok nmX7 hown hK hw h_p0 rfl rfl 7 (by decide) (hts _ tw_98) (fun _ h9 => h9) rfl (by decide +kernel) rfl rfl (ft := vI (-2147483648) 2147483647) rfl ⟨_, rfl, (r_v_5.to (by decide))⟩ (by decide) dX7_readRun_207 (fun ws H locs hw n_k_6 hF9 => ?_)
          have m_z0_6 := FLD.over hF9 m_z0_6 (by decide)
          obtain ⟨v_7, e_v_7⟩ : ∃ q9 : Int32, q9 = x7 + Int32.ofInt 1 := ⟨_, rfl⟩
          obtain ⟨t_v_7, r_v_7⟩ := tq_add (lo := 1) (hi := 28) r_x7 (show RI (Int32.ofInt 1) 1 1 by unfold RI; decide +kernel) (by decide +kernel) e_v_7
          have t_v_7 : v_7.toInt = x7.toInt + 1 := t_v_7
          refine lv_iinc (v := v_7) (lv' := [(7, .int v_7), (0, .ref p0), (1, .int x1), (2, .int x2), (3, .long x3), (5, .int x5), (6, .int x6)]) hx hb dX7_readRun_210 hl (k := 6) rfl e_v_7.symm (by decide) rfl (fun ls hl => ?_)
          refine lv_goto (tgt := 178) hx hb dX7_readRun_213 (by decide) ?_
          exact ih178 x1 x2 x3 x5 x6 v_7 z0_6 v_5 ws _ _ ls (by have q0 := r_v_7.1; have u0 := r_v_7.2; have o0 := r_x7.1; have p0 := r_x7.2; omega) r_x1 r_x2 r_x3 r_x5 r_x6 (r_v_7.to (by decide)) r_z0_6 m_z0_6 (r_v_5.to (by decide)) n_k_6 hw (lv_sub hl [1, 2, 3, 4, 5, 6, 0] rfl)
  have B155 : ∀ (x1 : Int32) (x2 : Int32) (x3 : Int64) (x5 : Int32) (x6 : Int32) (z0_6 : Int32) (z0_7 : Int32) (ws : va_W) (H : Heap) (locs : List Loc) (ls : Array Slot), RI x1 (-2147483648) 2147483647 → RI x2 (-2147483648) 2147483647 → RJ x3 (-9223372036854775808) 9223372036854775807 → RI x5 (-2147483648) 2147483647 → RI x6 0 1 → RI z0_6 0 940 → FLD ws p0 7 6 (.int z0_6) → RI z0_7 1 1 → FLD ws p0 7 7 (.int z0_7) → WD D cy GG A s wr_X7_readRun wa_X7_readRun Ps w0 Ps ws H locs → lv_has ls 8 [(0, .ref p0), (1, .int x1), (2, .int x2), (3, .long x3), (5, .int x5), (6, .int x6)] → W p l e (headSpec (Cond.code yX7_readRun cX7_readRun 8 none :: gT) ({ frames := 0, cells := 0, slots := 0, locals := 200 } : Room)).room s m ([.ref p0] : List Value).toArray below meth c H locs 0 0 Q (F0 m 155 ls []) := by
    intro x1 x2 x3 x5 x6 z0_6 z0_7 ws H locs ls r_x1 r_x2 r_x3 r_x5 r_x6 r_z0_6 m_z0_6 r_z0_7 m_z0_7 hw hl
    refine lv_iload_n hx hb dX7_readRun_155 rfl (lv_at hl 2 rfl) ?_
    refine lv_if_ne (tgt := 216) hx hb dX7_readRun_156 (by decide) (fun c_156 => ?_) (fun c_156 => ?_)
    · subst hQ
      exact W.vret hx hb hr (fun t ht hW => ⟨⟨ws, rfl, ⟨trivial, hw.1, hw.2.2.2.2.1⟩, by rw [ht]; exact hw.2.1, va_K.moved hW.alike hK, hw.2.2.1⟩, hw.2.2.2.1.F ht⟩) hw.2.2.2.1.2.2 dX7_readRun_216
    · have r_x2 : RI x2 0 0 := rc_eq1 r_x2 rl_0 (ti_eq c_156) (by decide)
      refine lv_iload_n hx hb dX7_readRun_159 rfl (lv_at hl 1 rfl) ?_
      refine lv_bipush (v := 7) hx hb dX7_readRun_160 (by decide) ?_
      refine lv_icmp_gt (tgt := 216) hx hb dX7_readRun_162 (by decide) (fun c_162 => ?_) (fun c_162 => ?_)
      · have r_x1 : RI x1 8 2147483647 := rc_lt2 rl_7 r_x1 (ti_lt c_162) (by decide)
        subst hQ
        exact W.vret hx hb hr (fun t ht hW => ⟨⟨ws, rfl, ⟨trivial, hw.1, hw.2.2.2.2.1⟩, by rw [ht]; exact hw.2.1, va_K.moved hW.alike hK, hw.2.2.1⟩, hw.2.2.2.1.F ht⟩) hw.2.2.2.1.2.2 dX7_readRun_216
      · have r_x1 : RI x1 (-2147483648) 7 := rc_le1 r_x1 rl_7 (ti_nlt c_162) (by decide)
        refine lv_aload_n hx hb dX7_readRun_165 rfl (lv_at hl 0 rfl) ?_
        refine lv_iconst (v := 2) hx hb dX7_readRun_166 (by decide) ?_
        refine tg_put (ci := 7) (ts := ty_TAPE) (v := .int 2) (ty := .int) (C := RX7) (T := TX7) (N := 12) hx hb hts inX7 tyX7 tyX7_ok nmX7 hown hK hw h_p0 rfl rfl 7 (by decide) (hts _ tw_98) (fun _ h9 => h9) rfl (by decide +kernel) rfl rfl (ft := vI (-2147483648) 2147483647) rfl ⟨_, rfl, (rl_2.to (by decide))⟩ (by decide) dX7_readRun_167 (fun ws H locs hw n_k_8 hF9 => ?_)
        have m_z0_6 := FLD.over hF9 m_z0_6 (by decide)
        refine lv_aload_n hx hb dX7_readRun_170 rfl (lv_at hl 0 rfl) ?_
        refine lv_lload_n hx hb dX7_readRun_171 rfl (lv_at hl 3 rfl) ?_
        refine tg_put (ci := 7) (ts := ty_TAPE) (v := .long x3) (ty := .long) (C := RX7) (T := TX7) (N := 12) hx hb hts inX7 tyX7 tyX7_ok nmX7 hown hK hw h_p0 rfl rfl 8 (by decide) (hts _ tw_100) (fun _ h9 => h9) rfl (by decide +kernel) rfl rfl (ft := vJ (-9223372036854775808) 9223372036854775807) rfl ⟨_, rfl, r_x3.to (by decide)⟩ (by decide) dX7_readRun_172 (fun ws H locs hw n_k_9 hF9 => ?_)
        have m_z0_6 := FLD.over hF9 m_z0_6 (by decide)
        have n_k_8 := FLD.over hF9 n_k_8 (by decide)
        refine lv_iconst (v := 0) hx hb dX7_readRun_175 (by decide) ?_
        refine lv_istore (lv' := [(7, .int 0), (0, .ref p0), (1, .int x1), (2, .int x2), (3, .long x3), (5, .int x5), (6, .int x6)]) hx hb dX7_readRun_176 hl (by decide) rfl (fun ls hl => ?_)
        exact B178 4294967298 x1 x2 x3 x5 x6 0 z0_6 2 ws _ _ ls (by have q0 := rl_0.1; have u0 := rl_0.2; omega) r_x1 r_x2 r_x3 r_x5 r_x6 (rl_0.to (by decide)) r_z0_6 m_z0_6 (rl_2.to (by decide)) n_k_8 hw (lv_sub hl [1, 2, 3, 4, 5, 6, 0] rfl)
  have B127 : ∀ (x1 : Int32) (x2 : Int32) (x3 : Int64) (x5 : Int32) (x6 : Int32) (z0_6 : Int32) (ws : va_W) (H : Heap) (locs : List Loc) (ls : Array Slot), RI x1 (-2147483648) 2147483647 → RI x2 (-2147483648) 2147483647 → RJ x3 (-9223372036854775808) 9223372036854775807 → RI x5 (-2147483648) 2147483647 → RI x6 0 1 → RI z0_6 0 940 → FLD ws p0 7 6 (.int z0_6) → WD D cy GG A s wr_X7_readRun wa_X7_readRun Ps w0 Ps ws H locs → lv_has ls 8 [(0, .ref p0), (1, .int x1), (2, .int x2), (3, .long x3), (5, .int x5), (6, .int x6)] → W p l e (headSpec (Cond.code yX7_readRun cX7_readRun 8 none :: gT) ({ frames := 0, cells := 0, slots := 0, locals := 200 } : Room)).room s m ([.ref p0] : List Value).toArray below meth c H locs 0 0 Q (F0 m 127 ls []) := by
    intro x1 x2 x3 x5 x6 z0_6 ws H locs ls r_x1 r_x2 r_x3 r_x5 r_x6 r_z0_6 m_z0_6 hw hl
    refine lv_aload_n hx hb dX7_readRun_127 rfl (lv_at hl 0 rfl) ?_
    refine lv_iconst (v := 1) hx hb dX7_readRun_128 (by decide) ?_
    refine tg_put (ci := 7) (ts := ty_TAPE) (v := .int 1) (ty := .int) (C := RX7) (T := TX7) (N := 12) hx hb hts inX7 tyX7 tyX7_ok nmX7 hown hK hw h_p0 rfl rfl 7 (by decide) (hts _ tw_98) (fun _ h9 => h9) rfl (by decide +kernel) rfl rfl (ft := vI (-2147483648) 2147483647) rfl ⟨_, rfl, (rl_1.to (by decide))⟩ (by decide) dX7_readRun_129 (fun ws H locs hw n_k_10 hF9 => ?_)
    have m_z0_6 := FLD.over hF9 m_z0_6 (by decide)
    refine lv_iload_n hx hb dX7_readRun_132 rfl (lv_at hl 1 rfl) ?_
    refine lv_if_ne (tgt := 155) hx hb dX7_readRun_133 (by decide) (fun c_133 => ?_) (fun c_133 => ?_)
    · exact B155 x1 x2 x3 x5 x6 z0_6 1 ws _ _ ls r_x1 r_x2 r_x3 r_x5 r_x6 r_z0_6 m_z0_6 rl_1 n_k_10 hw hl
    · have r_x1 : RI x1 0 0 := rc_eq1 r_x1 rl_0 (ti_eq c_133) (by decide)
      refine lv_iload_n hx hb dX7_readRun_136 rfl (lv_at hl 2 rfl) ?_
      refine lv_iconst (v := 3) hx hb dX7_readRun_137 (by decide) ?_
      refine lv_icmp_gt (tgt := 155) hx hb dX7_readRun_138 (by decide) (fun c_138 => ?_) (fun c_138 => ?_)
      · have r_x2 : RI x2 4 2147483647 := rc_lt2 rl_3 r_x2 (ti_lt c_138) (by decide)
        exact B155 x1 x2 x3 x5 x6 z0_6 1 ws _ _ ls (r_x1.to (by decide)) (r_x2.to (by decide)) r_x3 r_x5 r_x6 r_z0_6 m_z0_6 rl_1 n_k_10 hw hl
      · have r_x2 : RI x2 (-2147483648) 3 := rc_le1 r_x2 rl_3 (ti_nlt c_138) (by decide)
        refine lv_aload_n hx hb dX7_readRun_141 rfl (lv_at hl 0 rfl) ?_
        refine lv_iconst (v := 3) hx hb dX7_readRun_142 (by decide) ?_
        refine tg_put (ci := 7) (ts := ty_TAPE) (v := .int 3) (ty := .int) (C := RX7) (T := TX7) (N := 12) hx hb hts inX7 tyX7 tyX7_ok nmX7 hown hK hw h_p0 rfl rfl 7 (by decide) (hts _ tw_98) (fun _ h9 => h9) rfl (by decide +kernel) rfl rfl (ft := vI (-2147483648) 2147483647) rfl ⟨_, rfl, (rl_3.to (by decide))⟩ (by decide) dX7_readRun_143 (fun ws H locs hw n_k_11 hF9 => ?_)
        have m_z0_6 := FLD.over hF9 m_z0_6 (by decide)
        refine lv_aload_n hx hb dX7_readRun_146 rfl (lv_at hl 0 rfl) ?_
        refine lv_iload hx hb dX7_readRun_147 (lv_at hl 4 rfl) ?_
        refine tg_put (ci := 7) (ts := ty_TAPE) (v := .int x5) (ty := .int) (C := RX7) (T := TX7) (N := 12) hx hb hts inX7 tyX7 tyX7_ok nmX7 hown hK hw h_p0 rfl rfl 9 (by decide) (hts _ tw_101) (fun _ h9 => h9) rfl (by decide +kernel) rfl rfl (ft := vI (-2147483648) 2147483647) rfl ⟨_, rfl, r_x5⟩ (by decide) dX7_readRun_149 (fun ws H locs hw n_k_12 hF9 => ?_)
        have m_z0_6 := FLD.over hF9 m_z0_6 (by decide)
        have n_k_11 := FLD.over hF9 n_k_11 (by decide)
        refine lv_goto (tgt := 216) hx hb dX7_readRun_152 (by decide) ?_
        subst hQ
        exact W.vret hx hb hr (fun t ht hW => ⟨⟨ws, rfl, ⟨trivial, hw.1, hw.2.2.2.2.1⟩, by rw [ht]; exact hw.2.1, va_K.moved hW.alike hK, hw.2.2.1⟩, hw.2.2.2.1.F ht⟩) hw.2.2.2.1.2.2 dX7_readRun_216
  have B12 : ∀ (nf : Nat) (x1 : Int32) (x2 : Int32) (x3 : Int64) (x5 : Int32) (x6 : Int32) (z0_6 : Int32) (ws : va_W) (H : Heap) (locs : List Loc) (ls : Array Slot), 2 * (940 - z0_6.toInt) + x6.toInt < (nf : Int) → RI x1 (-2147483648) 2147483647 → RI x2 (-2147483648) 2147483647 → RJ x3 (-9223372036854775808) 9223372036854775807 → RI x5 (-2147483648) 2147483647 → RI x6 0 1 → RI z0_6 0 940 → FLD ws p0 7 6 (.int z0_6) → WD D cy GG A s wr_X7_readRun wa_X7_readRun Ps w0 Ps ws H locs → lv_has ls 8 [(0, .ref p0), (1, .int x1), (2, .int x2), (3, .long x3), (5, .int x5), (6, .int x6)] → W p l e (headSpec (Cond.code yX7_readRun cX7_readRun 8 none :: gT) ({ frames := 0, cells := 0, slots := 0, locals := 200 } : Room)).room s m ([.ref p0] : List Value).toArray below meth c H locs 0 0 Q (F0 m 12 ls []) := by
    intro nf12
    induction nf12 with
    | zero =>
      intro x1 x2 x3 x5 x6 z0_6 ws H locs ls hn12 r_x1 r_x2 r_x3 r_x5 r_x6 r_z0_6 m_z0_6 hw hl
      exact absurd hn12 (by have q0 := r_x6.1; have u0 := r_x6.2; have q1 := r_z0_6.1; have u1 := r_z0_6.2; omega)
    | succ nf12 ih12 =>
      have B121 : ∀ (x1 : Int32) (x2 : Int32) (x3 : Int64) (x5 : Int32) (x6 : Int32) (x7 : Int32) (z0_2 : Int32) (z0_6 : Int32) (ws : va_W) (H : Heap) (locs : List Loc) (ls : Array Slot), RI x1 (-2147483648) 2147483647 → RI x2 (-2147483648) 2147483647 → RJ x3 (-9223372036854775808) 9223372036854775807 → RI x5 (-2147483648) 2147483647 → RI x6 1 1 → RI x7 (-128) 127 → RI z0_2 1 940 → FLD ws p0 7 2 (.int z0_2) → RI z0_6 0 939 → FLD ws p0 7 6 (.int z0_6) → 2 * (940 - z0_6.toInt) + x6.toInt < ((nf12 + 1 : Nat) : Int) → WD D cy GG A s wr_X7_readRun wa_X7_readRun Ps w0 Ps ws H locs → lv_has ls 8 [(0, .ref p0), (1, .int x1), (2, .int x2), (3, .long x3), (5, .int x5), (6, .int x6), (7, .int x7)] → W p l e (headSpec (Cond.code yX7_readRun cX7_readRun 8 none :: gT) ({ frames := 0, cells := 0, slots := 0, locals := 200 } : Room)).room s m ([.ref p0] : List Value).toArray below meth c H locs 0 0 Q (F0 m 121 ls []) := by
        intro x1 x2 x3 x5 x6 x7 z0_2 z0_6 ws H locs ls r_x1 r_x2 r_x3 r_x5 r_x6 r_x7 r_z0_2 m_z0_2 r_z0_6 m_z0_6 hn12 hw hl
        refine lv_iconst (v := 0) hx hb dX7_readRun_121 (by decide) ?_
        refine lv_istore (lv' := [(6, .int 0), (0, .ref p0), (1, .int x1), (2, .int x2), (3, .long x3), (5, .int x5), (7, .int x7)]) hx hb dX7_readRun_122 hl (by decide) rfl (fun ls hl => ?_)
        refine lv_goto (tgt := 12) hx hb dX7_readRun_124 (by decide) ?_
        exact ih12 x1 x2 x3 x5 0 z0_6 ws _ _ ls (by have q0 := rl_0.1; have u0 := rl_0.2; have q1 := r_z0_6.1; have u1 := r_z0_6.2; have o0 := r_x6.1; have p0 := r_x6.2; omega) r_x1 r_x2 r_x3 r_x5 (rl_0.to (by decide)) (r_z0_6.to (by decide)) m_z0_6 hw (lv_sub hl [1, 2, 3, 4, 5, 0] rfl)
      have B78 : ∀ (x1 : Int32) (x2 : Int32) (x3 : Int64) (x5 : Int32) (x6 : Int32) (x7 : Int32) (z0_2 : Int32) (z0_6 : Int32) (ws : va_W) (H : Heap) (locs : List Loc) (ls : Array Slot), RI x1 (-2147483648) 2147483647 → RI x2 (-2147483648) 2147483647 → RJ x3 (-9223372036854775808) 9223372036854775807 → RI x5 (-2147483648) 2147483647 → RI x6 1 1 → RI x7 (-128) 127 → RI z0_2 1 940 → FLD ws p0 7 2 (.int z0_2) → RI z0_6 0 939 → FLD ws p0 7 6 (.int z0_6) → 2 * (940 - z0_6.toInt) + x6.toInt < ((nf12 + 1 : Nat) : Int) → WD D cy GG A s wr_X7_readRun wa_X7_readRun Ps w0 Ps ws H locs → lv_has ls 8 [(0, .ref p0), (1, .int x1), (2, .int x2), (3, .long x3), (5, .int x5), (6, .int x6), (7, .int x7)] → W p l e (headSpec (Cond.code yX7_readRun cX7_readRun 8 none :: gT) ({ frames := 0, cells := 0, slots := 0, locals := 200 } : Room)).room s m ([.ref p0] : List Value).toArray below meth c H locs 0 0 Q (F0 m 78 ls []) := by
        intro x1 x2 x3 x5 x6 x7 z0_2 z0_6 ws H locs ls r_x1 r_x2 r_x3 r_x5 r_x6 r_x7 r_z0_2 m_z0_2 r_z0_6 m_z0_6 hn12 hw hl
        refine lv_iload hx hb dX7_readRun_78 (lv_at hl 6 rfl) ?_
        refine lv_bipush (v := 48) hx hb dX7_readRun_80 (by decide) ?_
        refine lv_icmp_lt (tgt := 121) hx hb dX7_readRun_82 (by decide) (fun c_82 => ?_) (fun c_82 => ?_)
        · have r_x7 : RI x7 (-128) 47 := rc_lt1 r_x7 rl_48 (ti_lt c_82) (by decide)
          exact B121 x1 x2 x3 x5 x6 x7 z0_2 z0_6 ws _ _ ls r_x1 r_x2 r_x3 r_x5 r_x6 (r_x7.to (by decide)) r_z0_2 m_z0_2 r_z0_6 m_z0_6 (by have q0 := r_x6.1; have u0 := r_x6.2; have q1 := r_z0_6.1; have u1 := r_z0_6.2; omega) hw hl
        · have r_x7 : RI x7 48 127 := rc_le2 rl_48 r_x7 (ti_nlt c_82) (by decide)
          refine lv_iload hx hb dX7_readRun_85 (lv_at hl 6 rfl) ?_
          refine lv_bipush (v := 57) hx hb dX7_readRun_87 (by decide) ?_
          refine lv_icmp_gt (tgt := 121) hx hb dX7_readRun_89 (by decide) (fun c_89 => ?_) (fun c_89 => ?_)
          · have r_x7 : RI x7 58 127 := rc_lt2 rl_57 r_x7 (ti_lt c_89) (by decide)
            exact B121 x1 x2 x3 x5 x6 x7 z0_2 z0_6 ws _ _ ls r_x1 r_x2 r_x3 r_x5 r_x6 (r_x7.to (by decide)) r_z0_2 m_z0_2 r_z0_6 m_z0_6 (by have q0 := r_x6.1; have u0 := r_x6.2; have q1 := r_z0_6.1; have u1 := r_z0_6.2; omega) hw hl
          · have r_x7 : RI x7 48 57 := rc_le1 r_x7 rl_57 (ti_nlt c_89) (by decide)
            obtain ⟨v_13, e_v_13⟩ : ∃ q9 : Int32, q9 = x2 + Int32.ofInt 1 := ⟨_, rfl⟩
            have r_v_13 := ri_any v_13
            refine lv_iinc (v := v_13) (lv' := [(2, .int v_13), (0, .ref p0), (1, .int x1), (3, .long x3), (5, .int x5), (6, .int x6), (7, .int x7)]) hx hb dX7_readRun_92 hl (k := 2) rfl e_v_13.symm (by decide) rfl (fun ls hl => ?_)
            refine lv_iload hx hb dX7_readRun_95 (lv_at hl 4 rfl) ?_
            refine lv_bipush (v := 10) hx hb dX7_readRun_97 (by decide) ?_
            refine lv_imul hx hb dX7_readRun_99 (lv_topi (fun v_14 e_v_14 => ?_))
            have r_v_14 := ri_any v_14
            refine lv_iload hx hb dX7_readRun_100 (lv_at hl 6 rfl) ?_
            refine lv_bipush (v := 48) hx hb dX7_readRun_102 (by decide) ?_
            refine lv_isub hx hb dX7_readRun_104 (lv_topi (fun v_15 e_v_15 => ?_))
            obtain ⟨t_v_15, r_v_15⟩ := tq_sub (lo := 0) (hi := 9) r_x7 rl_48 (by decide +kernel) e_v_15
            have t_v_15 : v_15.toInt = x7.toInt - 48 := t_v_15
            refine lv_iadd hx hb dX7_readRun_105 (lv_topi (fun v_16 e_v_16 => ?_))
            have r_v_16 := ri_any v_16
            refine lv_istore (lv' := [(5, .int v_16), (2, .int v_13), (0, .ref p0), (1, .int x1), (3, .long x3), (6, .int x6), (7, .int x7)]) hx hb dX7_readRun_106 hl (by decide) rfl (fun ls hl => ?_)
            refine lv_aload_n hx hb dX7_readRun_108 rfl (lv_at hl 2 rfl) ?_
            refine lv_dup hx hb dX7_readRun_109 rfl ?_
            refine tg_mem (ci := 7) (C := RX7) (T := TX7) (N := 12) hx hb hts inX7 hown hK hw 6 m_z0_6 rfl (by decide) (hts _ tw_94) (fun _ h9 => h9) dX7_readRun_110 ?_
            refine lv_iconst (v := 1) hx hb dX7_readRun_113 (by decide) ?_
            refine lv_iadd hx hb dX7_readRun_114 (lv_topi (fun v_17 e_v_17 => ?_))
            obtain ⟨t_v_17, r_v_17⟩ := tq_add (lo := 1) (hi := 940) r_z0_6 rl_1 (by decide +kernel) e_v_17
            have t_v_17 : v_17.toInt = z0_6.toInt + 1 := t_v_17
            refine tg_put (ci := 7) (ts := ty_TAPE) (v := .int v_17) (ty := .int) (C := RX7) (T := TX7) (N := 12) hx hb hts inX7 tyX7 tyX7_ok nmX7 hown hK hw h_p0 rfl rfl 6 (by decide) (hts _ tw_94) (fun _ h9 => h9) rfl (by decide +kernel) rfl rfl (ft := vI 0 940) rfl ⟨_, rfl, (r_v_17.to (by decide))⟩ (by decide) dX7_readRun_115 (fun ws H locs hw n_k_18 hF9 => ?_)
            have m_z0_2 := FLD.over hF9 m_z0_2 (by decide)
            refine lv_goto (tgt := 124) hx hb dX7_readRun_118 (by decide) ?_
            refine lv_goto (tgt := 12) hx hb dX7_readRun_124 (by decide) ?_
            exact ih12 x1 v_13 x3 v_16 x6 v_17 ws _ _ ls (by have q0 := r_x6.1; have u0 := r_x6.2; have q1 := r_v_17.1; have u1 := r_v_17.2; have o1 := r_z0_6.1; have p1 := r_z0_6.2; omega) r_x1 r_v_13 r_x3 r_v_16 (r_x6.to (by decide)) (r_v_17.to (by decide)) n_k_18 hw (lv_sub hl [2, 3, 1, 4, 0, 5] rfl)
      intro x1 x2 x3 x5 x6 z0_6 ws H locs ls hn12 r_x1 r_x2 r_x3 r_x5 r_x6 r_z0_6 m_z0_6 hw hl
      refine lv_iload hx hb dX7_readRun_12 (lv_at hl 5 rfl) ?_
      refine lv_if_eq (tgt := 127) hx hb dX7_readRun_14 (by decide) (fun c_14 => ?_) (fun c_14 => ?_)
      · have r_x6 : RI x6 0 0 := rc_eq1 r_x6 rl_0 (ti_eq c_14) (by decide)
        exact B127 x1 x2 x3 x5 x6 z0_6 ws _ _ ls r_x1 r_x2 r_x3 r_x5 (r_x6.to (by decide)) r_z0_6 m_z0_6 hw hl
      · have r_x6 : RI x6 1 1 := rc_neL r_x6 rl_0 (ti_ne c_14) (by decide)
        refine lv_aload_n hx hb dX7_readRun_17 rfl (lv_at hl 0 rfl) ?_
        refine tg_mem (ci := 7) (C := RX7) (T := TX7) (N := 12) hx hb hts inX7 hown hK hw 6 m_z0_6 rfl (by decide) (hts _ tw_94) (fun _ h9 => h9) dX7_readRun_18 ?_
        refine lv_aload_n hx hb dX7_readRun_21 rfl (lv_at hl 0 rfl) ?_
        refine tg_get (ci := 7) (ts := ty_TAPE) (C := RX7) (T := TX7) (N := 12) hx hb hts inX7 hown hK hw h_p0 rfl rfl 2 (by decide) (hts _ tw_89) (fun _ h9 => h9) (ft := vI 0 940) rfl dX7_readRun_22 (fun u_19 hv_u_19 m_u_19 => ?_)
        obtain ⟨vu_19, rfl, r_vu_19⟩ := hv_u_19
        refine lv_icmp_ge (tgt := 127) hx hb dX7_readRun_25 (by decide) (fun c_25 => ?_) (fun c_25 => ?_)
        · exact B127 x1 x2 x3 x5 x6 z0_6 ws _ _ ls r_x1 r_x2 r_x3 r_x5 (r_x6.to (by decide)) r_z0_6 m_z0_6 hw hl
        · have r_z0_6 : RI z0_6 0 939 := rc_lt1 r_z0_6 r_vu_19 (ti_nle c_25) (by decide)
          have r_vu_19 : RI vu_19 1 940 := rc_lt2 r_z0_6 r_vu_19 (ti_nle c_25) (by decide)
          refine lv_aload_n hx hb dX7_readRun_28 rfl (lv_at hl 0 rfl) ?_
          refine tg_get (ci := 7) (ts := ty_TAPE) (C := RX7) (T := TX7) (N := 12) hx hb hts inX7 hown hK hw h_p0 rfl rfl 0 (by decide) (hts _ tw_87) (fun _ h9 => h9) (ft := vR 2) rfl dX7_readRun_29 (fun u_20 hv_u_20 m_u_20 => ?_)
          obtain ⟨vu_20, rfl, h_vu_20⟩ := hv_u_20
          refine lv_aload_n hx hb dX7_readRun_32 rfl (lv_at hl 0 rfl) ?_
          refine tg_mem (ci := 7) (C := RX7) (T := TX7) (N := 12) hx hb hts inX7 hown hK hw 6 m_z0_6 rfl (by decide) (hts _ tw_94) (fun _ h9 => h9) dX7_readRun_33 ?_
          refine tg_bald (lo := (-128)) (hi := 127) hx hb hK hw h_vu_20 rfl 0 939 r_z0_6 (by decide) (by exact fun _ _ _ => ⟨Int.le_refl _, Int.le_refl _⟩) dX7_readRun_36 (fun v_21 r_v_21 => ?_)
          refine lv_istore (lv' := [(7, .int v_21), (0, .ref p0), (1, .int x1), (2, .int x2), (3, .long x3), (5, .int x5), (6, .int x6)]) hx hb dX7_readRun_37 hl (by decide) rfl (fun ls hl => ?_)
          refine lv_iload hx hb dX7_readRun_39 (lv_at hl 0 rfl) ?_
          refine lv_bipush (v := 97) hx hb dX7_readRun_41 (by decide) ?_
          refine lv_icmp_lt (tgt := 78) hx hb dX7_readRun_43 (by decide) (fun c_43 => ?_) (fun c_43 => ?_)
          · have r_v_21 : RI v_21 (-128) 96 := rc_lt1 r_v_21 rl_97 (ti_lt c_43) (by decide)
            exact B78 x1 x2 x3 x5 x6 v_21 vu_19 z0_6 ws _ _ ls r_x1 r_x2 r_x3 r_x5 r_x6 (r_v_21.to (by decide)) r_vu_19 m_u_19 r_z0_6 m_z0_6 (by have q0 := r_x6.1; have u0 := r_x6.2; have q1 := r_z0_6.1; have u1 := r_z0_6.2; omega) hw (lv_sub hl [1, 2, 3, 4, 5, 6, 0] rfl)
          · have r_v_21 : RI v_21 97 127 := rc_le2 rl_97 r_v_21 (ti_nlt c_43) (by decide)
            refine lv_iload hx hb dX7_readRun_46 (lv_at hl 0 rfl) ?_
            refine lv_bipush (v := 122) hx hb dX7_readRun_48 (by decide) ?_
            refine lv_icmp_gt (tgt := 78) hx hb dX7_readRun_50 (by decide) (fun c_50 => ?_) (fun c_50 => ?_)
            · have r_v_21 : RI v_21 123 127 := rc_lt2 rl_122 r_v_21 (ti_lt c_50) (by decide)
              exact B78 x1 x2 x3 x5 x6 v_21 vu_19 z0_6 ws _ _ ls r_x1 r_x2 r_x3 r_x5 r_x6 (r_v_21.to (by decide)) r_vu_19 m_u_19 r_z0_6 m_z0_6 (by have q0 := r_x6.1; have u0 := r_x6.2; have q1 := r_z0_6.1; have u1 := r_z0_6.2; omega) hw (lv_sub hl [1, 2, 3, 4, 5, 6, 0] rfl)
            · have r_v_21 : RI v_21 97 122 := rc_le1 r_v_21 rl_122 (ti_nlt c_50) (by decide)
              obtain ⟨v_22, e_v_22⟩ : ∃ q9 : Int32, q9 = x1 + Int32.ofInt 1 := ⟨_, rfl⟩
              have r_v_22 := ri_any v_22
              refine lv_iinc (v := v_22) (lv' := [(1, .int v_22), (7, .int v_21), (0, .ref p0), (2, .int x2), (3, .long x3), (5, .int x5), (6, .int x6)]) hx hb dX7_readRun_53 hl (k := 2) rfl e_v_22.symm (by decide) rfl (fun ls hl => ?_)
              refine lv_lload_n hx hb dX7_readRun_56 rfl (lv_at hl 4 rfl) ?_
              refine lv_bipush (v := 8) hx hb dX7_readRun_57 (by decide) ?_
              obtain ⟨w_23, e_w_23⟩ : ∃ q9 : Int64, (x3 : Int64) <<< ((8 : Int32).toInt64 &&& 63) = q9 := ⟨_, rfl⟩
              refine lv_lshl (v := w_23) hx hb dX7_readRun_59 e_w_23 ?_
              have r_w_23 := rj_any w_23
              refine lv_iload hx hb dX7_readRun_60 (lv_at hl 1 rfl) ?_
              obtain ⟨w_24, e_w_24⟩ : ∃ q9 : Int64, (v_21 : Int32).toInt64 = q9 := ⟨_, rfl⟩
              refine lv_i2l (v := w_24) hx hb dX7_readRun_62 e_w_24 ?_
              have r_w_24 := tq_i2l r_v_21 e_w_24
              refine lv_lor hx hb dX7_readRun_63 (lv_topl (fun w_25 e_w_25 => ?_))
              have r_w_25 := rj_any w_25
              refine lv_lstore_n (lv' := [(3, .long w_25), (1, .int v_22), (7, .int v_21), (0, .ref p0), (2, .int x2), (5, .int x5), (6, .int x6)]) hx hb dX7_readRun_64 rfl hl (by decide) rfl (fun ls hl => ?_)
              refine lv_aload_n hx hb dX7_readRun_65 rfl (lv_at hl 3 rfl) ?_
              refine lv_dup hx hb dX7_readRun_66 rfl ?_
              refine tg_mem (ci := 7) (C := RX7) (T := TX7) (N := 12) hx hb hts inX7 hown hK hw 6 m_z0_6 rfl (by decide) (hts _ tw_94) (fun _ h9 => h9) dX7_readRun_67 ?_
              refine lv_iconst (v := 1) hx hb dX7_readRun_70 (by decide) ?_
              refine lv_iadd hx hb dX7_readRun_71 (lv_topi (fun v_26 e_v_26 => ?_))
              obtain ⟨t_v_26, r_v_26⟩ := tq_add (lo := 1) (hi := 940) r_z0_6 rl_1 (by decide +kernel) e_v_26
              have t_v_26 : v_26.toInt = z0_6.toInt + 1 := t_v_26
              refine tg_put (ci := 7) (ts := ty_TAPE) (v := .int v_26) (ty := .int) (C := RX7) (T := TX7) (N := 12) hx hb hts inX7 tyX7 tyX7_ok nmX7 hown hK hw h_p0 rfl rfl 6 (by decide) (hts _ tw_94) (fun _ h9 => h9) rfl (by decide +kernel) rfl rfl (ft := vI 0 940) rfl ⟨_, rfl, (r_v_26.to (by decide))⟩ (by decide) dX7_readRun_72 (fun ws H locs hw n_k_27 hF9 => ?_)
              have m_u_19 := FLD.over hF9 m_u_19 (by decide)
              refine lv_goto (tgt := 124) hx hb dX7_readRun_75 (by decide) ?_
              refine lv_goto (tgt := 12) hx hb dX7_readRun_124 (by decide) ?_
              exact ih12 v_22 x2 w_25 x5 x6 v_26 ws _ _ ls (by have q0 := r_x6.1; have u0 := r_x6.2; have q1 := r_v_26.1; have u1 := r_v_26.2; have o1 := r_z0_6.1; have p1 := r_z0_6.2; omega) r_v_22 r_x2 r_w_25 r_x5 (r_x6.to (by decide)) (r_v_26.to (by decide)) n_k_27 hw (lv_sub hl [3, 1, 4, 0, 5, 6] rfl)
  refine lv_iconst (v := 0) hx hb dX7_readRun_0 (by decide) ?_
  refine lv_istore_n (lv' := [(1, .int 0), (0, .ref p0)]) hx hb dX7_readRun_1 rfl hl (by decide) rfl (fun ls hl => ?_)
  refine lv_iconst (v := 0) hx hb dX7_readRun_2 (by decide) ?_
  refine lv_istore_n (lv' := [(2, .int 0), (1, .int 0), (0, .ref p0)]) hx hb dX7_readRun_3 rfl hl (by decide) rfl (fun ls hl => ?_)
  refine lv_lconst (v := 0) hx hb dX7_readRun_4 (by decide) ?_
  refine lv_lstore_n (lv' := [(3, .long 0), (2, .int 0), (1, .int 0), (0, .ref p0)]) hx hb dX7_readRun_5 rfl hl (by decide) rfl (fun ls hl => ?_)
  refine lv_iconst (v := 0) hx hb dX7_readRun_6 (by decide) ?_
  refine lv_istore (lv' := [(5, .int 0), (3, .long 0), (2, .int 0), (1, .int 0), (0, .ref p0)]) hx hb dX7_readRun_7 hl (by decide) rfl (fun ls hl => ?_)
  refine lv_iconst (v := 1) hx hb dX7_readRun_9 (by decide) ?_
  refine lv_istore (lv' := [(6, .int 1), (5, .int 0), (3, .long 0), (2, .int 0), (1, .int 0), (0, .ref p0)]) hx hb dX7_readRun_10 hl (by decide) rfl (fun ls hl => ?_)
  obtain ⟨v_28, m_v_28, r_v_28⟩ := tg_fld (k := 6) (ci := 7) (ts := ty_TAPE) (lo := 0) (hi := 940) hw h_p0 rfl rfl
  exact B12 4294967298 0 0 0 0 1 v_28 w0 _ _ ls (by have q0 := rl_1.1; have u0 := rl_1.2; have q1 := r_v_28.1; have u1 := r_v_28.2; omega) (rl_0.to (by decide)) (rl_0.to (by decide)) (rk_0.to (by decide)) (rl_0.to (by decide)) (rl_1.to (by decide)) r_v_28 m_v_28 hw (lv_sub hl [5, 4, 3, 2, 1, 0] rfl)
abbrev wr_X7_isBlank : List (Nat × Nat) := []
abbrev wa_X7_isBlank : List Nat := []
set_option maxHeartbeats 4000000 in
set_option maxRecDepth 100000 in
theorem c_X7_isBlank (l : Launch) (D : va_G) (cy : Nat → ClassId) (z : Nat → Nat) (sz : Nat) (Ps : PSI) (w0 : va_W) (hT : HT cy GG Ps w0) (p0 : Int32) (r_p0 : RI p0 (-2147483648) 2147483647) : Met l yX7_isBlank (Cond.code yX7_isBlank cX7_isBlank 1 (some .boolean) :: gT) ({ frames := 0, cells := 0, slots := 0, locals := 200 } : Room) (va_Pc [.int p0] (PRE D cy z w0 sz)) (va_Qi (fun (r : Int32) (u : Unit) => RI r 0 1 ∧ (r = 0 → True) ∧ (¬ r = 0 → RI p0 10 32 ∧ True)) (BB D cy (va_A w0 sz) (fun (u : Unit) => w0)) (va_A w0 sz)) 0 0 (va_A w0 sz) := by
  refine Met.ofW (cc := cX7_isBlank) (maxL := 1) (ret := (some .boolean)) (by decide) rfl ?_
  intro p e s m args below meth c s₁ B hml hv
  obtain ⟨rfl, hsz, hP, hK, hD0, hSD⟩ := hv
  have hx := B.exec
  have hb := B.bytes
  have hr := B.returns
  have hlocks := B.notSynchronized
  have hts : ∀ w ∈ gT, w.before _ s = true := fun w h => atoms_spec (ws := Cond.code yX7_isBlank cX7_isBlank 1 (some .boolean) :: gT) B.pre w (List.mem_cons_of_mem _ h)
  have hown : s.vm.findClass RX7 = some m.cls := findClass_of_methodNamed B.named
  subst hsz
  have hD := hD0.self (sz := s.heap.size)
  generalize hAe : va_A w0 s.heap.size = A at hD hSD ⊢
  have hA : ∀ q : Nat, s.heap.size ≤ q → A q := fun q h => by rw [← hAe]; exact Or.inr h
  have hl := lv_entry ([.int p0]) (n := 1) (Nat.le_of_ble_eq_true rfl)
  rw [lg_entry_eq]
  generalize (lg_sl ([.int p0]) ++ List.replicate (1 - (lg_sl ([.int p0])).length) Slot.unset).toArray = ls at hl ⊢
  have hl : lv_has ls 1 [(0, .int p0)] := hl
  refine nameQ (fun Q hQ => ?_)
  have hw : WD D cy GG A s wr_X7_isBlank wa_X7_isBlank Ps w0 Ps w0 s.heap [] := ⟨hT, hP, hD, va_S.rf, FR.rf, hT.1, [], (List.append_nil _).symm⟩
  refine lv_iload_n hx hb dX7_isBlank_0 rfl (lv_at hl 0 rfl) ?_
  refine lv_bipush (v := 32) hx hb dX7_isBlank_1 (by decide) ?_
  refine lv_icmp_eq (tgt := 12) hx hb dX7_isBlank_3 (by decide) (fun c_3 => ?_) (fun c_3 => ?_)
  · have r_p0 : RI p0 32 32 := rc_eq1 r_p0 rl_32 (ti_eq c_3) (by decide)
    refine lv_iconst (v := 1) hx hb dX7_isBlank_12 (by decide) ?_
    refine lv_goto (tgt := 17) hx hb dX7_isBlank_13 (by decide) ?_
    subst hQ
    exact W.zret (v := 1) hx hb hr (rfl) (fun t ht hW => ⟨⟨1, (), rfl, ⟨rl_1.to (by decide), (fun _ => trivial), (fun h0 => ⟨(r_p0.to (by decide)), trivial⟩)⟩, by rw [ht]; exact hw.2.1, va_K.moved hW.alike hK, hw.2.2.1⟩, hw.2.2.2.1.F ht⟩) hw.2.2.2.1.2.2 dX7_isBlank_17
  · refine lv_iload_n hx hb dX7_isBlank_6 rfl (lv_at hl 0 rfl) ?_
    refine lv_bipush (v := 10) hx hb dX7_isBlank_7 (by decide) ?_
    refine lv_icmp_ne (tgt := 16) hx hb dX7_isBlank_9 (by decide) (fun c_9 => ?_) (fun c_9 => ?_)
    · refine lv_iconst (v := 0) hx hb dX7_isBlank_16 (by decide) ?_
      subst hQ
      exact W.zret (v := 0) hx hb hr (rfl) (fun t ht hW => ⟨⟨0, (), rfl, ⟨rl_0.to (by decide), (fun h0 => trivial), (fun h0 => absurd rfl h0)⟩, by rw [ht]; exact hw.2.1, va_K.moved hW.alike hK, hw.2.2.1⟩, hw.2.2.2.1.F ht⟩) hw.2.2.2.1.2.2 dX7_isBlank_17
    · have r_p0 : RI p0 10 10 := rc_eq1 r_p0 rl_10 (ti_eq c_9) (by decide)
      refine lv_iconst (v := 1) hx hb dX7_isBlank_12 (by decide) ?_
      refine lv_goto (tgt := 17) hx hb dX7_isBlank_13 (by decide) ?_
      subst hQ
      exact W.zret (v := 1) hx hb hr (rfl) (fun t ht hW => ⟨⟨1, (), rfl, ⟨rl_1.to (by decide), (fun _ => trivial), (fun h0 => ⟨(r_p0.to (by decide)), trivial⟩)⟩, by rw [ht]; exact hw.2.1, va_K.moved hW.alike hK, hw.2.2.1⟩, hw.2.2.2.1.F ht⟩) hw.2.2.2.1.2.2 dX7_isBlank_17
abbrev wr_X7_pass : List (Nat × Nat) := [(7, 5), (7, 6), (7, 7), (7, 8), (7, 9)]
abbrev wa_X7_pass : List Nat := []
set_option maxHeartbeats 4000000 in
set_option maxRecDepth 100000 in
theorem c_X7_pass (l : Launch) (D : va_G) (cy : Nat → ClassId) (z : Nat → Nat) (sz : Nat) (Ps : PSI) (w0 : va_W) (hT : HT cy GG Ps w0) (p0 : Nat) (h_p0 : (p0, 26) ∈ Ps) : Met l yX7_pass (Cond.code yX7_pass cX7_pass 2 none :: gT) ({ frames := 2, cells := 0, slots := 0, locals := 400 } : Room) (va_Pc [.ref p0] (PRE D cy z w0 sz)) (va_Qv (fun (u : va_W) => (True) ∧ HT cy GG Ps u ∧ FR wr_X7_pass wa_X7_pass Ps w0 u) (BB D cy (va_A w0 sz) (fun (u : va_W) => u)) (va_A w0 sz)) 0 0 (va_A w0 sz) := by
  refine Met.ofW (cc := cX7_pass) (maxL := 2) (ret := none) (by decide) rfl ?_
  intro p e s m args below meth c s₁ B hml hv
  obtain ⟨rfl, hsz, hP, hK, hD0, hSD⟩ := hv
  have hx := B.exec
  have hb := B.bytes
  have hr := B.returns
  have hlocks := B.notSynchronized
  have hts : ∀ w ∈ gT, w.before _ s = true := fun w h => atoms_spec (ws := Cond.code yX7_pass cX7_pass 2 none :: gT) B.pre w (List.mem_cons_of_mem _ h)
  have hown : s.vm.findClass RX7 = some m.cls := findClass_of_methodNamed B.named
  subst hsz
  have hD := hD0.self (sz := s.heap.size)
  generalize hAe : va_A w0 s.heap.size = A at hD hSD ⊢
  have hA : ∀ q : Nat, s.heap.size ≤ q → A q := fun q h => by rw [← hAe]; exact Or.inr h
  have hl := lv_entry ([.ref p0]) (n := 2) (Nat.le_of_ble_eq_true rfl)
  rw [lg_entry_eq]
  generalize (lg_sl ([.ref p0]) ++ List.replicate (2 - (lg_sl ([.ref p0])).length) Slot.unset).toArray = ls at hl ⊢
  have hl : lv_has ls 2 [(0, .ref p0)] := hl
  refine nameQ (fun Q hQ => ?_)
  have hw : WD D cy GG A s wr_X7_pass wa_X7_pass Ps w0 Ps w0 s.heap [] := ⟨hT, hP, hD, va_S.rf, FR.rf, hT.1, [], (List.append_nil _).symm⟩
  have B142 : ∀ (x1 : Int32) (y0 : Int32) (z0_3 : Int32) (z0_5 : Int32) (z0_6 : Int32) (z0_10 : Int32) (ws : va_W) (H : Heap) (locs : List Loc) (ls : Array Slot), RI x1 (-128) 127 → RI y0 1 62 → RI z0_3 1 940 → FLD ws p0 7 3 (.int z0_3) → RI z0_5 0 939 → FLD ws p0 7 5 (.int z0_5) → RI z0_6 0 939 → FLD ws p0 7 6 (.int z0_6) → RI z0_10 0 0 → FLD ws p0 7 10 (.int z0_10) → WD D cy GG A s wr_X7_pass wa_X7_pass Ps w0 Ps ws H locs → lv_has ls 2 [(0, .ref p0), (1, .int x1)] → W p l e (headSpec (Cond.code yX7_pass cX7_pass 2 none :: gT) ({ frames := 2, cells := 0, slots := 0, locals := 400 } : Room)).room s m ([.ref p0] : List Value).toArray below meth c H locs 0 0 Q (F0 m 142 ls [.int y0, .ref p0]) := by
    intro x1 y0 z0_3 z0_5 z0_6 z0_10 ws H locs ls r_x1 r_y0 r_z0_3 m_z0_3 r_z0_5 m_z0_5 r_z0_6 m_z0_6 r_z0_10 m_z0_10 hw hl
    refine tg_put (ci := 7) (ts := ty_TAPE) (v := .int y0) (ty := .int) (C := RX7) (T := TX7) (N := 12) hx hb hts inX7 tyX7 tyX7_ok nmX7 hown hK hw h_p0 rfl rfl 7 (by decide) (hts _ tw_98) (fun _ h9 => h9) rfl (by decide +kernel) rfl rfl (ft := vI (-2147483648) 2147483647) rfl ⟨_, rfl, (r_y0.to (by decide))⟩ (by decide) dX7_pass_142 (fun ws H locs hw n_k_1 hF9 => ?_)
    have m_z0_3 := FLD.over hF9 m_z0_3 (by decide)
    have m_z0_5 := FLD.over hF9 m_z0_5 (by decide)
    have m_z0_6 := FLD.over hF9 m_z0_6 (by decide)
    have m_z0_10 := FLD.over hF9 m_z0_10 (by decide)
    refine lv_aload_n hx hb dX7_pass_145 rfl (lv_at hl 0 rfl) ?_
    refine lv_dup hx hb dX7_pass_146 rfl ?_
    refine tg_mem (ci := 7) (C := RX7) (T := TX7) (N := 12) hx hb hts inX7 hown hK hw 6 m_z0_6 rfl (by decide) (hts _ tw_94) (fun _ h9 => h9) dX7_pass_147 ?_
    refine lv_iconst (v := 1) hx hb dX7_pass_150 (by decide) ?_
    refine lv_iadd hx hb dX7_pass_151 (lv_topi (fun v_2 e_v_2 => ?_))
    obtain ⟨t_v_2, r_v_2⟩ := tq_add (lo := 1) (hi := 940) r_z0_6 rl_1 (by decide +kernel) e_v_2
    have t_v_2 : v_2.toInt = z0_6.toInt + 1 := t_v_2
    refine tg_put (ci := 7) (ts := ty_TAPE) (v := .int v_2) (ty := .int) (C := RX7) (T := TX7) (N := 12) hx hb hts inX7 tyX7 tyX7_ok nmX7 hown hK hw h_p0 rfl rfl 6 (by decide) (hts _ tw_94) (fun _ h9 => h9) rfl (by decide +kernel) rfl rfl (ft := vI 0 940) rfl ⟨_, rfl, (r_v_2.to (by decide))⟩ (by decide) dX7_pass_152 (fun ws H locs hw n_k_3 hF9 => ?_)
    have m_z0_3 := FLD.over hF9 m_z0_3 (by decide)
    have m_z0_5 := FLD.over hF9 m_z0_5 (by decide)
    have m_z0_10 := FLD.over hF9 m_z0_10 (by decide)
    have n_k_1 := FLD.over hF9 n_k_1 (by decide)
    subst hQ
    exact W.vret hx hb hr (fun t ht hW => ⟨⟨ws, rfl, ⟨trivial, hw.1, hw.2.2.2.2.1⟩, by rw [ht]; exact hw.2.1, va_K.moved hW.alike hK, hw.2.2.1⟩, hw.2.2.2.1.F ht⟩) hw.2.2.2.1.2.2 dX7_pass_155
  have B129 : ∀ (x1 : Int32) (z0_3 : Int32) (z0_5 : Int32) (z0_6 : Int32) (z0_10 : Int32) (ws : va_W) (H : Heap) (locs : List Loc) (ls : Array Slot), RI x1 (-128) 127 → RI z0_3 1 940 → FLD ws p0 7 3 (.int z0_3) → RI z0_5 0 939 → FLD ws p0 7 5 (.int z0_5) → RI z0_6 0 939 → FLD ws p0 7 6 (.int z0_6) → RI z0_10 0 0 → FLD ws p0 7 10 (.int z0_10) → WD D cy GG A s wr_X7_pass wa_X7_pass Ps w0 Ps ws H locs → lv_has ls 2 [(0, .ref p0), (1, .int x1)] → W p l e (headSpec (Cond.code yX7_pass cX7_pass 2 none :: gT) ({ frames := 2, cells := 0, slots := 0, locals := 400 } : Room)).room s m ([.ref p0] : List Value).toArray below meth c H locs 0 0 Q (F0 m 129 ls []) := by
    intro x1 z0_3 z0_5 z0_6 z0_10 ws H locs ls r_x1 r_z0_3 m_z0_3 r_z0_5 m_z0_5 r_z0_6 m_z0_6 r_z0_10 m_z0_10 hw hl
    refine lv_aload_n hx hb dX7_pass_129 rfl (lv_at hl 0 rfl) ?_
    refine lv_iload_n hx hb dX7_pass_130 rfl (lv_at hl 1 rfl) ?_
    refine tk_ir (va_runS (As := [.int x1]) (rest := [.ref p0]) ⟨hx, hb, hml, hown, hts⟩ (c_X7_isSign l D cy z H.size Ps ws hw.1 x1 (r_x1.to (by decide))) (va_cwS 1 hts (gS tw_435 tw_436 tw_2 tw_437) rfl rfl rfl (by decide +kernel) ⟨Nat.le_of_ble_eq_true rfl, Nat.le_of_ble_eq_true rfl⟩) (tg_preS hw hK hSD hA) rfl rfl hl.1 rfl (lv_room (Nat.le_of_ble_eq_true rfl)) dX7_pass_131 ⟨Nat.le_of_ble_eq_true rfl, Nat.le_of_ble_eq_true rfl⟩) hw hA (fun v_4  H locs hp_v_4 hw => ?_)
    have r_v_4 : RI v_4 0 1 := hp_v_4.1
    refine lv_if_eq (tgt := 141) hx hb dX7_pass_134 (by decide) (fun c_134 => ?_) (fun c_134 => ?_)
    · have r_v_4 : RI v_4 0 0 := rc_eq1 r_v_4 rl_0 (ti_eq c_134) (by decide)
      refine lv_iconst (v := 1) hx hb dX7_pass_141 (by decide) ?_
      exact B142 x1 1 z0_3 z0_5 z0_6 z0_10 ws _ _ ls r_x1 (rl_1.to (by decide)) r_z0_3 m_z0_3 r_z0_5 m_z0_5 r_z0_6 m_z0_6 r_z0_10 m_z0_10 hw hl
    · have r_v_4 : RI v_4 1 1 := rc_neL r_v_4 rl_0 (ti_ne c_134) (by decide)
      have r_x1 : RI x1 40 62 := ((hp_v_4.2.2 c_134).1)
      refine lv_iload_n hx hb dX7_pass_137 rfl (lv_at hl 1 rfl) ?_
      refine lv_goto (tgt := 142) hx hb dX7_pass_138 (by decide) ?_
      exact B142 x1 x1 z0_3 z0_5 z0_6 z0_10 ws _ _ ls (r_x1.to (by decide)) (r_x1.to (by decide)) r_z0_3 m_z0_3 r_z0_5 m_z0_5 r_z0_6 m_z0_6 r_z0_10 m_z0_10 hw hl
  have B122 : ∀ (x1 : Int32) (z0_3 : Int32) (z0_5 : Int32) (z0_6 : Int32) (z0_10 : Int32) (ws : va_W) (H : Heap) (locs : List Loc) (ls : Array Slot), RI x1 48 122 → RI z0_3 1 940 → FLD ws p0 7 3 (.int z0_3) → RI z0_5 0 939 → FLD ws p0 7 5 (.int z0_5) → RI z0_6 0 939 → FLD ws p0 7 6 (.int z0_6) → RI z0_10 0 0 → FLD ws p0 7 10 (.int z0_10) → WD D cy GG A s wr_X7_pass wa_X7_pass Ps w0 Ps ws H locs → lv_has ls 2 [(0, .ref p0), (1, .int x1)] → W p l e (headSpec (Cond.code yX7_pass cX7_pass 2 none :: gT) ({ frames := 2, cells := 0, slots := 0, locals := 400 } : Room)).room s m ([.ref p0] : List Value).toArray below meth c H locs 0 0 Q (F0 m 122 ls []) := by
    intro x1 z0_3 z0_5 z0_6 z0_10 ws H locs ls r_x1 r_z0_3 m_z0_3 r_z0_5 m_z0_5 r_z0_6 m_z0_6 r_z0_10 m_z0_10 hw hl
    refine lv_aload_n hx hb dX7_pass_122 rfl (lv_at hl 0 rfl) ?_
    refine tk_v (va_runV (As := []) (rest := []) ⟨hx, hb, hml, hown, hts⟩ (c_X7_readRun l D cy z H.size Ps ws hw.1 p0 h_p0) (cwV 0 hts (gV tw_431 tw_433 ts_0 tw_2 tw_434) rfl rfl rfl (by decide +kernel) ⟨Nat.le_of_ble_eq_true rfl, Nat.le_of_ble_eq_true rfl⟩) (tg_preV hw hK hSD hA (ci := 7) (q := (RX7, TX7, 12)) rfl h_p0 rfl) rfl rfl hl.1 rfl (lv_room (Nat.le_of_ble_eq_true rfl)) dX7_pass_123 ⟨Nat.le_of_ble_eq_true rfl, Nat.le_of_ble_eq_true rfl⟩) hw hA ⟨by decide, by decide⟩ (fun ws H locs hp_v_5 hw hF9 => ?_)
    have m_z0_3 := FLD.over hF9 m_z0_3 (by decide)
    have m_z0_5 := FLD.over hF9 m_z0_5 (by decide)
    have m_z0_10 := FLD.over hF9 m_z0_10 (by decide)
    refine lv_goto (tgt := 155) hx hb dX7_pass_126 (by decide) ?_
    subst hQ
    exact W.vret hx hb hr (fun t ht hW => ⟨⟨ws, rfl, ⟨trivial, hw.1, hw.2.2.2.2.1⟩, by rw [ht]; exact hw.2.1, va_K.moved hW.alike hK, hw.2.2.1⟩, hw.2.2.2.1.F ht⟩) hw.2.2.2.1.2.2 dX7_pass_155
  have B110 : ∀ (x1 : Int32) (z0_3 : Int32) (z0_5 : Int32) (z0_6 : Int32) (z0_10 : Int32) (ws : va_W) (H : Heap) (locs : List Loc) (ls : Array Slot), RI x1 (-128) 127 → RI z0_3 1 940 → FLD ws p0 7 3 (.int z0_3) → RI z0_5 0 939 → FLD ws p0 7 5 (.int z0_5) → RI z0_6 0 939 → FLD ws p0 7 6 (.int z0_6) → RI z0_10 0 0 → FLD ws p0 7 10 (.int z0_10) → WD D cy GG A s wr_X7_pass wa_X7_pass Ps w0 Ps ws H locs → lv_has ls 2 [(0, .ref p0), (1, .int x1)] → W p l e (headSpec (Cond.code yX7_pass cX7_pass 2 none :: gT) ({ frames := 2, cells := 0, slots := 0, locals := 400 } : Room)).room s m ([.ref p0] : List Value).toArray below meth c H locs 0 0 Q (F0 m 110 ls []) := by
    intro x1 z0_3 z0_5 z0_6 z0_10 ws H locs ls r_x1 r_z0_3 m_z0_3 r_z0_5 m_z0_5 r_z0_6 m_z0_6 r_z0_10 m_z0_10 hw hl
    refine lv_iload_n hx hb dX7_pass_110 rfl (lv_at hl 1 rfl) ?_
    refine lv_bipush (v := 48) hx hb dX7_pass_111 (by decide) ?_
    refine lv_icmp_lt (tgt := 129) hx hb dX7_pass_113 (by decide) (fun c_113 => ?_) (fun c_113 => ?_)
    · have r_x1 : RI x1 (-128) 47 := rc_lt1 r_x1 rl_48 (ti_lt c_113) (by decide)
      exact B129 x1 z0_3 z0_5 z0_6 z0_10 ws _ _ ls (r_x1.to (by decide)) r_z0_3 m_z0_3 r_z0_5 m_z0_5 r_z0_6 m_z0_6 r_z0_10 m_z0_10 hw hl
    · have r_x1 : RI x1 48 127 := rc_le2 rl_48 r_x1 (ti_nlt c_113) (by decide)
      refine lv_iload_n hx hb dX7_pass_116 rfl (lv_at hl 1 rfl) ?_
      refine lv_bipush (v := 57) hx hb dX7_pass_117 (by decide) ?_
      refine lv_icmp_gt (tgt := 129) hx hb dX7_pass_119 (by decide) (fun c_119 => ?_) (fun c_119 => ?_)
      · have r_x1 : RI x1 58 127 := rc_lt2 rl_57 r_x1 (ti_lt c_119) (by decide)
        exact B129 x1 z0_3 z0_5 z0_6 z0_10 ws _ _ ls (r_x1.to (by decide)) r_z0_3 m_z0_3 r_z0_5 m_z0_5 r_z0_6 m_z0_6 r_z0_10 m_z0_10 hw hl
      · have r_x1 : RI x1 48 57 := rc_le1 r_x1 rl_57 (ti_nlt c_119) (by decide)
        exact B122 x1 z0_3 z0_5 z0_6 z0_10 ws _ _ ls (r_x1.to (by decide)) r_z0_3 m_z0_3 r_z0_5 m_z0_5 r_z0_6 m_z0_6 r_z0_10 m_z0_10 hw hl
  have B55 : ∀ (z0_5 : Int32) (z0_10 : Int32) (ws : va_W) (H : Heap) (locs : List Loc) (ls : Array Slot), RI z0_5 0 940 → FLD ws p0 7 5 (.int z0_5) → RI z0_10 0 0 → FLD ws p0 7 10 (.int z0_10) → WD D cy GG A s wr_X7_pass wa_X7_pass Ps w0 Ps ws H locs → lv_has ls 2 [(0, .ref p0)] → W p l e (headSpec (Cond.code yX7_pass cX7_pass 2 none :: gT) ({ frames := 2, cells := 0, slots := 0, locals := 400 } : Room)).room s m ([.ref p0] : List Value).toArray below meth c H locs 0 0 Q (F0 m 55 ls []) := by
    intro z0_5 z0_10 ws H locs ls r_z0_5 m_z0_5 r_z0_10 m_z0_10 hw hl
    refine lv_aload_n hx hb dX7_pass_55 rfl (lv_at hl 0 rfl) ?_
    refine tg_mem (ci := 7) (C := RX7) (T := TX7) (N := 12) hx hb hts inX7 hown hK hw 5 m_z0_5 rfl (by decide) (hts _ tw_93) (fun _ h9 => h9) dX7_pass_56 ?_
    refine lv_aload_n hx hb dX7_pass_59 rfl (lv_at hl 0 rfl) ?_
    refine tg_get (ci := 7) (ts := ty_TAPE) (C := RX7) (T := TX7) (N := 12) hx hb hts inX7 hown hK hw h_p0 rfl rfl 3 (by decide) (hts _ tw_91) (fun _ h9 => h9) (ft := vI 0 940) rfl dX7_pass_60 (fun u_6 hv_u_6 m_u_6 => ?_)
    obtain ⟨vu_6, rfl, r_vu_6⟩ := hv_u_6
    refine lv_icmp_lt (tgt := 80) hx hb dX7_pass_63 (by decide) (fun c_63 => ?_) (fun c_63 => ?_)
    · have r_z0_5 : RI z0_5 0 939 := rc_lt1 r_z0_5 r_vu_6 (ti_lt c_63) (by decide)
      have r_vu_6 : RI vu_6 1 940 := rc_lt2 r_z0_5 r_vu_6 (ti_lt c_63) (by decide)
      refine lv_aload_n hx hb dX7_pass_80 rfl (lv_at hl 0 rfl) ?_
      refine tg_get (ci := 7) (ts := ty_TAPE) (C := RX7) (T := TX7) (N := 12) hx hb hts inX7 hown hK hw h_p0 rfl rfl 0 (by decide) (hts _ tw_87) (fun _ h9 => h9) (ft := vR 2) rfl dX7_pass_81 (fun u_7 hv_u_7 m_u_7 => ?_)
      obtain ⟨vu_7, rfl, h_vu_7⟩ := hv_u_7
      refine lv_aload_n hx hb dX7_pass_84 rfl (lv_at hl 0 rfl) ?_
      refine tg_mem (ci := 7) (C := RX7) (T := TX7) (N := 12) hx hb hts inX7 hown hK hw 5 m_z0_5 rfl (by decide) (hts _ tw_93) (fun _ h9 => h9) dX7_pass_85 ?_
      refine tg_bald (lo := (-128)) (hi := 127) hx hb hK hw h_vu_7 rfl 0 939 r_z0_5 (by decide) (by exact fun _ _ _ => ⟨Int.le_refl _, Int.le_refl _⟩) dX7_pass_88 (fun v_8 r_v_8 => ?_)
      refine lv_istore_n (lv' := [(1, .int v_8), (0, .ref p0)]) hx hb dX7_pass_89 rfl hl (by decide) rfl (fun ls hl => ?_)
      refine lv_aload_n hx hb dX7_pass_90 rfl (lv_at hl 1 rfl) ?_
      refine lv_aload_n hx hb dX7_pass_91 rfl (lv_at hl 1 rfl) ?_
      refine tg_mem (ci := 7) (C := RX7) (T := TX7) (N := 12) hx hb hts inX7 hown hK hw 5 m_z0_5 rfl (by decide) (hts _ tw_93) (fun _ h9 => h9) dX7_pass_92 ?_
      refine tg_put (ci := 7) (ts := ty_TAPE) (v := .int z0_5) (ty := .int) (C := RX7) (T := TX7) (N := 12) hx hb hts inX7 tyX7 tyX7_ok nmX7 hown hK hw h_p0 rfl rfl 6 (by decide) (hts _ tw_94) (fun _ h9 => h9) rfl (by decide +kernel) rfl rfl (ft := vI 0 940) rfl ⟨_, rfl, (r_z0_5.to (by decide))⟩ (by decide) dX7_pass_95 (fun ws H locs hw n_k_9 hF9 => ?_)
      have m_z0_5 := FLD.over hF9 m_z0_5 (by decide)
      have m_z0_10 := FLD.over hF9 m_z0_10 (by decide)
      have m_u_6 := FLD.over hF9 m_u_6 (by decide)
      refine lv_iload_n hx hb dX7_pass_98 rfl (lv_at hl 0 rfl) ?_
      refine lv_bipush (v := 97) hx hb dX7_pass_99 (by decide) ?_
      refine lv_icmp_lt (tgt := 110) hx hb dX7_pass_101 (by decide) (fun c_101 => ?_) (fun c_101 => ?_)
      · have r_v_8 : RI v_8 (-128) 96 := rc_lt1 r_v_8 rl_97 (ti_lt c_101) (by decide)
        exact B110 v_8 vu_6 z0_5 z0_5 z0_10 ws _ _ ls (r_v_8.to (by decide)) r_vu_6 m_u_6 r_z0_5 m_z0_5 r_z0_5 n_k_9 r_z0_10 m_z0_10 hw (lv_sub hl [1, 0] rfl)
      · have r_v_8 : RI v_8 97 127 := rc_le2 rl_97 r_v_8 (ti_nlt c_101) (by decide)
        refine lv_iload_n hx hb dX7_pass_104 rfl (lv_at hl 0 rfl) ?_
        refine lv_bipush (v := 122) hx hb dX7_pass_105 (by decide) ?_
        refine lv_icmp_le (tgt := 122) hx hb dX7_pass_107 (by decide) (fun c_107 => ?_) (fun c_107 => ?_)
        · have r_v_8 : RI v_8 97 122 := rc_le1 r_v_8 rl_122 (ti_le c_107) (by decide)
          exact B122 v_8 vu_6 z0_5 z0_5 z0_10 ws _ _ ls (r_v_8.to (by decide)) r_vu_6 m_u_6 r_z0_5 m_z0_5 r_z0_5 n_k_9 r_z0_10 m_z0_10 hw (lv_sub hl [1, 0] rfl)
        · have r_v_8 : RI v_8 123 127 := rc_lt2 rl_122 r_v_8 (ti_nle c_107) (by decide)
          exact B110 v_8 vu_6 z0_5 z0_5 z0_10 ws _ _ ls (r_v_8.to (by decide)) r_vu_6 m_u_6 r_z0_5 m_z0_5 r_z0_5 n_k_9 r_z0_10 m_z0_10 hw (lv_sub hl [1, 0] rfl)
    · refine lv_aload_n hx hb dX7_pass_66 rfl (lv_at hl 0 rfl) ?_
      refine lv_aload_n hx hb dX7_pass_67 rfl (lv_at hl 0 rfl) ?_
      refine tg_mem (ci := 7) (C := RX7) (T := TX7) (N := 12) hx hb hts inX7 hown hK hw 3 m_u_6 rfl (by decide) (hts _ tw_91) (fun _ h9 => h9) dX7_pass_68 ?_
      refine tg_put (ci := 7) (ts := ty_TAPE) (v := .int vu_6) (ty := .int) (C := RX7) (T := TX7) (N := 12) hx hb hts inX7 tyX7 tyX7_ok nmX7 hown hK hw h_p0 rfl rfl 5 (by decide) (hts _ tw_93) (fun _ h9 => h9) rfl (by decide +kernel) rfl rfl (ft := vI 0 940) rfl ⟨_, rfl, r_vu_6⟩ (by decide) dX7_pass_71 (fun ws H locs hw n_k_10 hF9 => ?_)
      have m_z0_10 := FLD.over hF9 m_z0_10 (by decide)
      have m_u_6 := FLD.over hF9 m_u_6 (by decide)
      refine lv_aload_n hx hb dX7_pass_74 rfl (lv_at hl 0 rfl) ?_
      refine lv_iconst (v := 0) hx hb dX7_pass_75 (by decide) ?_
      refine tg_put (ci := 7) (ts := ty_TAPE) (v := .int 0) (ty := .int) (C := RX7) (T := TX7) (N := 12) hx hb hts inX7 tyX7 tyX7_ok nmX7 hown hK hw h_p0 rfl rfl 7 (by decide) (hts _ tw_98) (fun _ h9 => h9) rfl (by decide +kernel) rfl rfl (ft := vI (-2147483648) 2147483647) rfl ⟨_, rfl, (rl_0.to (by decide))⟩ (by decide) dX7_pass_76 (fun ws H locs hw n_k_11 hF9 => ?_)
      have m_z0_10 := FLD.over hF9 m_z0_10 (by decide)
      have m_u_6 := FLD.over hF9 m_u_6 (by decide)
      have n_k_10 := FLD.over hF9 n_k_10 (by decide)
      subst hQ
      exact W.vret hx hb hr (fun t ht hW => ⟨⟨ws, rfl, ⟨trivial, hw.1, hw.2.2.2.2.1⟩, by rw [ht]; exact hw.2.1, va_K.moved hW.alike hK, hw.2.2.1⟩, hw.2.2.2.1.F ht⟩) hw.2.2.2.1.2.2 dX7_pass_79
  have B16 : ∀ (nf : Nat) (z0_5 : Int32) (z0_10 : Int32) (ws : va_W) (H : Heap) (locs : List Loc) (ls : Array Slot), 940 - z0_5.toInt < (nf : Int) → RI z0_5 0 940 → FLD ws p0 7 5 (.int z0_5) → RI z0_10 0 0 → FLD ws p0 7 10 (.int z0_10) → WD D cy GG A s wr_X7_pass wa_X7_pass Ps w0 Ps ws H locs → lv_has ls 2 [(0, .ref p0)] → W p l e (headSpec (Cond.code yX7_pass cX7_pass 2 none :: gT) ({ frames := 2, cells := 0, slots := 0, locals := 400 } : Room)).room s m ([.ref p0] : List Value).toArray below meth c H locs 0 0 Q (F0 m 16 ls []) := by
    intro nf16
    induction nf16 with
    | zero =>
      intro z0_5 z0_10 ws H locs ls hn16 r_z0_5 m_z0_5 r_z0_10 m_z0_10 hw hl
      exact absurd hn16 (by have q0 := r_z0_5.1; have u0 := r_z0_5.2; omega)
    | succ nf16 ih16 =>
      intro z0_5 z0_10 ws H locs ls hn16 r_z0_5 m_z0_5 r_z0_10 m_z0_10 hw hl
      refine lv_aload_n hx hb dX7_pass_16 rfl (lv_at hl 0 rfl) ?_
      refine tg_mem (ci := 7) (C := RX7) (T := TX7) (N := 12) hx hb hts inX7 hown hK hw 5 m_z0_5 rfl (by decide) (hts _ tw_93) (fun _ h9 => h9) dX7_pass_17 ?_
      refine lv_aload_n hx hb dX7_pass_20 rfl (lv_at hl 0 rfl) ?_
      refine tg_get (ci := 7) (ts := ty_TAPE) (C := RX7) (T := TX7) (N := 12) hx hb hts inX7 hown hK hw h_p0 rfl rfl 3 (by decide) (hts _ tw_91) (fun _ h9 => h9) (ft := vI 0 940) rfl dX7_pass_21 (fun u_12 hv_u_12 m_u_12 => ?_)
      obtain ⟨vu_12, rfl, r_vu_12⟩ := hv_u_12
      refine lv_icmp_ge (tgt := 55) hx hb dX7_pass_24 (by decide) (fun c_24 => ?_) (fun c_24 => ?_)
      · exact B55 z0_5 z0_10 ws _ _ ls r_z0_5 m_z0_5 r_z0_10 m_z0_10 hw hl
      · have r_z0_5 : RI z0_5 0 939 := rc_lt1 r_z0_5 r_vu_12 (ti_nle c_24) (by decide)
        have r_vu_12 : RI vu_12 1 940 := rc_lt2 r_z0_5 r_vu_12 (ti_nle c_24) (by decide)
        refine lv_aload_n hx hb dX7_pass_27 rfl (lv_at hl 0 rfl) ?_
        refine tg_get (ci := 7) (ts := ty_TAPE) (C := RX7) (T := TX7) (N := 12) hx hb hts inX7 hown hK hw h_p0 rfl rfl 0 (by decide) (hts _ tw_87) (fun _ h9 => h9) (ft := vR 2) rfl dX7_pass_28 (fun u_13 hv_u_13 m_u_13 => ?_)
        obtain ⟨vu_13, rfl, h_vu_13⟩ := hv_u_13
        refine lv_aload_n hx hb dX7_pass_31 rfl (lv_at hl 0 rfl) ?_
        refine tg_mem (ci := 7) (C := RX7) (T := TX7) (N := 12) hx hb hts inX7 hown hK hw 5 m_z0_5 rfl (by decide) (hts _ tw_93) (fun _ h9 => h9) dX7_pass_32 ?_
        refine tg_bald (lo := (-128)) (hi := 127) hx hb hK hw h_vu_13 rfl 0 939 r_z0_5 (by decide) (by exact fun _ _ _ => ⟨Int.le_refl _, Int.le_refl _⟩) dX7_pass_35 (fun v_14 r_v_14 => ?_)
        refine tk_ir (va_runS (As := [.int v_14]) (rest := []) ⟨hx, hb, hml, hown, hts⟩ (c_X7_isBlank l D cy z H.size Ps ws hw.1 v_14 (r_v_14.to (by decide))) (va_cwS 1 hts (gS tw_428 tw_429 tw_2 tw_430) rfl rfl rfl (by decide +kernel) ⟨Nat.le_of_ble_eq_true rfl, Nat.le_of_ble_eq_true rfl⟩) (tg_preS hw hK hSD hA) rfl rfl hl.1 rfl (lv_room (Nat.le_of_ble_eq_true rfl)) dX7_pass_36 ⟨Nat.le_of_ble_eq_true rfl, Nat.le_of_ble_eq_true rfl⟩) hw hA (fun v_15  H locs hp_v_15 hw => ?_)
        have r_v_15 : RI v_15 0 1 := hp_v_15.1
        refine lv_if_eq (tgt := 55) hx hb dX7_pass_39 (by decide) (fun c_39 => ?_) (fun c_39 => ?_)
        · have r_v_15 : RI v_15 0 0 := rc_eq1 r_v_15 rl_0 (ti_eq c_39) (by decide)
          exact B55 z0_5 z0_10 ws _ _ ls (r_z0_5.to (by decide)) m_z0_5 r_z0_10 m_z0_10 hw hl
        · have r_v_15 : RI v_15 1 1 := rc_neL r_v_15 rl_0 (ti_ne c_39) (by decide)
          have r_v_14 : RI v_14 10 32 := ((hp_v_15.2.2 c_39).1)
          refine lv_aload_n hx hb dX7_pass_42 rfl (lv_at hl 0 rfl) ?_
          refine lv_dup hx hb dX7_pass_43 rfl ?_
          refine tg_mem (ci := 7) (C := RX7) (T := TX7) (N := 12) hx hb hts inX7 hown hK hw 5 m_z0_5 rfl (by decide) (hts _ tw_93) (fun _ h9 => h9) dX7_pass_44 ?_
          refine lv_iconst (v := 1) hx hb dX7_pass_47 (by decide) ?_
          refine lv_iadd hx hb dX7_pass_48 (lv_topi (fun v_16 e_v_16 => ?_))
          obtain ⟨t_v_16, r_v_16⟩ := tq_add (lo := 1) (hi := 940) r_z0_5 rl_1 (by decide +kernel) e_v_16
          have t_v_16 : v_16.toInt = z0_5.toInt + 1 := t_v_16
          refine tg_put (ci := 7) (ts := ty_TAPE) (v := .int v_16) (ty := .int) (C := RX7) (T := TX7) (N := 12) hx hb hts inX7 tyX7 tyX7_ok nmX7 hown hK hw h_p0 rfl rfl 5 (by decide) (hts _ tw_93) (fun _ h9 => h9) rfl (by decide +kernel) rfl rfl (ft := vI 0 940) rfl ⟨_, rfl, (r_v_16.to (by decide))⟩ (by decide) dX7_pass_49 (fun ws H locs hw n_k_17 hF9 => ?_)
          have m_z0_10 := FLD.over hF9 m_z0_10 (by decide)
          have m_u_12 := FLD.over hF9 m_u_12 (by decide)
          refine lv_goto (tgt := 16) hx hb dX7_pass_52 (by decide) ?_
          exact ih16 v_16 z0_10 ws _ _ ls (by have q0 := r_v_16.1; have u0 := r_v_16.2; have o0 := r_z0_5.1; have p0 := r_z0_5.2; omega) (r_v_16.to (by decide)) n_k_17 r_z0_10 m_z0_10 hw hl
  refine lv_aload_n hx hb dX7_pass_0 rfl (lv_at hl 0 rfl) ?_
  refine tg_get (ci := 7) (ts := ty_TAPE) (C := RX7) (T := TX7) (N := 12) hx hb hts inX7 hown hK hw h_p0 rfl rfl 10 (by decide) (hts _ tw_104) (fun _ h9 => h9) (ft := vI 0 4) rfl dX7_pass_1 (fun u_18 hv_u_18 m_u_18 => ?_)
  obtain ⟨vu_18, rfl, r_vu_18⟩ := hv_u_18
  refine lv_if_eq (tgt := 8) hx hb dX7_pass_4 (by decide) (fun c_4 => ?_) (fun c_4 => ?_)
  · have r_vu_18 : RI vu_18 0 0 := rc_eq1 r_vu_18 rl_0 (ti_eq c_4) (by decide)
    refine lv_aload_n hx hb dX7_pass_8 rfl (lv_at hl 0 rfl) ?_
    refine lv_aload_n hx hb dX7_pass_9 rfl (lv_at hl 0 rfl) ?_
    refine tg_get (ci := 7) (ts := ty_TAPE) (C := RX7) (T := TX7) (N := 12) hx hb hts inX7 hown hK hw h_p0 rfl rfl 6 (by decide) (hts _ tw_94) (fun _ h9 => h9) (ft := vI 0 940) rfl dX7_pass_10 (fun u_19 hv_u_19 m_u_19 => ?_)
    obtain ⟨vu_19, rfl, r_vu_19⟩ := hv_u_19
    refine tg_put (ci := 7) (ts := ty_TAPE) (v := .int vu_19) (ty := .int) (C := RX7) (T := TX7) (N := 12) hx hb hts inX7 tyX7 tyX7_ok nmX7 hown hK hw h_p0 rfl rfl 5 (by decide) (hts _ tw_93) (fun _ h9 => h9) rfl (by decide +kernel) rfl rfl (ft := vI 0 940) rfl ⟨_, rfl, r_vu_19⟩ (by decide) dX7_pass_13 (fun ws H locs hw n_k_20 hF9 => ?_)
    have m_u_18 := FLD.over hF9 m_u_18 (by decide)
    have m_u_19 := FLD.over hF9 m_u_19 (by decide)
    exact B16 4294967298 vu_19 vu_18 ws _ _ ls (by have q0 := r_vu_19.1; have u0 := r_vu_19.2; omega) r_vu_19 n_k_20 r_vu_18 m_u_18 hw hl
  · have r_vu_18 : RI vu_18 1 4 := rc_neL r_vu_18 rl_0 (ti_ne c_4) (by decide)
    subst hQ
    exact W.vret hx hb hr (fun t ht hW => ⟨⟨w0, rfl, ⟨trivial, hw.1, hw.2.2.2.2.1⟩, by rw [ht]; exact hw.2.1, va_K.moved hW.alike hK, hw.2.2.1⟩, hw.2.2.2.1.F ht⟩) hw.2.2.2.1.2.2 dX7_pass_7
abbrev wr_X7_startText : List (Nat × Nat) := [(7, 3), (7, 4), (7, 5), (7, 6), (7, 7), (7, 8), (7, 9), (7, 10), (7, 11)]
abbrev wa_X7_startText : List Nat := []
set_option maxHeartbeats 4000000 in
set_option maxRecDepth 100000 in
theorem c_X7_startText (l : Launch) (D : va_G) (cy : Nat → ClassId) (z : Nat → Nat) (sz : Nat) (Ps : PSI) (w0 : va_W) (hT : HT cy GG Ps w0) (p0 : Nat) (p1 : Int32) (h_p0 : (p0, 26) ∈ Ps) (r_p1 : RI p1 900 900) : Met l yX7_startText (Cond.code yX7_startText cX7_startText 2 none :: gT) ({ frames := 3, cells := 0, slots := 0, locals := 600 } : Room) (va_Pc [.ref p0, .int p1] (PRE D cy z w0 sz)) (va_Qv (fun (u : va_W) => ((∃ v9 : Int32, FLD u p0 7 10 (.int v9) ∧ RI v9 0 0) ∧ True) ∧ HT cy GG Ps u ∧ FR wr_X7_startText wa_X7_startText Ps w0 u) (BB D cy (va_A w0 sz) (fun (u : va_W) => u)) (va_A w0 sz)) 0 0 (va_A w0 sz) := by
  refine Met.ofW (cc := cX7_startText) (maxL := 2) (ret := none) (by decide) rfl ?_
  intro p e s m args below meth c s₁ B hml hv
  obtain ⟨rfl, hsz, hP, hK, hD0, hSD⟩ := hv
  have hx := B.exec
  have hb := B.bytes
  have hr := B.returns
  have hlocks := B.notSynchronized
  have hts : ∀ w ∈ gT, w.before _ s = true := fun w h => atoms_spec (ws := Cond.code yX7_startText cX7_startText 2 none :: gT) B.pre w (List.mem_cons_of_mem _ h)
  have hown : s.vm.findClass RX7 = some m.cls := findClass_of_methodNamed B.named
  subst hsz
  have hD := hD0.self (sz := s.heap.size)
  generalize hAe : va_A w0 s.heap.size = A at hD hSD ⊢
  have hA : ∀ q : Nat, s.heap.size ≤ q → A q := fun q h => by rw [← hAe]; exact Or.inr h
  have hl := lv_entry ([.ref p0, .int p1]) (n := 2) (Nat.le_of_ble_eq_true rfl)
  rw [lg_entry_eq]
  generalize (lg_sl ([.ref p0, .int p1]) ++ List.replicate (2 - (lg_sl ([.ref p0, .int p1])).length) Slot.unset).toArray = ls at hl ⊢
  have hl : lv_has ls 2 [(0, .ref p0), (1, .int p1)] := hl
  refine nameQ (fun Q hQ => ?_)
  have hw : WD D cy GG A s wr_X7_startText wa_X7_startText Ps w0 Ps w0 s.heap [] := ⟨hT, hP, hD, va_S.rf, FR.rf, hT.1, [], (List.append_nil _).symm⟩
  have B33 : ∀ (y0 : Int32) (ws : va_W) (H : Heap) (locs : List Loc) (ls : Array Slot), RI p1 900 900 → RI y0 0 940 → WD D cy GG A s wr_X7_startText wa_X7_startText Ps w0 Ps ws H locs → lv_has ls 2 [(0, .ref p0), (1, .int p1)] → W p l e (headSpec (Cond.code yX7_startText cX7_startText 2 none :: gT) ({ frames := 3, cells := 0, slots := 0, locals := 600 } : Room)).room s m ([.ref p0, .int p1] : List Value).toArray below meth c H locs 0 0 Q (F0 m 33 ls [.int y0, .ref p0]) := by
    intro y0 ws H locs ls r_p1 r_y0 hw hl
    refine tg_put (ci := 7) (ts := ty_TAPE) (v := .int y0) (ty := .int) (C := RX7) (T := TX7) (N := 12) hx hb hts inX7 tyX7 tyX7_ok nmX7 hown hK hw h_p0 rfl rfl 3 (by decide) (hts _ tw_91) (fun _ h9 => h9) rfl (by decide +kernel) rfl rfl (ft := vI 0 940) rfl ⟨_, rfl, r_y0⟩ (by decide) dX7_startText_33 (fun ws H locs hw n_k_1 hF9 => ?_)
    refine lv_aload_n hx hb dX7_startText_36 rfl (lv_at hl 0 rfl) ?_
    refine lv_iconst (v := 0) hx hb dX7_startText_37 (by decide) ?_
    refine tg_put (ci := 7) (ts := ty_TAPE) (v := .int 0) (ty := .int) (C := RX7) (T := TX7) (N := 12) hx hb hts inX7 tyX7 tyX7_ok nmX7 hown hK hw h_p0 rfl rfl 6 (by decide) (hts _ tw_94) (fun _ h9 => h9) rfl (by decide +kernel) rfl rfl (ft := vI 0 940) rfl ⟨_, rfl, (rl_0.to (by decide))⟩ (by decide) dX7_startText_38 (fun ws H locs hw n_k_2 hF9 => ?_)
    have n_k_1 := FLD.over hF9 n_k_1 (by decide)
    refine lv_aload_n hx hb dX7_startText_41 rfl (lv_at hl 0 rfl) ?_
    refine lv_iconst (v := 0) hx hb dX7_startText_42 (by decide) ?_
    refine tg_put (ci := 7) (ts := ty_TAPE) (v := .int 0) (ty := .int) (C := RX7) (T := TX7) (N := 12) hx hb hts inX7 tyX7 tyX7_ok nmX7 hown hK hw h_p0 rfl rfl 10 (by decide) (hts _ tw_104) (fun _ h9 => h9) rfl (by decide +kernel) rfl rfl (ft := vI 0 4) rfl ⟨_, rfl, (rl_0.to (by decide))⟩ (by decide) dX7_startText_43 (fun ws H locs hw n_k_3 hF9 => ?_)
    have n_k_1 := FLD.over hF9 n_k_1 (by decide)
    have n_k_2 := FLD.over hF9 n_k_2 (by decide)
    refine lv_aload_n hx hb dX7_startText_46 rfl (lv_at hl 0 rfl) ?_
    refine lv_iconst (v := 0) hx hb dX7_startText_47 (by decide) ?_
    refine tg_put (ci := 7) (ts := ty_TAPE) (v := .int 0) (ty := .int) (C := RX7) (T := TX7) (N := 12) hx hb hts inX7 tyX7 tyX7_ok nmX7 hown hK hw h_p0 rfl rfl 11 (by decide) (hts _ tw_108) (fun _ h9 => h9) rfl (by decide +kernel) rfl rfl (ft := vI (-2147483648) 2147483647) rfl ⟨_, rfl, (rl_0.to (by decide))⟩ (by decide) dX7_startText_48 (fun ws H locs hw n_k_4 hF9 => ?_)
    have n_k_1 := FLD.over hF9 n_k_1 (by decide)
    have n_k_2 := FLD.over hF9 n_k_2 (by decide)
    have n_k_3 := FLD.over hF9 n_k_3 (by decide)
    refine lv_aload_n hx hb dX7_startText_51 rfl (lv_at hl 0 rfl) ?_
    refine tk_v (va_runV (As := []) (rest := []) ⟨hx, hb, hml, hown, hts⟩ (c_X7_pass l D cy z H.size Ps ws hw.1 p0 h_p0) (cwV 0 hts (gV tw_424 tw_425 tw_426 tw_2 tw_427) rfl rfl rfl (by decide +kernel) ⟨Nat.le_of_ble_eq_true rfl, Nat.le_of_ble_eq_true rfl⟩) (tg_preV hw hK hSD hA (ci := 7) (q := (RX7, TX7, 12)) rfl h_p0 rfl) rfl rfl hl.1 rfl (lv_room (Nat.le_of_ble_eq_true rfl)) dX7_startText_52 ⟨Nat.le_of_ble_eq_true rfl, Nat.le_of_ble_eq_true rfl⟩) hw hA ⟨by decide, by decide⟩ (fun ws H locs hp_v_5 hw hF9 => ?_)
    have n_k_1 := FLD.over hF9 n_k_1 (by decide)
    have n_k_3 := FLD.over hF9 n_k_3 (by decide)
    have n_k_4 := FLD.over hF9 n_k_4 (by decide)
    subst hQ
    exact W.vret hx hb hr (fun t ht hW => ⟨⟨ws, rfl, ⟨⟨⟨_, n_k_3, rl_0⟩, trivial⟩, hw.1, hw.2.2.2.2.1⟩, by rw [ht]; exact hw.2.1, va_K.moved hW.alike hK, hw.2.2.1⟩, hw.2.2.2.1.F ht⟩) hw.2.2.2.1.2.2 dX7_startText_55
  have B14 : ∀ (y0 : Int32) (ws : va_W) (H : Heap) (locs : List Loc) (ls : Array Slot), RI p1 900 900 → RI y0 0 1 → WD D cy GG A s wr_X7_startText wa_X7_startText Ps w0 Ps ws H locs → lv_has ls 2 [(0, .ref p0), (1, .int p1)] → W p l e (headSpec (Cond.code yX7_startText cX7_startText 2 none :: gT) ({ frames := 3, cells := 0, slots := 0, locals := 600 } : Room)).room s m ([.ref p0, .int p1] : List Value).toArray below meth c H locs 0 0 Q (F0 m 14 ls [.int y0, .ref p0]) := by
    intro y0 ws H locs ls r_p1 r_y0 hw hl
    refine tg_put (ci := 7) (ts := ty_TAPE) (v := .int y0) (ty := .boolean) (C := RX7) (T := TX7) (N := 12) hx hb hts inX7 tyX7 tyX7_ok nmX7 hown hK hw h_p0 rfl rfl 4 (by decide) (hts _ tw_92) (fun _ h9 => h9) rfl (by decide +kernel) (tq_nz r_y0) (tq_fz r_y0) (ft := vI 0 1) rfl ⟨_, rfl, r_y0⟩ (by decide) dX7_startText_14 (fun ws H locs hw n_k_6 hF9 => ?_)
    refine lv_aload_n hx hb dX7_startText_17 rfl (lv_at hl 0 rfl) ?_
    refine lv_aload_n hx hb dX7_startText_18 rfl (lv_at hl 0 rfl) ?_
    refine tg_mem (ci := 7) (C := RX7) (T := TX7) (N := 12) hx hb hts inX7 hown hK hw 4 n_k_6 rfl (by decide) (hts _ tw_92) (fun _ h9 => h9) dX7_startText_19 ?_
    refine lv_if_eq (tgt := 29) hx hb dX7_startText_22 (by decide) (fun c_22 => ?_) (fun c_22 => ?_)
    · have r_y0 : RI y0 0 0 := rc_eq1 r_y0 rl_0 (ti_eq c_22) (by decide)
      refine lv_aload_n hx hb dX7_startText_29 rfl (lv_at hl 0 rfl) ?_
      refine tg_get (ci := 7) (ts := ty_TAPE) (C := RX7) (T := TX7) (N := 12) hx hb hts inX7 hown hK hw h_p0 rfl rfl 2 (by decide) (hts _ tw_89) (fun _ h9 => h9) (ft := vI 0 940) rfl dX7_startText_30 (fun u_7 hv_u_7 m_u_7 => ?_)
      obtain ⟨vu_7, rfl, r_vu_7⟩ := hv_u_7
      exact B33 vu_7 ws _ _ ls r_p1 r_vu_7 hw hl
    · have r_y0 : RI y0 1 1 := rc_neL r_y0 rl_0 (ti_ne c_22) (by decide)
      refine lv_iload_n hx hb dX7_startText_25 rfl (lv_at hl 1 rfl) ?_
      refine lv_goto (tgt := 33) hx hb dX7_startText_26 (by decide) ?_
      exact B33 p1 ws _ _ ls r_p1 (r_p1.to (by decide)) hw hl
  refine lv_aload_n hx hb dX7_startText_0 rfl (lv_at hl 0 rfl) ?_
  refine lv_aload_n hx hb dX7_startText_1 rfl (lv_at hl 0 rfl) ?_
  refine tg_get (ci := 7) (ts := ty_TAPE) (C := RX7) (T := TX7) (N := 12) hx hb hts inX7 hown hK hw h_p0 rfl rfl 2 (by decide) (hts _ tw_89) (fun _ h9 => h9) (ft := vI 0 940) rfl dX7_startText_2 (fun u_8 hv_u_8 m_u_8 => ?_)
  obtain ⟨vu_8, rfl, r_vu_8⟩ := hv_u_8
  refine lv_iload_n hx hb dX7_startText_5 rfl (lv_at hl 1 rfl) ?_
  refine lv_icmp_le (tgt := 13) hx hb dX7_startText_6 (by decide) (fun c_6 => ?_) (fun c_6 => ?_)
  · have r_vu_8 : RI vu_8 0 900 := rc_le1 r_vu_8 r_p1 (ti_le c_6) (by decide)
    refine lv_iconst (v := 0) hx hb dX7_startText_13 (by decide) ?_
    exact B14 0 w0 _ _ ls r_p1 (rl_0.to (by decide)) hw hl
  · have r_vu_8 : RI vu_8 901 940 := rc_lt2 r_p1 r_vu_8 (ti_nle c_6) (by decide)
    refine lv_iconst (v := 1) hx hb dX7_startText_9 (by decide) ?_
    refine lv_goto (tgt := 14) hx hb dX7_startText_10 (by decide) ?_
    exact B14 1 w0 _ _ ls r_p1 (rl_1.to (by decide)) hw hl
abbrev wr_X7_startText__1 : List (Nat × Nat) := [(7, 3), (7, 4), (7, 5), (7, 6), (7, 7), (7, 8), (7, 9), (7, 10), (7, 11)]
abbrev wa_X7_startText__1 : List Nat := []
set_option maxHeartbeats 4000000 in
set_option maxRecDepth 100000 in
theorem c_X7_startText__1 (l : Launch) (D : va_G) (cy : Nat → ClassId) (z : Nat → Nat) (sz : Nat) (Ps : PSI) (w0 : va_W) (hT : HT cy GG Ps w0) (p0 : Nat) (p1 : Int32) (h_p0 : (p0, 26) ∈ Ps) (r_p1 : RI p1 400 400) : Met l yX7_startText (Cond.code yX7_startText cX7_startText 2 none :: gT) ({ frames := 3, cells := 0, slots := 0, locals := 600 } : Room) (va_Pc [.ref p0, .int p1] (PRE D cy z w0 sz)) (va_Qv (fun (u : va_W) => ((∃ v9 : Int32, FLD u p0 7 10 (.int v9) ∧ RI v9 0 0) ∧ True) ∧ HT cy GG Ps u ∧ FR wr_X7_startText__1 wa_X7_startText__1 Ps w0 u) (BB D cy (va_A w0 sz) (fun (u : va_W) => u)) (va_A w0 sz)) 0 0 (va_A w0 sz) := by
  refine Met.ofW (cc := cX7_startText) (maxL := 2) (ret := none) (by decide) rfl ?_
  intro p e s m args below meth c s₁ B hml hv
  obtain ⟨rfl, hsz, hP, hK, hD0, hSD⟩ := hv
  have hx := B.exec
  have hb := B.bytes
  have hr := B.returns
  have hlocks := B.notSynchronized
  have hts : ∀ w ∈ gT, w.before _ s = true := fun w h => atoms_spec (ws := Cond.code yX7_startText cX7_startText 2 none :: gT) B.pre w (List.mem_cons_of_mem _ h)
  have hown : s.vm.findClass RX7 = some m.cls := findClass_of_methodNamed B.named
  subst hsz
  have hD := hD0.self (sz := s.heap.size)
  generalize hAe : va_A w0 s.heap.size = A at hD hSD ⊢
  have hA : ∀ q : Nat, s.heap.size ≤ q → A q := fun q h => by rw [← hAe]; exact Or.inr h
  have hl := lv_entry ([.ref p0, .int p1]) (n := 2) (Nat.le_of_ble_eq_true rfl)
  rw [lg_entry_eq]
  generalize (lg_sl ([.ref p0, .int p1]) ++ List.replicate (2 - (lg_sl ([.ref p0, .int p1])).length) Slot.unset).toArray = ls at hl ⊢
  have hl : lv_has ls 2 [(0, .ref p0), (1, .int p1)] := hl
  refine nameQ (fun Q hQ => ?_)
  have hw : WD D cy GG A s wr_X7_startText__1 wa_X7_startText__1 Ps w0 Ps w0 s.heap [] := ⟨hT, hP, hD, va_S.rf, FR.rf, hT.1, [], (List.append_nil _).symm⟩
  have B33 : ∀ (y0 : Int32) (ws : va_W) (H : Heap) (locs : List Loc) (ls : Array Slot), RI p1 400 400 → RI y0 0 940 → WD D cy GG A s wr_X7_startText__1 wa_X7_startText__1 Ps w0 Ps ws H locs → lv_has ls 2 [(0, .ref p0), (1, .int p1)] → W p l e (headSpec (Cond.code yX7_startText cX7_startText 2 none :: gT) ({ frames := 3, cells := 0, slots := 0, locals := 600 } : Room)).room s m ([.ref p0, .int p1] : List Value).toArray below meth c H locs 0 0 Q (F0 m 33 ls [.int y0, .ref p0]) := by
    intro y0 ws H locs ls r_p1 r_y0 hw hl
    refine tg_put (ci := 7) (ts := ty_TAPE) (v := .int y0) (ty := .int) (C := RX7) (T := TX7) (N := 12) hx hb hts inX7 tyX7 tyX7_ok nmX7 hown hK hw h_p0 rfl rfl 3 (by decide) (hts _ tw_91) (fun _ h9 => h9) rfl (by decide +kernel) rfl rfl (ft := vI 0 940) rfl ⟨_, rfl, r_y0⟩ (by decide) dX7_startText_33 (fun ws H locs hw n_k_1 hF9 => ?_)
    refine lv_aload_n hx hb dX7_startText_36 rfl (lv_at hl 0 rfl) ?_
    refine lv_iconst (v := 0) hx hb dX7_startText_37 (by decide) ?_
    refine tg_put (ci := 7) (ts := ty_TAPE) (v := .int 0) (ty := .int) (C := RX7) (T := TX7) (N := 12) hx hb hts inX7 tyX7 tyX7_ok nmX7 hown hK hw h_p0 rfl rfl 6 (by decide) (hts _ tw_94) (fun _ h9 => h9) rfl (by decide +kernel) rfl rfl (ft := vI 0 940) rfl ⟨_, rfl, (rl_0.to (by decide))⟩ (by decide) dX7_startText_38 (fun ws H locs hw n_k_2 hF9 => ?_)
    have n_k_1 := FLD.over hF9 n_k_1 (by decide)
    refine lv_aload_n hx hb dX7_startText_41 rfl (lv_at hl 0 rfl) ?_
    refine lv_iconst (v := 0) hx hb dX7_startText_42 (by decide) ?_
    refine tg_put (ci := 7) (ts := ty_TAPE) (v := .int 0) (ty := .int) (C := RX7) (T := TX7) (N := 12) hx hb hts inX7 tyX7 tyX7_ok nmX7 hown hK hw h_p0 rfl rfl 10 (by decide) (hts _ tw_104) (fun _ h9 => h9) rfl (by decide +kernel) rfl rfl (ft := vI 0 4) rfl ⟨_, rfl, (rl_0.to (by decide))⟩ (by decide) dX7_startText_43 (fun ws H locs hw n_k_3 hF9 => ?_)
    have n_k_1 := FLD.over hF9 n_k_1 (by decide)
    have n_k_2 := FLD.over hF9 n_k_2 (by decide)
    refine lv_aload_n hx hb dX7_startText_46 rfl (lv_at hl 0 rfl) ?_
    refine lv_iconst (v := 0) hx hb dX7_startText_47 (by decide) ?_
    refine tg_put (ci := 7) (ts := ty_TAPE) (v := .int 0) (ty := .int) (C := RX7) (T := TX7) (N := 12) hx hb hts inX7 tyX7 tyX7_ok nmX7 hown hK hw h_p0 rfl rfl 11 (by decide) (hts _ tw_108) (fun _ h9 => h9) rfl (by decide +kernel) rfl rfl (ft := vI (-2147483648) 2147483647) rfl ⟨_, rfl, (rl_0.to (by decide))⟩ (by decide) dX7_startText_48 (fun ws H locs hw n_k_4 hF9 => ?_)
    have n_k_1 := FLD.over hF9 n_k_1 (by decide)
    have n_k_2 := FLD.over hF9 n_k_2 (by decide)
    have n_k_3 := FLD.over hF9 n_k_3 (by decide)
    refine lv_aload_n hx hb dX7_startText_51 rfl (lv_at hl 0 rfl) ?_
    refine tk_v (va_runV (As := []) (rest := []) ⟨hx, hb, hml, hown, hts⟩ (c_X7_pass l D cy z H.size Ps ws hw.1 p0 h_p0) (cwV 0 hts (gV tw_424 tw_425 tw_426 tw_2 tw_427) rfl rfl rfl (by decide +kernel) ⟨Nat.le_of_ble_eq_true rfl, Nat.le_of_ble_eq_true rfl⟩) (tg_preV hw hK hSD hA (ci := 7) (q := (RX7, TX7, 12)) rfl h_p0 rfl) rfl rfl hl.1 rfl (lv_room (Nat.le_of_ble_eq_true rfl)) dX7_startText_52 ⟨Nat.le_of_ble_eq_true rfl, Nat.le_of_ble_eq_true rfl⟩) hw hA ⟨by decide, by decide⟩ (fun ws H locs hp_v_5 hw hF9 => ?_)
    have n_k_1 := FLD.over hF9 n_k_1 (by decide)
    have n_k_3 := FLD.over hF9 n_k_3 (by decide)
    have n_k_4 := FLD.over hF9 n_k_4 (by decide)
    subst hQ
    exact W.vret hx hb hr (fun t ht hW => ⟨⟨ws, rfl, ⟨⟨⟨_, n_k_3, rl_0⟩, trivial⟩, hw.1, hw.2.2.2.2.1⟩, by rw [ht]; exact hw.2.1, va_K.moved hW.alike hK, hw.2.2.1⟩, hw.2.2.2.1.F ht⟩) hw.2.2.2.1.2.2 dX7_startText_55
  have B14 : ∀ (y0 : Int32) (ws : va_W) (H : Heap) (locs : List Loc) (ls : Array Slot), RI p1 400 400 → RI y0 0 1 → WD D cy GG A s wr_X7_startText__1 wa_X7_startText__1 Ps w0 Ps ws H locs → lv_has ls 2 [(0, .ref p0), (1, .int p1)] → W p l e (headSpec (Cond.code yX7_startText cX7_startText 2 none :: gT) ({ frames := 3, cells := 0, slots := 0, locals := 600 } : Room)).room s m ([.ref p0, .int p1] : List Value).toArray below meth c H locs 0 0 Q (F0 m 14 ls [.int y0, .ref p0]) := by
    intro y0 ws H locs ls r_p1 r_y0 hw hl
    refine tg_put (ci := 7) (ts := ty_TAPE) (v := .int y0) (ty := .boolean) (C := RX7) (T := TX7) (N := 12) hx hb hts inX7 tyX7 tyX7_ok nmX7 hown hK hw h_p0 rfl rfl 4 (by decide) (hts _ tw_92) (fun _ h9 => h9) rfl (by decide +kernel) (tq_nz r_y0) (tq_fz r_y0) (ft := vI 0 1) rfl ⟨_, rfl, r_y0⟩ (by decide) dX7_startText_14 (fun ws H locs hw n_k_6 hF9 => ?_)
    refine lv_aload_n hx hb dX7_startText_17 rfl (lv_at hl 0 rfl) ?_
    refine lv_aload_n hx hb dX7_startText_18 rfl (lv_at hl 0 rfl) ?_
    refine tg_mem (ci := 7) (C := RX7) (T := TX7) (N := 12) hx hb hts inX7 hown hK hw 4 n_k_6 rfl (by decide) (hts _ tw_92) (fun _ h9 => h9) dX7_startText_19 ?_
    refine lv_if_eq (tgt := 29) hx hb dX7_startText_22 (by decide) (fun c_22 => ?_) (fun c_22 => ?_)
    · have r_y0 : RI y0 0 0 := rc_eq1 r_y0 rl_0 (ti_eq c_22) (by decide)
      refine lv_aload_n hx hb dX7_startText_29 rfl (lv_at hl 0 rfl) ?_
      refine tg_get (ci := 7) (ts := ty_TAPE) (C := RX7) (T := TX7) (N := 12) hx hb hts inX7 hown hK hw h_p0 rfl rfl 2 (by decide) (hts _ tw_89) (fun _ h9 => h9) (ft := vI 0 940) rfl dX7_startText_30 (fun u_7 hv_u_7 m_u_7 => ?_)
      obtain ⟨vu_7, rfl, r_vu_7⟩ := hv_u_7
      exact B33 vu_7 ws _ _ ls r_p1 r_vu_7 hw hl
    · have r_y0 : RI y0 1 1 := rc_neL r_y0 rl_0 (ti_ne c_22) (by decide)
      refine lv_iload_n hx hb dX7_startText_25 rfl (lv_at hl 1 rfl) ?_
      refine lv_goto (tgt := 33) hx hb dX7_startText_26 (by decide) ?_
      exact B33 p1 ws _ _ ls r_p1 (r_p1.to (by decide)) hw hl
  refine lv_aload_n hx hb dX7_startText_0 rfl (lv_at hl 0 rfl) ?_
  refine lv_aload_n hx hb dX7_startText_1 rfl (lv_at hl 0 rfl) ?_
  refine tg_get (ci := 7) (ts := ty_TAPE) (C := RX7) (T := TX7) (N := 12) hx hb hts inX7 hown hK hw h_p0 rfl rfl 2 (by decide) (hts _ tw_89) (fun _ h9 => h9) (ft := vI 0 940) rfl dX7_startText_2 (fun u_8 hv_u_8 m_u_8 => ?_)
  obtain ⟨vu_8, rfl, r_vu_8⟩ := hv_u_8
  refine lv_iload_n hx hb dX7_startText_5 rfl (lv_at hl 1 rfl) ?_
  refine lv_icmp_le (tgt := 13) hx hb dX7_startText_6 (by decide) (fun c_6 => ?_) (fun c_6 => ?_)
  · have r_vu_8 : RI vu_8 0 400 := rc_le1 r_vu_8 r_p1 (ti_le c_6) (by decide)
    refine lv_iconst (v := 0) hx hb dX7_startText_13 (by decide) ?_
    exact B14 0 w0 _ _ ls r_p1 (rl_0.to (by decide)) hw hl
  · have r_vu_8 : RI vu_8 401 940 := rc_lt2 r_p1 r_vu_8 (ti_nle c_6) (by decide)
    refine lv_iconst (v := 1) hx hb dX7_startText_9 (by decide) ?_
    refine lv_goto (tgt := 14) hx hb dX7_startText_10 (by decide) ?_
    exact B14 1 w0 _ _ ls r_p1 (rl_1.to (by decide)) hw hl
abbrev wr_X7_startText__2 : List (Nat × Nat) := [(7, 3), (7, 4), (7, 5), (7, 6), (7, 7), (7, 8), (7, 9), (7, 10), (7, 11)]
abbrev wa_X7_startText__2 : List Nat := []
set_option maxHeartbeats 4000000 in
set_option maxRecDepth 100000 in
theorem c_X7_startText__2 (l : Launch) (D : va_G) (cy : Nat → ClassId) (z : Nat → Nat) (sz : Nat) (Ps : PSI) (w0 : va_W) (hT : HT cy GG Ps w0) (p0 : Nat) (p1 : Int32) (h_p0 : (p0, 26) ∈ Ps) (r_p1 : RI p1 200 200) : Met l yX7_startText (Cond.code yX7_startText cX7_startText 2 none :: gT) ({ frames := 3, cells := 0, slots := 0, locals := 600 } : Room) (va_Pc [.ref p0, .int p1] (PRE D cy z w0 sz)) (va_Qv (fun (u : va_W) => ((∃ v9 : Int32, FLD u p0 7 10 (.int v9) ∧ RI v9 0 0) ∧ True) ∧ HT cy GG Ps u ∧ FR wr_X7_startText__2 wa_X7_startText__2 Ps w0 u) (BB D cy (va_A w0 sz) (fun (u : va_W) => u)) (va_A w0 sz)) 0 0 (va_A w0 sz) := by
  refine Met.ofW (cc := cX7_startText) (maxL := 2) (ret := none) (by decide) rfl ?_
  intro p e s m args below meth c s₁ B hml hv
  obtain ⟨rfl, hsz, hP, hK, hD0, hSD⟩ := hv
  have hx := B.exec
  have hb := B.bytes
  have hr := B.returns
  have hlocks := B.notSynchronized
  have hts : ∀ w ∈ gT, w.before _ s = true := fun w h => atoms_spec (ws := Cond.code yX7_startText cX7_startText 2 none :: gT) B.pre w (List.mem_cons_of_mem _ h)
  have hown : s.vm.findClass RX7 = some m.cls := findClass_of_methodNamed B.named
  subst hsz
  have hD := hD0.self (sz := s.heap.size)
  generalize hAe : va_A w0 s.heap.size = A at hD hSD ⊢
  have hA : ∀ q : Nat, s.heap.size ≤ q → A q := fun q h => by rw [← hAe]; exact Or.inr h
  have hl := lv_entry ([.ref p0, .int p1]) (n := 2) (Nat.le_of_ble_eq_true rfl)
  rw [lg_entry_eq]
  generalize (lg_sl ([.ref p0, .int p1]) ++ List.replicate (2 - (lg_sl ([.ref p0, .int p1])).length) Slot.unset).toArray = ls at hl ⊢
  have hl : lv_has ls 2 [(0, .ref p0), (1, .int p1)] := hl
  refine nameQ (fun Q hQ => ?_)
  have hw : WD D cy GG A s wr_X7_startText__2 wa_X7_startText__2 Ps w0 Ps w0 s.heap [] := ⟨hT, hP, hD, va_S.rf, FR.rf, hT.1, [], (List.append_nil _).symm⟩
  have B33 : ∀ (y0 : Int32) (ws : va_W) (H : Heap) (locs : List Loc) (ls : Array Slot), RI p1 200 200 → RI y0 0 940 → WD D cy GG A s wr_X7_startText__2 wa_X7_startText__2 Ps w0 Ps ws H locs → lv_has ls 2 [(0, .ref p0), (1, .int p1)] → W p l e (headSpec (Cond.code yX7_startText cX7_startText 2 none :: gT) ({ frames := 3, cells := 0, slots := 0, locals := 600 } : Room)).room s m ([.ref p0, .int p1] : List Value).toArray below meth c H locs 0 0 Q (F0 m 33 ls [.int y0, .ref p0]) := by
    intro y0 ws H locs ls r_p1 r_y0 hw hl
    refine tg_put (ci := 7) (ts := ty_TAPE) (v := .int y0) (ty := .int) (C := RX7) (T := TX7) (N := 12) hx hb hts inX7 tyX7 tyX7_ok nmX7 hown hK hw h_p0 rfl rfl 3 (by decide) (hts _ tw_91) (fun _ h9 => h9) rfl (by decide +kernel) rfl rfl (ft := vI 0 940) rfl ⟨_, rfl, r_y0⟩ (by decide) dX7_startText_33 (fun ws H locs hw n_k_1 hF9 => ?_)
    refine lv_aload_n hx hb dX7_startText_36 rfl (lv_at hl 0 rfl) ?_
    refine lv_iconst (v := 0) hx hb dX7_startText_37 (by decide) ?_
    refine tg_put (ci := 7) (ts := ty_TAPE) (v := .int 0) (ty := .int) (C := RX7) (T := TX7) (N := 12) hx hb hts inX7 tyX7 tyX7_ok nmX7 hown hK hw h_p0 rfl rfl 6 (by decide) (hts _ tw_94) (fun _ h9 => h9) rfl (by decide +kernel) rfl rfl (ft := vI 0 940) rfl ⟨_, rfl, (rl_0.to (by decide))⟩ (by decide) dX7_startText_38 (fun ws H locs hw n_k_2 hF9 => ?_)
    have n_k_1 := FLD.over hF9 n_k_1 (by decide)
    refine lv_aload_n hx hb dX7_startText_41 rfl (lv_at hl 0 rfl) ?_
    refine lv_iconst (v := 0) hx hb dX7_startText_42 (by decide) ?_
    refine tg_put (ci := 7) (ts := ty_TAPE) (v := .int 0) (ty := .int) (C := RX7) (T := TX7) (N := 12) hx hb hts inX7 tyX7 tyX7_ok nmX7 hown hK hw h_p0 rfl rfl 10 (by decide) (hts _ tw_104) (fun _ h9 => h9) rfl (by decide +kernel) rfl rfl (ft := vI 0 4) rfl ⟨_, rfl, (rl_0.to (by decide))⟩ (by decide) dX7_startText_43 (fun ws H locs hw n_k_3 hF9 => ?_)
    have n_k_1 := FLD.over hF9 n_k_1 (by decide)
    have n_k_2 := FLD.over hF9 n_k_2 (by decide)
    refine lv_aload_n hx hb dX7_startText_46 rfl (lv_at hl 0 rfl) ?_
    refine lv_iconst (v := 0) hx hb dX7_startText_47 (by decide) ?_
    refine tg_put (ci := 7) (ts := ty_TAPE) (v := .int 0) (ty := .int) (C := RX7) (T := TX7) (N := 12) hx hb hts inX7 tyX7 tyX7_ok nmX7 hown hK hw h_p0 rfl rfl 11 (by decide) (hts _ tw_108) (fun _ h9 => h9) rfl (by decide +kernel) rfl rfl (ft := vI (-2147483648) 2147483647) rfl ⟨_, rfl, (rl_0.to (by decide))⟩ (by decide) dX7_startText_48 (fun ws H locs hw n_k_4 hF9 => ?_)
    have n_k_1 := FLD.over hF9 n_k_1 (by decide)
    have n_k_2 := FLD.over hF9 n_k_2 (by decide)
    have n_k_3 := FLD.over hF9 n_k_3 (by decide)
    refine lv_aload_n hx hb dX7_startText_51 rfl (lv_at hl 0 rfl) ?_
    refine tk_v (va_runV (As := []) (rest := []) ⟨hx, hb, hml, hown, hts⟩ (c_X7_pass l D cy z H.size Ps ws hw.1 p0 h_p0) (cwV 0 hts (gV tw_424 tw_425 tw_426 tw_2 tw_427) rfl rfl rfl (by decide +kernel) ⟨Nat.le_of_ble_eq_true rfl, Nat.le_of_ble_eq_true rfl⟩) (tg_preV hw hK hSD hA (ci := 7) (q := (RX7, TX7, 12)) rfl h_p0 rfl) rfl rfl hl.1 rfl (lv_room (Nat.le_of_ble_eq_true rfl)) dX7_startText_52 ⟨Nat.le_of_ble_eq_true rfl, Nat.le_of_ble_eq_true rfl⟩) hw hA ⟨by decide, by decide⟩ (fun ws H locs hp_v_5 hw hF9 => ?_)
    have n_k_1 := FLD.over hF9 n_k_1 (by decide)
    have n_k_3 := FLD.over hF9 n_k_3 (by decide)
    have n_k_4 := FLD.over hF9 n_k_4 (by decide)
    subst hQ
    exact W.vret hx hb hr (fun t ht hW => ⟨⟨ws, rfl, ⟨⟨⟨_, n_k_3, rl_0⟩, trivial⟩, hw.1, hw.2.2.2.2.1⟩, by rw [ht]; exact hw.2.1, va_K.moved hW.alike hK, hw.2.2.1⟩, hw.2.2.2.1.F ht⟩) hw.2.2.2.1.2.2 dX7_startText_55
  have B14 : ∀ (y0 : Int32) (ws : va_W) (H : Heap) (locs : List Loc) (ls : Array Slot), RI p1 200 200 → RI y0 0 1 → WD D cy GG A s wr_X7_startText__2 wa_X7_startText__2 Ps w0 Ps ws H locs → lv_has ls 2 [(0, .ref p0), (1, .int p1)] → W p l e (headSpec (Cond.code yX7_startText cX7_startText 2 none :: gT) ({ frames := 3, cells := 0, slots := 0, locals := 600 } : Room)).room s m ([.ref p0, .int p1] : List Value).toArray below meth c H locs 0 0 Q (F0 m 14 ls [.int y0, .ref p0]) := by
    intro y0 ws H locs ls r_p1 r_y0 hw hl
    refine tg_put (ci := 7) (ts := ty_TAPE) (v := .int y0) (ty := .boolean) (C := RX7) (T := TX7) (N := 12) hx hb hts inX7 tyX7 tyX7_ok nmX7 hown hK hw h_p0 rfl rfl 4 (by decide) (hts _ tw_92) (fun _ h9 => h9) rfl (by decide +kernel) (tq_nz r_y0) (tq_fz r_y0) (ft := vI 0 1) rfl ⟨_, rfl, r_y0⟩ (by decide) dX7_startText_14 (fun ws H locs hw n_k_6 hF9 => ?_)
    refine lv_aload_n hx hb dX7_startText_17 rfl (lv_at hl 0 rfl) ?_
    refine lv_aload_n hx hb dX7_startText_18 rfl (lv_at hl 0 rfl) ?_
    refine tg_mem (ci := 7) (C := RX7) (T := TX7) (N := 12) hx hb hts inX7 hown hK hw 4 n_k_6 rfl (by decide) (hts _ tw_92) (fun _ h9 => h9) dX7_startText_19 ?_
    refine lv_if_eq (tgt := 29) hx hb dX7_startText_22 (by decide) (fun c_22 => ?_) (fun c_22 => ?_)
    · have r_y0 : RI y0 0 0 := rc_eq1 r_y0 rl_0 (ti_eq c_22) (by decide)
      refine lv_aload_n hx hb dX7_startText_29 rfl (lv_at hl 0 rfl) ?_
      refine tg_get (ci := 7) (ts := ty_TAPE) (C := RX7) (T := TX7) (N := 12) hx hb hts inX7 hown hK hw h_p0 rfl rfl 2 (by decide) (hts _ tw_89) (fun _ h9 => h9) (ft := vI 0 940) rfl dX7_startText_30 (fun u_7 hv_u_7 m_u_7 => ?_)
      obtain ⟨vu_7, rfl, r_vu_7⟩ := hv_u_7
      exact B33 vu_7 ws _ _ ls r_p1 r_vu_7 hw hl
    · have r_y0 : RI y0 1 1 := rc_neL r_y0 rl_0 (ti_ne c_22) (by decide)
      refine lv_iload_n hx hb dX7_startText_25 rfl (lv_at hl 1 rfl) ?_
      refine lv_goto (tgt := 33) hx hb dX7_startText_26 (by decide) ?_
      exact B33 p1 ws _ _ ls r_p1 (r_p1.to (by decide)) hw hl
  refine lv_aload_n hx hb dX7_startText_0 rfl (lv_at hl 0 rfl) ?_
  refine lv_aload_n hx hb dX7_startText_1 rfl (lv_at hl 0 rfl) ?_
  refine tg_get (ci := 7) (ts := ty_TAPE) (C := RX7) (T := TX7) (N := 12) hx hb hts inX7 hown hK hw h_p0 rfl rfl 2 (by decide) (hts _ tw_89) (fun _ h9 => h9) (ft := vI 0 940) rfl dX7_startText_2 (fun u_8 hv_u_8 m_u_8 => ?_)
  obtain ⟨vu_8, rfl, r_vu_8⟩ := hv_u_8
  refine lv_iload_n hx hb dX7_startText_5 rfl (lv_at hl 1 rfl) ?_
  refine lv_icmp_le (tgt := 13) hx hb dX7_startText_6 (by decide) (fun c_6 => ?_) (fun c_6 => ?_)
  · have r_vu_8 : RI vu_8 0 200 := rc_le1 r_vu_8 r_p1 (ti_le c_6) (by decide)
    refine lv_iconst (v := 0) hx hb dX7_startText_13 (by decide) ?_
    exact B14 0 w0 _ _ ls r_p1 (rl_0.to (by decide)) hw hl
  · have r_vu_8 : RI vu_8 201 940 := rc_lt2 r_p1 r_vu_8 (ti_nle c_6) (by decide)
    refine lv_iconst (v := 1) hx hb dX7_startText_9 (by decide) ?_
    refine lv_goto (tgt := 14) hx hb dX7_startText_10 (by decide) ?_
    exact B14 1 w0 _ _ ls r_p1 (rl_1.to (by decide)) hw hl
abbrev wr_X7_at : List (Nat × Nat) := []
abbrev wa_X7_at : List Nat := []
set_option maxHeartbeats 4000000 in
set_option maxRecDepth 100000 in
theorem c_X7_at (l : Launch) (D : va_G) (cy : Nat → ClassId) (z : Nat → Nat) (sz : Nat) (Ps : PSI) (w0 : va_W) (hT : HT cy GG Ps w0) (p0 : Nat) (p1 : Int32) (h_p0 : (p0, 26) ∈ Ps) (r_p1 : RI p1 (-2147483648) 2147483647) : Met l yX7_at (Cond.code yX7_at cX7_at 2 (some .int) :: gT) ({ frames := 0, cells := 0, slots := 0, locals := 200 } : Room) (va_Pc [.ref p0, .int p1] (PRE D cy z w0 sz)) (va_Qi (fun (r : Int32) (u : Unit) => RI r (-1) 255 ∧ (r = 0 → RI p1 0 939 ∧ True) ∧ (¬ r = 0 → True)) (BB D cy (va_A w0 sz) (fun (u : Unit) => w0)) (va_A w0 sz)) 0 0 (va_A w0 sz) := by
  refine Met.ofW (cc := cX7_at) (maxL := 2) (ret := (some .int)) (by decide) rfl ?_
  intro p e s m args below meth c s₁ B hml hv
  obtain ⟨rfl, hsz, hP, hK, hD0, hSD⟩ := hv
  have hx := B.exec
  have hb := B.bytes
  have hr := B.returns
  have hlocks := B.notSynchronized
  have hts : ∀ w ∈ gT, w.before _ s = true := fun w h => atoms_spec (ws := Cond.code yX7_at cX7_at 2 (some .int) :: gT) B.pre w (List.mem_cons_of_mem _ h)
  have hown : s.vm.findClass RX7 = some m.cls := findClass_of_methodNamed B.named
  subst hsz
  have hD := hD0.self (sz := s.heap.size)
  generalize hAe : va_A w0 s.heap.size = A at hD hSD ⊢
  have hA : ∀ q : Nat, s.heap.size ≤ q → A q := fun q h => by rw [← hAe]; exact Or.inr h
  have hl := lv_entry ([.ref p0, .int p1]) (n := 2) (Nat.le_of_ble_eq_true rfl)
  rw [lg_entry_eq]
  generalize (lg_sl ([.ref p0, .int p1]) ++ List.replicate (2 - (lg_sl ([.ref p0, .int p1])).length) Slot.unset).toArray = ls at hl ⊢
  have hl : lv_has ls 2 [(0, .ref p0), (1, .int p1)] := hl
  refine nameQ (fun Q hQ => ?_)
  have hw : WD D cy GG A s wr_X7_at wa_X7_at Ps w0 Ps w0 s.heap [] := ⟨hT, hP, hD, va_S.rf, FR.rf, hT.1, [], (List.append_nil _).symm⟩
  refine lv_iload_n hx hb dX7_at_0 rfl (lv_at hl 1 rfl) ?_
  refine lv_if_lt (tgt := 25) hx hb dX7_at_1 (by decide) (fun c_1 => ?_) (fun c_1 => ?_)
  · have r_p1 : RI p1 (-2147483648) (-1) := rc_lt1 r_p1 rl_0 (ti_lt c_1) (by decide)
    refine lv_iconst (v := (-1)) hx hb dX7_at_25 (by decide) ?_
    subst hQ
    exact W.iret (v := (-1)) hx hb hr (fun t ht hW => ⟨⟨(-1), (), rfl, ⟨rl_m1.to (by decide), (fun h0 => absurd h0 (by decide)), (fun h0 => trivial)⟩, by rw [ht]; exact hw.2.1, va_K.moved hW.alike hK, hw.2.2.1⟩, hw.2.2.2.1.F ht⟩) hw.2.2.2.1.2.2 dX7_at_26
  · have r_p1 : RI p1 0 2147483647 := rc_le2 rl_0 r_p1 (ti_nlt c_1) (by decide)
    refine lv_iload_n hx hb dX7_at_4 rfl (lv_at hl 1 rfl) ?_
    refine lv_aload_n hx hb dX7_at_5 rfl (lv_at hl 0 rfl) ?_
    refine tg_get (ci := 7) (ts := ty_TAPE) (C := RX7) (T := TX7) (N := 12) hx hb hts inX7 hown hK hw h_p0 rfl rfl 2 (by decide) (hts _ tw_89) (fun _ h9 => h9) (ft := vI 0 940) rfl dX7_at_6 (fun u_1 hv_u_1 m_u_1 => ?_)
    obtain ⟨vu_1, rfl, r_vu_1⟩ := hv_u_1
    refine lv_icmp_ge (tgt := 25) hx hb dX7_at_9 (by decide) (fun c_9 => ?_) (fun c_9 => ?_)
    · refine lv_iconst (v := (-1)) hx hb dX7_at_25 (by decide) ?_
      subst hQ
      exact W.iret (v := (-1)) hx hb hr (fun t ht hW => ⟨⟨(-1), (), rfl, ⟨rl_m1.to (by decide), (fun h0 => absurd h0 (by decide)), (fun h0 => trivial)⟩, by rw [ht]; exact hw.2.1, va_K.moved hW.alike hK, hw.2.2.1⟩, hw.2.2.2.1.F ht⟩) hw.2.2.2.1.2.2 dX7_at_26
    · have r_p1 : RI p1 0 939 := rc_lt1 r_p1 r_vu_1 (ti_nle c_9) (by decide)
      have r_vu_1 : RI vu_1 1 940 := rc_lt2 r_p1 r_vu_1 (ti_nle c_9) (by decide)
      refine lv_aload_n hx hb dX7_at_12 rfl (lv_at hl 0 rfl) ?_
      refine tg_get (ci := 7) (ts := ty_TAPE) (C := RX7) (T := TX7) (N := 12) hx hb hts inX7 hown hK hw h_p0 rfl rfl 0 (by decide) (hts _ tw_87) (fun _ h9 => h9) (ft := vR 2) rfl dX7_at_13 (fun u_2 hv_u_2 m_u_2 => ?_)
      obtain ⟨vu_2, rfl, h_vu_2⟩ := hv_u_2
      refine lv_iload_n hx hb dX7_at_16 rfl (lv_at hl 1 rfl) ?_
      refine tg_bald (lo := (-128)) (hi := 127) hx hb hK hw h_vu_2 rfl 0 939 r_p1 (by decide) (by exact fun _ _ _ => ⟨Int.le_refl _, Int.le_refl _⟩) dX7_at_17 (fun v_3 r_v_3 => ?_)
      refine lv_sipush (v := 255) hx hb dX7_at_18 (by decide) ?_
      refine lv_iand hx hb dX7_at_21 (lv_topi (fun v_4 e_v_4 => ?_))
      have r_v_4 : RI v_4 0 255 := by rw [e_v_4]; exact ri_and (d := 255) (rl_255.to (by decide)) (by decide)
      refine lv_goto (tgt := 26) hx hb dX7_at_22 (by decide) ?_
      subst hQ
      exact W.iret (v := v_4) hx hb hr (fun t ht hW => ⟨⟨v_4, (), rfl, ⟨r_v_4.to (by decide), (fun h0 => ⟨r_p1, trivial⟩), (fun h0 => trivial)⟩, by rw [ht]; exact hw.2.1, va_K.moved hW.alike hK, hw.2.2.1⟩, hw.2.2.2.1.F ht⟩) hw.2.2.2.1.2.2 dX7_at_26
abbrev wr_X7_refuse : List (Nat × Nat) := [(7, 10), (7, 11)]
abbrev wa_X7_refuse : List Nat := []
set_option maxHeartbeats 4000000 in
set_option maxRecDepth 100000 in
theorem c_X7_refuse (l : Launch) (D : va_G) (cy : Nat → ClassId) (z : Nat → Nat) (sz : Nat) (Ps : PSI) (w0 : va_W) (hT : HT cy GG Ps w0) (p0 : Nat) (p1 : Int32) (h_p0 : (p0, 26) ∈ Ps) (r_p1 : RI p1 1 4) : Met l yX7_refuse (Cond.code yX7_refuse cX7_refuse 2 none :: gT) ({ frames := 0, cells := 0, slots := 0, locals := 200 } : Room) (va_Pc [.ref p0, .int p1] (PRE D cy z w0 sz)) (va_Qv (fun (u : va_W) => ((∃ v9 : Int32, FLD u p0 7 10 (.int v9) ∧ RI v9 1 4) ∧ True) ∧ HT cy GG Ps u ∧ FR wr_X7_refuse wa_X7_refuse Ps w0 u) (BB D cy (va_A w0 sz) (fun (u : va_W) => u)) (va_A w0 sz)) 0 0 (va_A w0 sz) := by
  refine Met.ofW (cc := cX7_refuse) (maxL := 2) (ret := none) (by decide) rfl ?_
  intro p e s m args below meth c s₁ B hml hv
  obtain ⟨rfl, hsz, hP, hK, hD0, hSD⟩ := hv
  have hx := B.exec
  have hb := B.bytes
  have hr := B.returns
  have hlocks := B.notSynchronized
  have hts : ∀ w ∈ gT, w.before _ s = true := fun w h => atoms_spec (ws := Cond.code yX7_refuse cX7_refuse 2 none :: gT) B.pre w (List.mem_cons_of_mem _ h)
  have hown : s.vm.findClass RX7 = some m.cls := findClass_of_methodNamed B.named
  subst hsz
  have hD := hD0.self (sz := s.heap.size)
  generalize hAe : va_A w0 s.heap.size = A at hD hSD ⊢
  have hA : ∀ q : Nat, s.heap.size ≤ q → A q := fun q h => by rw [← hAe]; exact Or.inr h
  have hl := lv_entry ([.ref p0, .int p1]) (n := 2) (Nat.le_of_ble_eq_true rfl)
  rw [lg_entry_eq]
  generalize (lg_sl ([.ref p0, .int p1]) ++ List.replicate (2 - (lg_sl ([.ref p0, .int p1])).length) Slot.unset).toArray = ls at hl ⊢
  have hl : lv_has ls 2 [(0, .ref p0), (1, .int p1)] := hl
  refine nameQ (fun Q hQ => ?_)
  have hw : WD D cy GG A s wr_X7_refuse wa_X7_refuse Ps w0 Ps w0 s.heap [] := ⟨hT, hP, hD, va_S.rf, FR.rf, hT.1, [], (List.append_nil _).symm⟩
  refine lv_aload_n hx hb dX7_refuse_0 rfl (lv_at hl 0 rfl) ?_
  refine tg_get (ci := 7) (ts := ty_TAPE) (C := RX7) (T := TX7) (N := 12) hx hb hts inX7 hown hK hw h_p0 rfl rfl 10 (by decide) (hts _ tw_104) (fun _ h9 => h9) (ft := vI 0 4) rfl dX7_refuse_1 (fun u_1 hv_u_1 m_u_1 => ?_)
  obtain ⟨vu_1, rfl, r_vu_1⟩ := hv_u_1
  refine lv_if_ne (tgt := 20) hx hb dX7_refuse_4 (by decide) (fun c_4 => ?_) (fun c_4 => ?_)
  · have r_vu_1 : RI vu_1 1 4 := rc_neL r_vu_1 rl_0 (ti_ne c_4) (by decide)
    subst hQ
    exact W.vret hx hb hr (fun t ht hW => ⟨⟨w0, rfl, ⟨⟨⟨_, m_u_1, r_vu_1⟩, trivial⟩, hw.1, hw.2.2.2.2.1⟩, by rw [ht]; exact hw.2.1, va_K.moved hW.alike hK, hw.2.2.1⟩, hw.2.2.2.1.F ht⟩) hw.2.2.2.1.2.2 dX7_refuse_20
  · have r_vu_1 : RI vu_1 0 0 := rc_eq1 r_vu_1 rl_0 (ti_eq c_4) (by decide)
    refine lv_aload_n hx hb dX7_refuse_7 rfl (lv_at hl 0 rfl) ?_
    refine lv_iload_n hx hb dX7_refuse_8 rfl (lv_at hl 1 rfl) ?_
    refine tg_put (ci := 7) (ts := ty_TAPE) (v := .int p1) (ty := .int) (C := RX7) (T := TX7) (N := 12) hx hb hts inX7 tyX7 tyX7_ok nmX7 hown hK hw h_p0 rfl rfl 10 (by decide) (hts _ tw_104) (fun _ h9 => h9) rfl (by decide +kernel) rfl rfl (ft := vI 0 4) rfl ⟨_, rfl, (r_p1.to (by decide))⟩ (by decide) dX7_refuse_9 (fun ws H locs hw n_k_2 hF9 => ?_)
    refine lv_aload_n hx hb dX7_refuse_12 rfl (lv_at hl 0 rfl) ?_
    refine lv_aload_n hx hb dX7_refuse_13 rfl (lv_at hl 0 rfl) ?_
    refine tg_get (ci := 7) (ts := ty_TAPE) (C := RX7) (T := TX7) (N := 12) hx hb hts inX7 hown hK hw h_p0 rfl rfl 5 (by decide) (hts _ tw_93) (fun _ h9 => h9) (ft := vI 0 940) rfl dX7_refuse_14 (fun u_3 hv_u_3 m_u_3 => ?_)
    obtain ⟨vu_3, rfl, r_vu_3⟩ := hv_u_3
    refine tg_put (ci := 7) (ts := ty_TAPE) (v := .int vu_3) (ty := .int) (C := RX7) (T := TX7) (N := 12) hx hb hts inX7 tyX7 tyX7_ok nmX7 hown hK hw h_p0 rfl rfl 11 (by decide) (hts _ tw_108) (fun _ h9 => h9) rfl (by decide +kernel) rfl rfl (ft := vI (-2147483648) 2147483647) rfl ⟨_, rfl, (r_vu_3.to (by decide))⟩ (by decide) dX7_refuse_17 (fun ws H locs hw n_k_4 hF9 => ?_)
    have n_k_2 := FLD.over hF9 n_k_2 (by decide)
    have m_u_3 := FLD.over hF9 m_u_3 (by decide)
    subst hQ
    exact W.vret hx hb hr (fun t ht hW => ⟨⟨ws, rfl, ⟨⟨⟨_, n_k_2, r_p1⟩, trivial⟩, hw.1, hw.2.2.2.2.1⟩, by rw [ht]; exact hw.2.1, va_K.moved hW.alike hK, hw.2.2.1⟩, hw.2.2.2.1.F ht⟩) hw.2.2.2.1.2.2 dX7_refuse_20
abbrev wr_X7_goesOn : List (Nat × Nat) := [(7, 10), (7, 11)]
abbrev wa_X7_goesOn : List Nat := []
set_option maxHeartbeats 4000000 in
set_option maxRecDepth 100000 in
theorem c_X7_goesOn (l : Launch) (D : va_G) (cy : Nat → ClassId) (z : Nat → Nat) (sz : Nat) (Ps : PSI) (w0 : va_W) (hT : HT cy GG Ps w0) (p0 : Nat) (h_p0 : (p0, 26) ∈ Ps) : Met l yX7_goesOn (Cond.code yX7_goesOn cX7_goesOn 1 (some .boolean) :: gT) ({ frames := 2, cells := 0, slots := 0, locals := 400 } : Room) (va_Pc [.ref p0] (PRE D cy z w0 sz)) (va_Qi (fun (r : Int32) (u : va_W) => (RI r 0 1 ∧ (r = 0 → True) ∧ (¬ r = 0 → (∃ v9 : Int32, FLD u p0 7 10 (.int v9) ∧ RI v9 0 0) ∧ True)) ∧ HT cy GG Ps u ∧ FR wr_X7_goesOn wa_X7_goesOn Ps w0 u) (BB D cy (va_A w0 sz) (fun (u : va_W) => u)) (va_A w0 sz)) 0 0 (va_A w0 sz) := by
  refine Met.ofW (cc := cX7_goesOn) (maxL := 1) (ret := (some .boolean)) (by decide) rfl ?_
  intro p e s m args below meth c s₁ B hml hv
  obtain ⟨rfl, hsz, hP, hK, hD0, hSD⟩ := hv
  have hx := B.exec
  have hb := B.bytes
  have hr := B.returns
  have hlocks := B.notSynchronized
  have hts : ∀ w ∈ gT, w.before _ s = true := fun w h => atoms_spec (ws := Cond.code yX7_goesOn cX7_goesOn 1 (some .boolean) :: gT) B.pre w (List.mem_cons_of_mem _ h)
  have hown : s.vm.findClass RX7 = some m.cls := findClass_of_methodNamed B.named
  subst hsz
  have hD := hD0.self (sz := s.heap.size)
  generalize hAe : va_A w0 s.heap.size = A at hD hSD ⊢
  have hA : ∀ q : Nat, s.heap.size ≤ q → A q := fun q h => by rw [← hAe]; exact Or.inr h
  have hl := lv_entry ([.ref p0]) (n := 1) (Nat.le_of_ble_eq_true rfl)
  rw [lg_entry_eq]
  generalize (lg_sl ([.ref p0]) ++ List.replicate (1 - (lg_sl ([.ref p0])).length) Slot.unset).toArray = ls at hl ⊢
  have hl : lv_has ls 1 [(0, .ref p0)] := hl
  refine nameQ (fun Q hQ => ?_)
  have hw : WD D cy GG A s wr_X7_goesOn wa_X7_goesOn Ps w0 Ps w0 s.heap [] := ⟨hT, hP, hD, va_S.rf, FR.rf, hT.1, [], (List.append_nil _).symm⟩
  have B19 : ∀ (ws : va_W) (H : Heap) (locs : List Loc) (ls : Array Slot), WD D cy GG A s wr_X7_goesOn wa_X7_goesOn Ps w0 Ps ws H locs → lv_has ls 1 [(0, .ref p0)] → W p l e (headSpec (Cond.code yX7_goesOn cX7_goesOn 1 (some .boolean) :: gT) ({ frames := 2, cells := 0, slots := 0, locals := 400 } : Room)).room s m ([.ref p0] : List Value).toArray below meth c H locs 0 0 Q (F0 m 19 ls []) := by
    intro  ws H locs ls  hw hl
    refine lv_aload_n hx hb dX7_goesOn_19 rfl (lv_at hl 0 rfl) ?_
    refine tg_get (ci := 7) (ts := ty_TAPE) (C := RX7) (T := TX7) (N := 12) hx hb hts inX7 hown hK hw h_p0 rfl rfl 10 (by decide) (hts _ tw_104) (fun _ h9 => h9) (ft := vI 0 4) rfl dX7_goesOn_20 (fun u_1 hv_u_1 m_u_1 => ?_)
    obtain ⟨vu_1, rfl, r_vu_1⟩ := hv_u_1
    refine lv_if_ne (tgt := 37) hx hb dX7_goesOn_23 (by decide) (fun c_23 => ?_) (fun c_23 => ?_)
    · have r_vu_1 : RI vu_1 1 4 := rc_neL r_vu_1 rl_0 (ti_ne c_23) (by decide)
      refine lv_iconst (v := 0) hx hb dX7_goesOn_37 (by decide) ?_
      subst hQ
      exact W.zret (v := 0) hx hb hr (rfl) (fun t ht hW => ⟨⟨0, ws, rfl, ⟨⟨rl_0.to (by decide), (fun h0 => trivial), (fun h0 => absurd rfl h0)⟩, hw.1, hw.2.2.2.2.1⟩, by rw [ht]; exact hw.2.1, va_K.moved hW.alike hK, hw.2.2.1⟩, hw.2.2.2.1.F ht⟩) hw.2.2.2.1.2.2 dX7_goesOn_38
    · have r_vu_1 : RI vu_1 0 0 := rc_eq1 r_vu_1 rl_0 (ti_eq c_23) (by decide)
      refine lv_aload_n hx hb dX7_goesOn_26 rfl (lv_at hl 0 rfl) ?_
      refine tg_get (ci := 7) (ts := ty_TAPE) (C := RX7) (T := TX7) (N := 12) hx hb hts inX7 hown hK hw h_p0 rfl rfl 7 (by decide) (hts _ tw_98) (fun _ h9 => h9) (ft := vI (-2147483648) 2147483647) rfl dX7_goesOn_27 (fun u_2 hv_u_2 m_u_2 => ?_)
      obtain ⟨vu_2, rfl, r_vu_2⟩ := hv_u_2
      refine lv_if_eq (tgt := 37) hx hb dX7_goesOn_30 (by decide) (fun c_30 => ?_) (fun c_30 => ?_)
      · have r_vu_2 : RI vu_2 0 0 := rc_eq1 r_vu_2 rl_0 (ti_eq c_30) (by decide)
        refine lv_iconst (v := 0) hx hb dX7_goesOn_37 (by decide) ?_
        subst hQ
        exact W.zret (v := 0) hx hb hr (rfl) (fun t ht hW => ⟨⟨0, ws, rfl, ⟨⟨rl_0.to (by decide), (fun h0 => trivial), (fun h0 => absurd rfl h0)⟩, hw.1, hw.2.2.2.2.1⟩, by rw [ht]; exact hw.2.1, va_K.moved hW.alike hK, hw.2.2.1⟩, hw.2.2.2.1.F ht⟩) hw.2.2.2.1.2.2 dX7_goesOn_38
      · refine lv_iconst (v := 1) hx hb dX7_goesOn_33 (by decide) ?_
        refine lv_goto (tgt := 38) hx hb dX7_goesOn_34 (by decide) ?_
        subst hQ
        exact W.zret (v := 1) hx hb hr (rfl) (fun t ht hW => ⟨⟨1, ws, rfl, ⟨⟨rl_1.to (by decide), (fun _ => trivial), (fun h0 => ⟨⟨_, m_u_1, r_vu_1⟩, trivial⟩)⟩, hw.1, hw.2.2.2.2.1⟩, by rw [ht]; exact hw.2.1, va_K.moved hW.alike hK, hw.2.2.1⟩, hw.2.2.2.1.F ht⟩) hw.2.2.2.1.2.2 dX7_goesOn_38
  refine lv_aload_n hx hb dX7_goesOn_0 rfl (lv_at hl 0 rfl) ?_
  refine tg_get (ci := 7) (ts := ty_TAPE) (C := RX7) (T := TX7) (N := 12) hx hb hts inX7 hown hK hw h_p0 rfl rfl 7 (by decide) (hts _ tw_98) (fun _ h9 => h9) (ft := vI (-2147483648) 2147483647) rfl dX7_goesOn_1 (fun u_3 hv_u_3 m_u_3 => ?_)
  obtain ⟨vu_3, rfl, r_vu_3⟩ := hv_u_3
  refine lv_if_ne (tgt := 19) hx hb dX7_goesOn_4 (by decide) (fun c_4 => ?_) (fun c_4 => ?_)
  · exact B19  w0 _ _ ls  hw hl
  · have r_vu_3 : RI vu_3 0 0 := rc_eq1 r_vu_3 rl_0 (ti_eq c_4) (by decide)
    refine lv_aload_n hx hb dX7_goesOn_7 rfl (lv_at hl 0 rfl) ?_
    refine tg_get (ci := 7) (ts := ty_TAPE) (C := RX7) (T := TX7) (N := 12) hx hb hts inX7 hown hK hw h_p0 rfl rfl 4 (by decide) (hts _ tw_92) (fun _ h9 => h9) (ft := vI 0 1) rfl dX7_goesOn_8 (fun u_4 hv_u_4 m_u_4 => ?_)
    obtain ⟨vu_4, rfl, r_vu_4⟩ := hv_u_4
    refine lv_if_eq (tgt := 19) hx hb dX7_goesOn_11 (by decide) (fun c_11 => ?_) (fun c_11 => ?_)
    · have r_vu_4 : RI vu_4 0 0 := rc_eq1 r_vu_4 rl_0 (ti_eq c_11) (by decide)
      exact B19  w0 _ _ ls  hw hl
    · have r_vu_4 : RI vu_4 1 1 := rc_neL r_vu_4 rl_0 (ti_ne c_11) (by decide)
      refine lv_aload_n hx hb dX7_goesOn_14 rfl (lv_at hl 0 rfl) ?_
      refine lv_iconst (v := 1) hx hb dX7_goesOn_15 (by decide) ?_
      refine tk_v (va_runV (As := [.int 1]) (rest := []) ⟨hx, hb, hml, hown, hts⟩ (c_X7_refuse l D cy z s.heap.size Ps w0 hw.1 p0 1 h_p0 (rl_1.to (by decide))) (cwV 1 hts (gV tw_442 tw_443 tw_444 tw_2 tw_445) rfl rfl rfl (by decide +kernel) ⟨Nat.le_of_ble_eq_true rfl, Nat.le_of_ble_eq_true rfl⟩) (tg_preV hw hK hSD hA (ci := 7) (q := (RX7, TX7, 12)) rfl h_p0 rfl) rfl rfl hl.1 rfl (lv_room (Nat.le_of_ble_eq_true rfl)) dX7_goesOn_16 ⟨Nat.le_of_ble_eq_true rfl, Nat.le_of_ble_eq_true rfl⟩) hw hA ⟨by decide, by decide⟩ (fun ws H locs hp_v_5 hw hF9 => ?_)
      have m_u_3 := FLD.over hF9 m_u_3 (by decide)
      have m_u_4 := FLD.over hF9 m_u_4 (by decide)
      obtain ⟨v_6, m_v_6, r_v_6⟩ := (hp_v_5.1)
      exact B19  ws _ _ ls  hw hl
abbrev wr_X7_hasPlaceForTwenty : List (Nat × Nat) := []
abbrev wa_X7_hasPlaceForTwenty : List Nat := []
set_option maxHeartbeats 4000000 in
set_option maxRecDepth 100000 in
theorem c_X7_hasPlaceForTwenty (l : Launch) (D : va_G) (cy : Nat → ClassId) (z : Nat → Nat) (sz : Nat) (Ps : PSI) (w0 : va_W) (hT : HT cy GG Ps w0) (p0 : Nat) (h_p0 : (p0, 26) ∈ Ps) : Met l yX7_hasPlaceForTwenty (Cond.code yX7_hasPlaceForTwenty cX7_hasPlaceForTwenty 1 (some .boolean) :: gT) ({ frames := 0, cells := 0, slots := 0, locals := 200 } : Room) (va_Pc [.ref p0] (PRE D cy z w0 sz)) (va_Qi (fun (r : Int32) (u : Unit) => RI r 0 1 ∧ (r = 0 → True) ∧ (¬ r = 0 → True)) (BB D cy (va_A w0 sz) (fun (u : Unit) => w0)) (va_A w0 sz)) 0 0 (va_A w0 sz) := by
  refine Met.ofW (cc := cX7_hasPlaceForTwenty) (maxL := 1) (ret := (some .boolean)) (by decide) rfl ?_
  intro p e s m args below meth c s₁ B hml hv
  obtain ⟨rfl, hsz, hP, hK, hD0, hSD⟩ := hv
  have hx := B.exec
  have hb := B.bytes
  have hr := B.returns
  have hlocks := B.notSynchronized
  have hts : ∀ w ∈ gT, w.before _ s = true := fun w h => atoms_spec (ws := Cond.code yX7_hasPlaceForTwenty cX7_hasPlaceForTwenty 1 (some .boolean) :: gT) B.pre w (List.mem_cons_of_mem _ h)
  have hown : s.vm.findClass RX7 = some m.cls := findClass_of_methodNamed B.named
  subst hsz
  have hD := hD0.self (sz := s.heap.size)
  generalize hAe : va_A w0 s.heap.size = A at hD hSD ⊢
  have hA : ∀ q : Nat, s.heap.size ≤ q → A q := fun q h => by rw [← hAe]; exact Or.inr h
  have hl := lv_entry ([.ref p0]) (n := 1) (Nat.le_of_ble_eq_true rfl)
  rw [lg_entry_eq]
  generalize (lg_sl ([.ref p0]) ++ List.replicate (1 - (lg_sl ([.ref p0])).length) Slot.unset).toArray = ls at hl ⊢
  have hl : lv_has ls 1 [(0, .ref p0)] := hl
  refine nameQ (fun Q hQ => ?_)
  have hw : WD D cy GG A s wr_X7_hasPlaceForTwenty wa_X7_hasPlaceForTwenty Ps w0 Ps w0 s.heap [] := ⟨hT, hP, hD, va_S.rf, FR.rf, hT.1, [], (List.append_nil _).symm⟩
  refine lv_aload_n hx hb dX7_hasPlaceForTwenty_0 rfl (lv_at hl 0 rfl) ?_
  refine tg_get (ci := 7) (ts := ty_TAPE) (C := RX7) (T := TX7) (N := 12) hx hb hts inX7 hown hK hw h_p0 rfl rfl 2 (by decide) (hts _ tw_89) (fun _ h9 => h9) (ft := vI 0 940) rfl dX7_hasPlaceForTwenty_1 (fun u_1 hv_u_1 m_u_1 => ?_)
  obtain ⟨vu_1, rfl, r_vu_1⟩ := hv_u_1
  refine lv_bipush (v := 20) hx hb dX7_hasPlaceForTwenty_4 (by decide) ?_
  refine lv_iadd hx hb dX7_hasPlaceForTwenty_6 (lv_topi (fun v_2 e_v_2 => ?_))
  obtain ⟨t_v_2, r_v_2⟩ := tq_add (lo := 20) (hi := 960) r_vu_1 rl_20 (by decide +kernel) e_v_2
  have t_v_2 : v_2.toInt = vu_1.toInt + 20 := t_v_2
  refine lv_aload_n hx hb dX7_hasPlaceForTwenty_7 rfl (lv_at hl 0 rfl) ?_
  refine tg_get (ci := 7) (ts := ty_TAPE) (C := RX7) (T := TX7) (N := 12) hx hb hts inX7 hown hK hw h_p0 rfl rfl 0 (by decide) (hts _ tw_87) (fun _ h9 => h9) (ft := vR 2) rfl dX7_hasPlaceForTwenty_8 (fun u_3 hv_u_3 m_u_3 => ?_)
  obtain ⟨vu_3, rfl, h_vu_3⟩ := hv_u_3
  refine tg_alenI (t0 := 0) (v := 940) hx hb hK hw h_vu_3 rfl rfl rfl dX7_hasPlaceForTwenty_11 ?_
  refine lv_icmp_gt (tgt := 19) hx hb dX7_hasPlaceForTwenty_12 (by decide) (fun c_12 => ?_) (fun c_12 => ?_)
  · have r_v_2 : RI v_2 941 960 := rc_lt2 rl_940 r_v_2 (ti_lt c_12) (by decide)
    have r_vu_1 : RI vu_1 921 940 := ⟨by have k1 := r_v_2.1; have k2 := r_vu_1.1; omega, by have k1 := r_v_2.2; have k2 := r_vu_1.2; omega⟩
    refine lv_iconst (v := 0) hx hb dX7_hasPlaceForTwenty_19 (by decide) ?_
    subst hQ
    exact W.zret (v := 0) hx hb hr (rfl) (fun t ht hW => ⟨⟨0, (), rfl, ⟨rl_0.to (by decide), (fun h0 => trivial), (fun _ => trivial)⟩, by rw [ht]; exact hw.2.1, va_K.moved hW.alike hK, hw.2.2.1⟩, hw.2.2.2.1.F ht⟩) hw.2.2.2.1.2.2 dX7_hasPlaceForTwenty_20
  · have r_v_2 : RI v_2 20 940 := rc_le1 r_v_2 rl_940 (ti_nlt c_12) (by decide)
    have r_vu_1 : RI vu_1 0 920 := ⟨by have k1 := r_v_2.1; have k2 := r_vu_1.1; omega, by have k1 := r_v_2.2; have k2 := r_vu_1.2; omega⟩
    refine lv_iconst (v := 1) hx hb dX7_hasPlaceForTwenty_15 (by decide) ?_
    refine lv_goto (tgt := 20) hx hb dX7_hasPlaceForTwenty_16 (by decide) ?_
    subst hQ
    exact W.zret (v := 1) hx hb hr (rfl) (fun t ht hW => ⟨⟨1, (), rfl, ⟨rl_1.to (by decide), (fun _ => trivial), (fun h0 => trivial)⟩, by rw [ht]; exact hw.2.1, va_K.moved hW.alike hK, hw.2.2.1⟩, hw.2.2.2.1.F ht⟩) hw.2.2.2.1.2.2 dX7_hasPlaceForTwenty_20
abbrev wr_X7_passOnly : List (Nat × Nat) := [(7, 5), (7, 6), (7, 7), (7, 8), (7, 9), (7, 10), (7, 11)]
abbrev wa_X7_passOnly : List Nat := []
set_option maxHeartbeats 4000000 in
set_option maxRecDepth 100000 in
theorem c_X7_passOnly (l : Launch) (D : va_G) (cy : Nat → ClassId) (z : Nat → Nat) (sz : Nat) (Ps : PSI) (w0 : va_W) (hT : HT cy GG Ps w0) (p0 : Nat) (p1 : Int32) (h_p0 : (p0, 26) ∈ Ps) (r_p1 : RI p1 (-2147483648) 2147483647) : Met l yX7_passOnly (Cond.code yX7_passOnly cX7_passOnly 2 none :: gT) ({ frames := 3, cells := 0, slots := 0, locals := 600 } : Room) (va_Pc [.ref p0, .int p1] (PRE D cy z w0 sz)) (va_Qv (fun (u : va_W) => (True) ∧ HT cy GG Ps u ∧ FR wr_X7_passOnly wa_X7_passOnly Ps w0 u) (BB D cy (va_A w0 sz) (fun (u : va_W) => u)) (va_A w0 sz)) 0 0 (va_A w0 sz) := by
  refine Met.ofW (cc := cX7_passOnly) (maxL := 2) (ret := none) (by decide) rfl ?_
  intro p e s m args below meth c s₁ B hml hv
  obtain ⟨rfl, hsz, hP, hK, hD0, hSD⟩ := hv
  have hx := B.exec
  have hb := B.bytes
  have hr := B.returns
  have hlocks := B.notSynchronized
  have hts : ∀ w ∈ gT, w.before _ s = true := fun w h => atoms_spec (ws := Cond.code yX7_passOnly cX7_passOnly 2 none :: gT) B.pre w (List.mem_cons_of_mem _ h)
  have hown : s.vm.findClass RX7 = some m.cls := findClass_of_methodNamed B.named
  subst hsz
  have hD := hD0.self (sz := s.heap.size)
  generalize hAe : va_A w0 s.heap.size = A at hD hSD ⊢
  have hA : ∀ q : Nat, s.heap.size ≤ q → A q := fun q h => by rw [← hAe]; exact Or.inr h
  have hl := lv_entry ([.ref p0, .int p1]) (n := 2) (Nat.le_of_ble_eq_true rfl)
  rw [lg_entry_eq]
  generalize (lg_sl ([.ref p0, .int p1]) ++ List.replicate (2 - (lg_sl ([.ref p0, .int p1])).length) Slot.unset).toArray = ls at hl ⊢
  have hl : lv_has ls 2 [(0, .ref p0), (1, .int p1)] := hl
  refine nameQ (fun Q hQ => ?_)
  have hw : WD D cy GG A s wr_X7_passOnly wa_X7_passOnly Ps w0 Ps w0 s.heap [] := ⟨hT, hP, hD, va_S.rf, FR.rf, hT.1, [], (List.append_nil _).symm⟩
  have B13 : ∀ (ws : va_W) (H : Heap) (locs : List Loc) (ls : Array Slot), RI p1 (-2147483648) 2147483647 → WD D cy GG A s wr_X7_passOnly wa_X7_passOnly Ps w0 Ps ws H locs → lv_has ls 2 [(0, .ref p0), (1, .int p1)] → W p l e (headSpec (Cond.code yX7_passOnly cX7_passOnly 2 none :: gT) ({ frames := 3, cells := 0, slots := 0, locals := 600 } : Room)).room s m ([.ref p0, .int p1] : List Value).toArray below meth c H locs 0 0 Q (F0 m 13 ls []) := by
    intro  ws H locs ls r_p1 hw hl
    refine lv_aload_n hx hb dX7_passOnly_13 rfl (lv_at hl 0 rfl) ?_
    refine tk_v (va_runV (As := []) (rest := []) ⟨hx, hb, hml, hown, hts⟩ (c_X7_pass l D cy z H.size Ps ws hw.1 p0 h_p0) (cwV 0 hts (gV tw_424 tw_425 tw_426 tw_2 tw_427) rfl rfl rfl (by decide +kernel) ⟨Nat.le_of_ble_eq_true rfl, Nat.le_of_ble_eq_true rfl⟩) (tg_preV hw hK hSD hA (ci := 7) (q := (RX7, TX7, 12)) rfl h_p0 rfl) rfl rfl hl.1 rfl (lv_room (Nat.le_of_ble_eq_true rfl)) dX7_passOnly_14 ⟨Nat.le_of_ble_eq_true rfl, Nat.le_of_ble_eq_true rfl⟩) hw hA ⟨by decide, by decide⟩ (fun ws H locs hp_v_1 hw hF9 => ?_)
    subst hQ
    exact W.vret hx hb hr (fun t ht hW => ⟨⟨ws, rfl, ⟨trivial, hw.1, hw.2.2.2.2.1⟩, by rw [ht]; exact hw.2.1, va_K.moved hW.alike hK, hw.2.2.1⟩, hw.2.2.2.1.F ht⟩) hw.2.2.2.1.2.2 dX7_passOnly_17
  refine lv_aload_n hx hb dX7_passOnly_0 rfl (lv_at hl 0 rfl) ?_
  refine tg_get (ci := 7) (ts := ty_TAPE) (C := RX7) (T := TX7) (N := 12) hx hb hts inX7 hown hK hw h_p0 rfl rfl 7 (by decide) (hts _ tw_98) (fun _ h9 => h9) (ft := vI (-2147483648) 2147483647) rfl dX7_passOnly_1 (fun u_2 hv_u_2 m_u_2 => ?_)
  obtain ⟨vu_2, rfl, r_vu_2⟩ := hv_u_2
  refine lv_iload_n hx hb dX7_passOnly_4 rfl (lv_at hl 1 rfl) ?_
  refine lv_icmp_eq (tgt := 13) hx hb dX7_passOnly_5 (by decide) (fun c_5 => ?_) (fun c_5 => ?_)
  · exact B13  w0 _ _ ls r_p1 hw hl
  · refine lv_aload_n hx hb dX7_passOnly_8 rfl (lv_at hl 0 rfl) ?_
    refine lv_iconst (v := 1) hx hb dX7_passOnly_9 (by decide) ?_
    refine tk_v (va_runV (As := [.int 1]) (rest := []) ⟨hx, hb, hml, hown, hts⟩ (c_X7_refuse l D cy z s.heap.size Ps w0 hw.1 p0 1 h_p0 (rl_1.to (by decide))) (cwV 1 hts (gV tw_442 tw_443 tw_444 tw_2 tw_445) rfl rfl rfl (by decide +kernel) ⟨Nat.le_of_ble_eq_true rfl, Nat.le_of_ble_eq_true rfl⟩) (tg_preV hw hK hSD hA (ci := 7) (q := (RX7, TX7, 12)) rfl h_p0 rfl) rfl rfl hl.1 rfl (lv_room (Nat.le_of_ble_eq_true rfl)) dX7_passOnly_10 ⟨Nat.le_of_ble_eq_true rfl, Nat.le_of_ble_eq_true rfl⟩) hw hA ⟨by decide, by decide⟩ (fun ws H locs hp_v_3 hw hF9 => ?_)
    have m_u_2 := FLD.over hF9 m_u_2 (by decide)
    obtain ⟨v_4, m_v_4, r_v_4⟩ := (hp_v_3.1)
    exact B13  ws _ _ ls r_p1 hw hl
abbrev wr_X7_putFour : List (Nat × Nat) := [(7, 2)]
abbrev wa_X7_putFour : List Nat := [2]
set_option maxHeartbeats 4000000 in
set_option maxRecDepth 100000 in
theorem c_X7_putFour (l : Launch) (D : va_G) (cy : Nat → ClassId) (z : Nat → Nat) (sz : Nat) (Ps : PSI) (w0 : va_W) (hT : HT cy GG Ps w0) (p0 : Nat) (p1 : Int32) (h_p0 : (p0, 26) ∈ Ps) (r_p1 : RI p1 (-2147483648) 2147483647) : Met l yX7_putFour (Cond.code yX7_putFour cX7_putFour 3 none :: gT) ({ frames := 0, cells := 0, slots := 0, locals := 200 } : Room) (va_Pc [.ref p0, .int p1] (PRE D cy z w0 sz)) (va_Qv (fun (u : va_W) => (True) ∧ HT cy GG Ps u ∧ FR wr_X7_putFour wa_X7_putFour Ps w0 u) (BB D cy (va_A w0 sz) (fun (u : va_W) => u)) (va_A w0 sz)) 0 0 (va_A w0 sz) := by
  refine Met.ofW (cc := cX7_putFour) (maxL := 3) (ret := none) (by decide) rfl ?_
  intro p e s m args below meth c s₁ B hml hv
  obtain ⟨rfl, hsz, hP, hK, hD0, hSD⟩ := hv
  have hx := B.exec
  have hb := B.bytes
  have hr := B.returns
  have hlocks := B.notSynchronized
  have hts : ∀ w ∈ gT, w.before _ s = true := fun w h => atoms_spec (ws := Cond.code yX7_putFour cX7_putFour 3 none :: gT) B.pre w (List.mem_cons_of_mem _ h)
  have hown : s.vm.findClass RX7 = some m.cls := findClass_of_methodNamed B.named
  subst hsz
  have hD := hD0.self (sz := s.heap.size)
  generalize hAe : va_A w0 s.heap.size = A at hD hSD ⊢
  have hA : ∀ q : Nat, s.heap.size ≤ q → A q := fun q h => by rw [← hAe]; exact Or.inr h
  have hl := lv_entry ([.ref p0, .int p1]) (n := 3) (Nat.le_of_ble_eq_true rfl)
  rw [lg_entry_eq]
  generalize (lg_sl ([.ref p0, .int p1]) ++ List.replicate (3 - (lg_sl ([.ref p0, .int p1])).length) Slot.unset).toArray = ls at hl ⊢
  have hl : lv_has ls 3 [(0, .ref p0), (1, .int p1)] := hl
  refine nameQ (fun Q hQ => ?_)
  have hw : WD D cy GG A s wr_X7_putFour wa_X7_putFour Ps w0 Ps w0 s.heap [] := ⟨hT, hP, hD, va_S.rf, FR.rf, hT.1, [], (List.append_nil _).symm⟩
  have B3 : ∀ (nf : Nat) (x2 : Int32) (ws : va_W) (H : Heap) (locs : List Loc) (ls : Array Slot), x2.toInt - (-8) < (nf : Int) → RI p1 (-2147483648) 2147483647 → RI x2 (-8) 24 → WD D cy GG A s wr_X7_putFour wa_X7_putFour Ps w0 Ps ws H locs → lv_has ls 3 [(0, .ref p0), (1, .int p1), (2, .int x2)] → W p l e (headSpec (Cond.code yX7_putFour cX7_putFour 3 none :: gT) ({ frames := 0, cells := 0, slots := 0, locals := 200 } : Room)).room s m ([.ref p0, .int p1] : List Value).toArray below meth c H locs 0 0 Q (F0 m 3 ls []) := by
    intro nf3
    induction nf3 with
    | zero =>
      intro x2 ws H locs ls hn3 r_p1 r_x2 hw hl
      exact absurd hn3 (by have q0 := r_x2.1; have u0 := r_x2.2; omega)
    | succ nf3 ih3 =>
      intro x2 ws H locs ls hn3 r_p1 r_x2 hw hl
      refine lv_iload_n hx hb dX7_putFour_3 rfl (lv_at hl 2 rfl) ?_
      refine lv_if_lt (tgt := 48) hx hb dX7_putFour_4 (by decide) (fun c_4 => ?_) (fun c_4 => ?_)
      · have r_x2 : RI x2 (-8) (-1) := rc_lt1 r_x2 rl_0 (ti_lt c_4) (by decide)
        subst hQ
        exact W.vret hx hb hr (fun t ht hW => ⟨⟨ws, rfl, ⟨trivial, hw.1, hw.2.2.2.2.1⟩, by rw [ht]; exact hw.2.1, va_K.moved hW.alike hK, hw.2.2.1⟩, hw.2.2.2.1.F ht⟩) hw.2.2.2.1.2.2 dX7_putFour_48
      · have r_x2 : RI x2 0 24 := rc_le2 rl_0 r_x2 (ti_nlt c_4) (by decide)
        refine lv_aload_n hx hb dX7_putFour_7 rfl (lv_at hl 0 rfl) ?_
        refine tg_get (ci := 7) (ts := ty_TAPE) (C := RX7) (T := TX7) (N := 12) hx hb hts inX7 hown hK hw h_p0 rfl rfl 2 (by decide) (hts _ tw_89) (fun _ h9 => h9) (ft := vI 0 940) rfl dX7_putFour_8 (fun u_1 hv_u_1 m_u_1 => ?_)
        obtain ⟨vu_1, rfl, r_vu_1⟩ := hv_u_1
        refine lv_aload_n hx hb dX7_putFour_11 rfl (lv_at hl 0 rfl) ?_
        refine tg_get (ci := 7) (ts := ty_TAPE) (C := RX7) (T := TX7) (N := 12) hx hb hts inX7 hown hK hw h_p0 rfl rfl 0 (by decide) (hts _ tw_87) (fun _ h9 => h9) (ft := vR 2) rfl dX7_putFour_12 (fun u_2 hv_u_2 m_u_2 => ?_)
        obtain ⟨vu_2, rfl, h_vu_2⟩ := hv_u_2
        refine tg_alenI (t0 := 0) (v := 940) hx hb hK hw h_vu_2 rfl rfl rfl dX7_putFour_15 ?_
        refine lv_icmp_ge (tgt := 48) hx hb dX7_putFour_16 (by decide) (fun c_16 => ?_) (fun c_16 => ?_)
        · have r_vu_1 : RI vu_1 940 940 := rc_le2 rl_940 r_vu_1 (ti_le c_16) (by decide)
          subst hQ
          exact W.vret hx hb hr (fun t ht hW => ⟨⟨ws, rfl, ⟨trivial, hw.1, hw.2.2.2.2.1⟩, by rw [ht]; exact hw.2.1, va_K.moved hW.alike hK, hw.2.2.1⟩, hw.2.2.2.1.F ht⟩) hw.2.2.2.1.2.2 dX7_putFour_48
        · have r_vu_1 : RI vu_1 0 939 := rc_lt1 r_vu_1 rl_940 (ti_nle c_16) (by decide)
          refine lv_aload_n hx hb dX7_putFour_19 rfl (lv_at hl 0 rfl) ?_
          refine tg_mem (ci := 7) (C := RX7) (T := TX7) (N := 12) hx hb hts inX7 hown hK hw 0 m_u_2 rfl (by decide) (hts _ tw_87) (fun _ h9 => h9) dX7_putFour_20 ?_
          refine lv_aload_n hx hb dX7_putFour_23 rfl (lv_at hl 0 rfl) ?_
          refine tg_mem (ci := 7) (C := RX7) (T := TX7) (N := 12) hx hb hts inX7 hown hK hw 2 m_u_1 rfl (by decide) (hts _ tw_89) (fun _ h9 => h9) dX7_putFour_24 ?_
          refine lv_iload_n hx hb dX7_putFour_27 rfl (lv_at hl 1 rfl) ?_
          refine lv_iload_n hx hb dX7_putFour_28 rfl (lv_at hl 2 rfl) ?_
          obtain ⟨v_3, e_v_3⟩ : ∃ q9 : Int32, (Int32.toUInt32 p1 >>> (Int32.toUInt32 x2 &&& Int32.toUInt32 31)).toInt32 = q9 := ⟨_, rfl⟩
          refine lv_iushr (v := v_3) hx hb dX7_putFour_29 e_v_3 ?_
          have r_v_3 := ri_any v_3
          obtain ⟨v_4, e_v_4⟩ : ∃ q9 : Int32, (fun x9 : Int32 => x9.toInt8.toInt32) v_3 = q9 := ⟨_, rfl⟩
          refine lv_i2b (v := v_4) hx hb dX7_putFour_30 e_v_4 ?_
          have r_v_4 : RI v_4 (-128) 127 := by rw [← e_v_4]; exact ri_i2b _
          refine tg_bast hx hb hK hw h_vu_2 rfl 0 939 r_vu_1 (by decide) (by decide) dX7_putFour_31 (fun ws H locs hw hF9 => ?_)
          have m_u_1 := FLD.over hF9 m_u_1 (by decide)
          refine lv_aload_n hx hb dX7_putFour_32 rfl (lv_at hl 0 rfl) ?_
          refine lv_dup hx hb dX7_putFour_33 rfl ?_
          refine tg_mem (ci := 7) (C := RX7) (T := TX7) (N := 12) hx hb hts inX7 hown hK hw 2 m_u_1 rfl (by decide) (hts _ tw_89) (fun _ h9 => h9) dX7_putFour_34 ?_
          refine lv_iconst (v := 1) hx hb dX7_putFour_37 (by decide) ?_
          refine lv_iadd hx hb dX7_putFour_38 (lv_topi (fun v_5 e_v_5 => ?_))
          obtain ⟨t_v_5, r_v_5⟩ := tq_add (lo := 1) (hi := 940) r_vu_1 rl_1 (by decide +kernel) e_v_5
          have t_v_5 : v_5.toInt = vu_1.toInt + 1 := t_v_5
          refine tg_put (ci := 7) (ts := ty_TAPE) (v := .int v_5) (ty := .int) (C := RX7) (T := TX7) (N := 12) hx hb hts inX7 tyX7 tyX7_ok nmX7 hown hK hw h_p0 rfl rfl 2 (by decide) (hts _ tw_89) (fun _ h9 => h9) rfl (by decide +kernel) rfl rfl (ft := vI 0 940) rfl ⟨_, rfl, (r_v_5.to (by decide))⟩ (by decide) dX7_putFour_39 (fun ws H locs hw n_k_6 hF9 => ?_)
          obtain ⟨v_7, e_v_7⟩ : ∃ q9 : Int32, q9 = x2 + Int32.ofInt (-8) := ⟨_, rfl⟩
          obtain ⟨t_v_7, r_v_7⟩ := tq_add (lo := (-8)) (hi := 16) r_x2 (show RI (Int32.ofInt (-8)) (-8) (-8) by unfold RI; decide +kernel) (by decide +kernel) e_v_7
          have t_v_7 : v_7.toInt = x2.toInt + (-8) := t_v_7
          refine lv_iinc (v := v_7) (lv' := [(2, .int v_7), (0, .ref p0), (1, .int p1)]) hx hb dX7_putFour_42 hl (k := 2) rfl e_v_7.symm (by decide) rfl (fun ls hl => ?_)
          refine lv_goto (tgt := 3) hx hb dX7_putFour_45 (by decide) ?_
          exact ih3 v_7 ws _ _ ls (by have q0 := r_v_7.1; have u0 := r_v_7.2; have o0 := r_x2.1; have p0 := r_x2.2; omega) r_p1 (r_v_7.to (by decide)) hw (lv_sub hl [1, 2, 0] rfl)
  refine lv_bipush (v := 24) hx hb dX7_putFour_0 (by decide) ?_
  refine lv_istore_n (lv' := [(2, .int 24), (0, .ref p0), (1, .int p1)]) hx hb dX7_putFour_2 rfl hl (by decide) rfl (fun ls hl => ?_)
  exact B3 4294967298 24 w0 _ _ ls (by have q0 := rl_24.1; have u0 := rl_24.2; omega) r_p1 (rl_24.to (by decide)) hw (lv_sub hl [1, 2, 0] rfl)
abbrev wr_X7_sees : List (Nat × Nat) := []
abbrev wa_X7_sees : List Nat := []
set_option maxHeartbeats 4000000 in
set_option maxRecDepth 100000 in
theorem c_X7_sees (l : Launch) (D : va_G) (cy : Nat → ClassId) (z : Nat → Nat) (sz : Nat) (Ps : PSI) (w0 : va_W) (hT : HT cy GG Ps w0) (p0 : Nat) (p1 : Int32) (h_p0 : (p0, 26) ∈ Ps) (r_p1 : RI p1 (-2147483648) 2147483647) : Met l yX7_sees (Cond.code yX7_sees cX7_sees 2 (some .boolean) :: gT) ({ frames := 0, cells := 0, slots := 0, locals := 200 } : Room) (va_Pc [.ref p0, .int p1] (PRE D cy z w0 sz)) (va_Qi (fun (r : Int32) (u : Unit) => RI r 0 1 ∧ (r = 0 → True) ∧ (¬ r = 0 → True)) (BB D cy (va_A w0 sz) (fun (u : Unit) => w0)) (va_A w0 sz)) 0 0 (va_A w0 sz) := by
  refine Met.ofW (cc := cX7_sees) (maxL := 2) (ret := (some .boolean)) (by decide) rfl ?_
  intro p e s m args below meth c s₁ B hml hv
  obtain ⟨rfl, hsz, hP, hK, hD0, hSD⟩ := hv
  have hx := B.exec
  have hb := B.bytes
  have hr := B.returns
  have hlocks := B.notSynchronized
  have hts : ∀ w ∈ gT, w.before _ s = true := fun w h => atoms_spec (ws := Cond.code yX7_sees cX7_sees 2 (some .boolean) :: gT) B.pre w (List.mem_cons_of_mem _ h)
  have hown : s.vm.findClass RX7 = some m.cls := findClass_of_methodNamed B.named
  subst hsz
  have hD := hD0.self (sz := s.heap.size)
  generalize hAe : va_A w0 s.heap.size = A at hD hSD ⊢
  have hA : ∀ q : Nat, s.heap.size ≤ q → A q := fun q h => by rw [← hAe]; exact Or.inr h
  have hl := lv_entry ([.ref p0, .int p1]) (n := 2) (Nat.le_of_ble_eq_true rfl)
  rw [lg_entry_eq]
  generalize (lg_sl ([.ref p0, .int p1]) ++ List.replicate (2 - (lg_sl ([.ref p0, .int p1])).length) Slot.unset).toArray = ls at hl ⊢
  have hl : lv_has ls 2 [(0, .ref p0), (1, .int p1)] := hl
  refine nameQ (fun Q hQ => ?_)
  have hw : WD D cy GG A s wr_X7_sees wa_X7_sees Ps w0 Ps w0 s.heap [] := ⟨hT, hP, hD, va_S.rf, FR.rf, hT.1, [], (List.append_nil _).symm⟩
  refine lv_aload_n hx hb dX7_sees_0 rfl (lv_at hl 0 rfl) ?_
  refine tg_get (ci := 7) (ts := ty_TAPE) (C := RX7) (T := TX7) (N := 12) hx hb hts inX7 hown hK hw h_p0 rfl rfl 10 (by decide) (hts _ tw_104) (fun _ h9 => h9) (ft := vI 0 4) rfl dX7_sees_1 (fun u_1 hv_u_1 m_u_1 => ?_)
  obtain ⟨vu_1, rfl, r_vu_1⟩ := hv_u_1
  refine lv_if_ne (tgt := 19) hx hb dX7_sees_4 (by decide) (fun c_4 => ?_) (fun c_4 => ?_)
  · have r_vu_1 : RI vu_1 1 4 := rc_neL r_vu_1 rl_0 (ti_ne c_4) (by decide)
    refine lv_iconst (v := 0) hx hb dX7_sees_19 (by decide) ?_
    subst hQ
    exact W.zret (v := 0) hx hb hr (rfl) (fun t ht hW => ⟨⟨0, (), rfl, ⟨rl_0.to (by decide), (fun h0 => trivial), (fun _ => trivial)⟩, by rw [ht]; exact hw.2.1, va_K.moved hW.alike hK, hw.2.2.1⟩, hw.2.2.2.1.F ht⟩) hw.2.2.2.1.2.2 dX7_sees_20
  · have r_vu_1 : RI vu_1 0 0 := rc_eq1 r_vu_1 rl_0 (ti_eq c_4) (by decide)
    refine lv_aload_n hx hb dX7_sees_7 rfl (lv_at hl 0 rfl) ?_
    refine tg_get (ci := 7) (ts := ty_TAPE) (C := RX7) (T := TX7) (N := 12) hx hb hts inX7 hown hK hw h_p0 rfl rfl 7 (by decide) (hts _ tw_98) (fun _ h9 => h9) (ft := vI (-2147483648) 2147483647) rfl dX7_sees_8 (fun u_2 hv_u_2 m_u_2 => ?_)
    obtain ⟨vu_2, rfl, r_vu_2⟩ := hv_u_2
    refine lv_iload_n hx hb dX7_sees_11 rfl (lv_at hl 1 rfl) ?_
    refine lv_icmp_ne (tgt := 19) hx hb dX7_sees_12 (by decide) (fun c_12 => ?_) (fun c_12 => ?_)
    · refine lv_iconst (v := 0) hx hb dX7_sees_19 (by decide) ?_
      subst hQ
      exact W.zret (v := 0) hx hb hr (rfl) (fun t ht hW => ⟨⟨0, (), rfl, ⟨rl_0.to (by decide), (fun h0 => trivial), (fun _ => trivial)⟩, by rw [ht]; exact hw.2.1, va_K.moved hW.alike hK, hw.2.2.1⟩, hw.2.2.2.1.F ht⟩) hw.2.2.2.1.2.2 dX7_sees_20
    · refine lv_iconst (v := 1) hx hb dX7_sees_15 (by decide) ?_
      refine lv_goto (tgt := 20) hx hb dX7_sees_16 (by decide) ?_
      subst hQ
      exact W.zret (v := 1) hx hb hr (rfl) (fun t ht hW => ⟨⟨1, (), rfl, ⟨rl_1.to (by decide), (fun _ => trivial), (fun h0 => trivial)⟩, by rw [ht]; exact hw.2.1, va_K.moved hW.alike hK, hw.2.2.1⟩, hw.2.2.2.1.F ht⟩) hw.2.2.2.1.2.2 dX7_sees_20
abbrev wr_X7_takeNumber : List (Nat × Nat) := [(7, 5), (7, 6), (7, 7), (7, 8), (7, 9), (7, 10), (7, 11)]
abbrev wa_X7_takeNumber : List Nat := []
set_option maxHeartbeats 4000000 in
set_option maxRecDepth 100000 in
theorem c_X7_takeNumber (l : Launch) (D : va_G) (cy : Nat → ClassId) (z : Nat → Nat) (sz : Nat) (Ps : PSI) (w0 : va_W) (hT : HT cy GG Ps w0) (p0 : Nat) (p1 : Int32) (p2 : Int32) (h_p0 : (p0, 26) ∈ Ps) (r_p1 : RI p1 (-2147483648) 2147483647) (r_p2 : RI p2 (-2147483648) 2147483647) : Met l yX7_takeNumber (Cond.code yX7_takeNumber cX7_takeNumber 4 (some .int) :: gT) ({ frames := 3, cells := 0, slots := 0, locals := 600 } : Room) (va_Pc [.ref p0, .int p1, .int p2] (PRE D cy z w0 sz)) (va_Qi (fun (r : Int32) (u : va_W) => (RI r (-2147483648) 2147483647 ∧ (r = 0 → True) ∧ (¬ r = 0 → True)) ∧ HT cy GG Ps u ∧ FR wr_X7_takeNumber wa_X7_takeNumber Ps w0 u) (BB D cy (va_A w0 sz) (fun (u : va_W) => u)) (va_A w0 sz)) 0 0 (va_A w0 sz) := by
  refine Met.ofW (cc := cX7_takeNumber) (maxL := 4) (ret := (some .int)) (by decide) rfl ?_
  intro p e s m args below meth c s₁ B hml hv
  obtain ⟨rfl, hsz, hP, hK, hD0, hSD⟩ := hv
  have hx := B.exec
  have hb := B.bytes
  have hr := B.returns
  have hlocks := B.notSynchronized
  have hts : ∀ w ∈ gT, w.before _ s = true := fun w h => atoms_spec (ws := Cond.code yX7_takeNumber cX7_takeNumber 4 (some .int) :: gT) B.pre w (List.mem_cons_of_mem _ h)
  have hown : s.vm.findClass RX7 = some m.cls := findClass_of_methodNamed B.named
  subst hsz
  have hD := hD0.self (sz := s.heap.size)
  generalize hAe : va_A w0 s.heap.size = A at hD hSD ⊢
  have hA : ∀ q : Nat, s.heap.size ≤ q → A q := fun q h => by rw [← hAe]; exact Or.inr h
  have hl := lv_entry ([.ref p0, .int p1, .int p2]) (n := 4) (Nat.le_of_ble_eq_true rfl)
  rw [lg_entry_eq]
  generalize (lg_sl ([.ref p0, .int p1, .int p2]) ++ List.replicate (4 - (lg_sl ([.ref p0, .int p1, .int p2])).length) Slot.unset).toArray = ls at hl ⊢
  have hl : lv_has ls 4 [(0, .ref p0), (1, .int p1), (2, .int p2)] := hl
  refine nameQ (fun Q hQ => ?_)
  have hw : WD D cy GG A s wr_X7_takeNumber wa_X7_takeNumber Ps w0 Ps w0 s.heap [] := ⟨hT, hP, hD, va_S.rf, FR.rf, hT.1, [], (List.append_nil _).symm⟩
  have B36 : ∀ (x3 : Int32) (ws : va_W) (H : Heap) (locs : List Loc) (ls : Array Slot), RI p1 (-2147483648) 2147483647 → RI p2 (-2147483648) 2147483647 → RI x3 (-2147483648) 2147483647 → WD D cy GG A s wr_X7_takeNumber wa_X7_takeNumber Ps w0 Ps ws H locs → lv_has ls 4 [(0, .ref p0), (1, .int p1), (2, .int p2), (3, .int x3)] → W p l e (headSpec (Cond.code yX7_takeNumber cX7_takeNumber 4 (some .int) :: gT) ({ frames := 3, cells := 0, slots := 0, locals := 600 } : Room)).room s m ([.ref p0, .int p1, .int p2] : List Value).toArray below meth c H locs 0 0 Q (F0 m 36 ls []) := by
    intro x3 ws H locs ls r_p1 r_p2 r_x3 hw hl
    refine lv_aload_n hx hb dX7_takeNumber_36 rfl (lv_at hl 0 rfl) ?_
    refine tk_v (va_runV (As := []) (rest := []) ⟨hx, hb, hml, hown, hts⟩ (c_X7_pass l D cy z H.size Ps ws hw.1 p0 h_p0) (cwV 0 hts (gV tw_424 tw_425 tw_426 tw_2 tw_427) rfl rfl rfl (by decide +kernel) ⟨Nat.le_of_ble_eq_true rfl, Nat.le_of_ble_eq_true rfl⟩) (tg_preV hw hK hSD hA (ci := 7) (q := (RX7, TX7, 12)) rfl h_p0 rfl) rfl rfl hl.1 rfl (lv_room (Nat.le_of_ble_eq_true rfl)) dX7_takeNumber_37 ⟨Nat.le_of_ble_eq_true rfl, Nat.le_of_ble_eq_true rfl⟩) hw hA ⟨by decide, by decide⟩ (fun ws H locs hp_v_1 hw hF9 => ?_)
    refine lv_iload_n hx hb dX7_takeNumber_40 rfl (lv_at hl 3 rfl) ?_
    subst hQ
    exact W.iret (v := x3) hx hb hr (fun t ht hW => ⟨⟨x3, ws, rfl, ⟨⟨r_x3.to (by decide), (fun h0 => trivial), (fun h0 => trivial)⟩, hw.1, hw.2.2.2.2.1⟩, by rw [ht]; exact hw.2.1, va_K.moved hW.alike hK, hw.2.2.1⟩, hw.2.2.2.1.F ht⟩) hw.2.2.2.1.2.2 dX7_takeNumber_41
  have B31 : ∀ (x3 : Int32) (z0_7 : Int32) (ws : va_W) (H : Heap) (locs : List Loc) (ls : Array Slot), RI p1 (-2147483648) 2147483647 → RI p2 (-2147483648) 2147483647 → RI x3 (-2147483648) 2147483647 → RI z0_7 3 3 → FLD ws p0 7 7 (.int z0_7) → WD D cy GG A s wr_X7_takeNumber wa_X7_takeNumber Ps w0 Ps ws H locs → lv_has ls 4 [(0, .ref p0), (1, .int p1), (2, .int p2), (3, .int x3)] → W p l e (headSpec (Cond.code yX7_takeNumber cX7_takeNumber 4 (some .int) :: gT) ({ frames := 3, cells := 0, slots := 0, locals := 600 } : Room)).room s m ([.ref p0, .int p1, .int p2] : List Value).toArray below meth c H locs 0 0 Q (F0 m 31 ls []) := by
    intro x3 z0_7 ws H locs ls r_p1 r_p2 r_x3 r_z0_7 m_z0_7 hw hl
    refine lv_aload_n hx hb dX7_takeNumber_31 rfl (lv_at hl 0 rfl) ?_
    refine lv_iconst (v := 2) hx hb dX7_takeNumber_32 (by decide) ?_
    refine tk_v (va_runV (As := [.int 2]) (rest := []) ⟨hx, hb, hml, hown, hts⟩ (c_X7_refuse l D cy z H.size Ps ws hw.1 p0 2 h_p0 (rl_2.to (by decide))) (cwV 1 hts (gV tw_442 tw_443 tw_444 tw_2 tw_445) rfl rfl rfl (by decide +kernel) ⟨Nat.le_of_ble_eq_true rfl, Nat.le_of_ble_eq_true rfl⟩) (tg_preV hw hK hSD hA (ci := 7) (q := (RX7, TX7, 12)) rfl h_p0 rfl) rfl rfl hl.1 rfl (lv_room (Nat.le_of_ble_eq_true rfl)) dX7_takeNumber_33 ⟨Nat.le_of_ble_eq_true rfl, Nat.le_of_ble_eq_true rfl⟩) hw hA ⟨by decide, by decide⟩ (fun ws H locs hp_v_2 hw hF9 => ?_)
    have m_z0_7 := FLD.over hF9 m_z0_7 (by decide)
    obtain ⟨v_3, m_v_3, r_v_3⟩ := (hp_v_2.1)
    exact B36 x3 ws _ _ ls r_p1 r_p2 r_x3 hw hl
  refine lv_aload_n hx hb dX7_takeNumber_0 rfl (lv_at hl 0 rfl) ?_
  refine tg_get (ci := 7) (ts := ty_TAPE) (C := RX7) (T := TX7) (N := 12) hx hb hts inX7 hown hK hw h_p0 rfl rfl 9 (by decide) (hts _ tw_101) (fun _ h9 => h9) (ft := vI (-2147483648) 2147483647) rfl dX7_takeNumber_1 (fun u_4 hv_u_4 m_u_4 => ?_)
  obtain ⟨vu_4, rfl, r_vu_4⟩ := hv_u_4
  refine lv_istore_n (lv' := [(3, .int vu_4), (0, .ref p0), (1, .int p1), (2, .int p2)]) hx hb dX7_takeNumber_4 rfl hl (by decide) rfl (fun ls hl => ?_)
  refine lv_aload_n hx hb dX7_takeNumber_5 rfl (lv_at hl 1 rfl) ?_
  refine tg_get (ci := 7) (ts := ty_TAPE) (C := RX7) (T := TX7) (N := 12) hx hb hts inX7 hown hK hw h_p0 rfl rfl 7 (by decide) (hts _ tw_98) (fun _ h9 => h9) (ft := vI (-2147483648) 2147483647) rfl dX7_takeNumber_6 (fun u_5 hv_u_5 m_u_5 => ?_)
  obtain ⟨vu_5, rfl, r_vu_5⟩ := hv_u_5
  refine lv_iconst (v := 3) hx hb dX7_takeNumber_9 (by decide) ?_
  refine lv_icmp_eq (tgt := 21) hx hb dX7_takeNumber_10 (by decide) (fun c_10 => ?_) (fun c_10 => ?_)
  · have r_vu_5 : RI vu_5 3 3 := rc_eq1 r_vu_5 rl_3 (ti_eq c_10) (by decide)
    refine lv_iload_n hx hb dX7_takeNumber_21 rfl (lv_at hl 0 rfl) ?_
    refine lv_iload_n hx hb dX7_takeNumber_22 rfl (lv_at hl 2 rfl) ?_
    refine lv_icmp_lt (tgt := 31) hx hb dX7_takeNumber_23 (by decide) (fun c_23 => ?_) (fun c_23 => ?_)
    · have r_vu_4 : RI vu_4 (-2147483648) 2147483646 := rc_lt1 r_vu_4 r_p1 (ti_lt c_23) (by decide)
      have r_p1 : RI p1 (-2147483647) 2147483647 := rc_lt2 r_vu_4 r_p1 (ti_lt c_23) (by decide)
      exact B31 vu_4 vu_5 w0 _ _ ls (r_p1.to (by decide)) r_p2 (r_vu_4.to (by decide)) r_vu_5 m_u_5 hw (lv_sub hl [1, 2, 3, 0] rfl)
    · refine lv_iload_n hx hb dX7_takeNumber_26 rfl (lv_at hl 0 rfl) ?_
      refine lv_iload_n hx hb dX7_takeNumber_27 rfl (lv_at hl 3 rfl) ?_
      refine lv_icmp_le (tgt := 36) hx hb dX7_takeNumber_28 (by decide) (fun c_28 => ?_) (fun c_28 => ?_)
      · exact B36 vu_4 w0 _ _ ls r_p1 r_p2 r_vu_4 hw (lv_sub hl [1, 2, 3, 0] rfl)
      · have r_p2 : RI p2 (-2147483648) 2147483646 := rc_lt1 r_p2 r_vu_4 (ti_nle c_28) (by decide)
        have r_vu_4 : RI vu_4 (-2147483647) 2147483647 := rc_lt2 r_p2 r_vu_4 (ti_nle c_28) (by decide)
        exact B31 vu_4 vu_5 w0 _ _ ls r_p1 (r_p2.to (by decide)) (r_vu_4.to (by decide)) r_vu_5 m_u_5 hw (lv_sub hl [1, 2, 3, 0] rfl)
  · refine lv_aload_n hx hb dX7_takeNumber_13 rfl (lv_at hl 1 rfl) ?_
    refine lv_iconst (v := 1) hx hb dX7_takeNumber_14 (by decide) ?_
    refine tk_v (va_runV (As := [.int 1]) (rest := []) ⟨hx, hb, hml, hown, hts⟩ (c_X7_refuse l D cy z s.heap.size Ps w0 hw.1 p0 1 h_p0 (rl_1.to (by decide))) (cwV 1 hts (gV tw_442 tw_443 tw_444 tw_2 tw_445) rfl rfl rfl (by decide +kernel) ⟨Nat.le_of_ble_eq_true rfl, Nat.le_of_ble_eq_true rfl⟩) (tg_preV hw hK hSD hA (ci := 7) (q := (RX7, TX7, 12)) rfl h_p0 rfl) rfl rfl hl.1 rfl (lv_room (Nat.le_of_ble_eq_true rfl)) dX7_takeNumber_15 ⟨Nat.le_of_ble_eq_true rfl, Nat.le_of_ble_eq_true rfl⟩) hw hA ⟨by decide, by decide⟩ (fun ws H locs hp_v_6 hw hF9 => ?_)
    have m_u_4 := FLD.over hF9 m_u_4 (by decide)
    have m_u_5 := FLD.over hF9 m_u_5 (by decide)
    obtain ⟨v_7, m_v_7, r_v_7⟩ := (hp_v_6.1)
    refine lv_goto (tgt := 36) hx hb dX7_takeNumber_18 (by decide) ?_
    exact B36 vu_4 ws _ _ ls r_p1 r_p2 r_vu_4 hw (lv_sub hl [1, 2, 3, 0] rfl)
