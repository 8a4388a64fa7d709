abbrev wr_X5_readCond__12 : List (Nat × Nat) := [(5, 3), (5, 4), (7, 5), (7, 6), (7, 7), (7, 8), (7, 9), (7, 10), (7, 11)]
abbrev wa_X5_readCond__12 : List Nat := [21]
set_option maxHeartbeats 4000000 in
set_option maxRecDepth 100000 in
theorem c_X5_readCond__12 (l : Launch) (D : va_G) (cy : Nat → ClassId) (z : Nat → Nat) (sz : Nat) (Ps : PSI) (w0 : va_W) (hT : HT cy GG Ps w0) (p0 : Nat) (p1 : Nat) (p2 : Nat) (p3 : Int32) (s0 : OS) (s1 : OS) (s2 : OS) (h_p0 : (p0, 32) ∈ Ps) (h_p1 : (p1, 26) ∈ Ps) (h_p2 : (p2, 25) ∈ Ps) (r_p3 : RI p3 4 4) (o_p0 : OV vw_SENT Ps w0 p0 s0) (o_p1 : OV vw_TAPE Ps w0 p1 s1) (o_p2 : OV vw_POST Ps w0 p2 s2) : Met l yX5_readCond (Cond.code yX5_readCond cX5_readCond 7 none :: gT) ({ frames := 14, cells := 0, slots := 0, locals := 2800 } : Room) (va_Pc [.ref p0, .ref p1, .ref p2, .int p3] (PRE D cy z w0 sz)) (va_Qv (fun (u : va_W) => ((OV vw_SENT Ps u p0 ((f_X5_readCond__12 p3 s0 s1 s2).1) ∧ OV vw_TAPE Ps u p1 ((f_X5_readCond__12 p3 s0 s1 s2).2.1) ∧ OV vw_POST Ps u p2 ((f_X5_readCond__12 p3 s0 s1 s2).2.2) ∧ True) ∧ (True)) ∧ HT cy GG Ps u ∧ FR wr_X5_readCond__12 wa_X5_readCond__12 Ps w0 u) (BB D cy (va_A w0 sz) (fun (u : va_W) => u)) (va_A w0 sz)) 0 0 (va_A w0 sz) := by
  refine Met.ofW (cc := cX5_readCond) (maxL := 7) (ret := none) (by decide) rfl ?_
  intro p e s m args below meth c s₁ B hml hv
  obtain ⟨rfl, hsz, hP, hK, hD0, hSD⟩ := hv
  have hx := B.exec
  have hb := B.bytes
  have hr := B.returns
  have hlocks := B.notSynchronized
  have hts : ∀ w ∈ gT, w.before _ s = true := fun w h => atoms_spec (ws := Cond.code yX5_readCond cX5_readCond 7 none :: gT) B.pre w (List.mem_cons_of_mem _ h)
  have hown : s.vm.findClass RX5 = some m.cls := findClass_of_methodNamed B.named
  subst hsz
  have hD := hD0.self (sz := s.heap.size)
  generalize hAe : va_A w0 s.heap.size = A at hD hSD ⊢
  have hA : ∀ q : Nat, s.heap.size ≤ q → A q := fun q h => by rw [← hAe]; exact Or.inr h
  have hl := lv_entry ([.ref p0, .ref p1, .ref p2, .int p3]) (n := 7) (Nat.le_of_ble_eq_true rfl)
  rw [lg_entry_eq]
  generalize (lg_sl ([.ref p0, .ref p1, .ref p2, .int p3]) ++ List.replicate (7 - (lg_sl ([.ref p0, .ref p1, .ref p2, .int p3])).length) Slot.unset).toArray = ls at hl ⊢
  have hl : lv_has ls 7 [(0, .ref p0), (1, .ref p1), (2, .ref p2), (3, .int p3)] := hl
  refine nameQ (fun Q hQ => ?_)
  have hw : WD D cy GG A s wr_X5_readCond__12 wa_X5_readCond__12 Ps w0 Ps w0 s.heap [] := ⟨hT, hP, hD, va_S.rf, FR.rf, hT.1, [], (List.append_nil _).symm⟩
  obtain ⟨R9, hR⟩ : ∃ q9 : OS × OS × OS, f_X5_readCond__12 p3 s0 s1 s2 = q9 := ⟨_, rfl⟩
  have hE := hR
  have B106 : ∀ (x4 : Int32) (x5 : Int32) (s0 : OS) (s1 : OS) (s2 : OS) (ws : va_W) (H : Heap) (locs : List Loc) (ls : Array Slot), RI p3 4 4 → RI x4 (-2147483648) 2147483647 → RI x5 0 21 → OV vw_SENT Ps ws p0 s0 → OV vw_TAPE Ps ws p1 s1 → OV vw_POST Ps ws p2 s2 → f_X5_readCond__12_106 p3 x4 x5 s0 s1 s2 = R9 → WD D cy GG A s wr_X5_readCond__12 wa_X5_readCond__12 Ps w0 Ps ws H locs → lv_has ls 7 [(0, .ref p0), (1, .ref p1), (2, .ref p2), (3, .int p3), (4, .int x4), (5, .int x5)] → W p l e (headSpec (Cond.code yX5_readCond cX5_readCond 7 none :: gT) ({ frames := 14, cells := 0, slots := 0, locals := 2800 } : Room)).room s m ([.ref p0, .ref p1, .ref p2, .int p3] : List Value).toArray below meth c H locs 0 0 Q (F0 m 106 ls []) := by
    intro x4 x5 s0 s1 s2 ws H locs ls r_p3 r_x4 r_x5 o_p0 o_p1 o_p2 hE hw hl
    refine lv_iload hx hb dX5_readCond_106 (lv_at hl 4 rfl) ?_
    refine lv_if_eq (tgt := 120) hx hb dX5_readCond_108 (by decide) (fun c_108 => ?_) (fun c_108 => ?_)
    · have r_x4 : RI x4 0 0 := rc_eq1 r_x4 rl_0 (ti_eq c_108) (by decide)
      simp only [f_X5_readCond__12_106, ↓reduceIte, eq_true c_108] at hE
      subst hQ
      exact W.vret hx hb hr (fun t ht hW => ⟨⟨ws, rfl, ⟨⟨⟨(by rw [hR, ← hE]; exact o_p0), (by rw [hR, ← hE]; exact o_p1), (by rw [hR, ← hE]; exact o_p2), trivial⟩, trivial⟩, hw.1, hw.2.2.2.2.1⟩, by rw [ht]; exact hw.2.1, va_K.moved hW.alike hK, hw.2.2.1⟩, hw.2.2.2.1.F ht⟩) hw.2.2.2.1.2.2 dX5_readCond_120
    · refine lv_aload_n hx hb dX5_readCond_111 rfl (lv_at hl 0 rfl) ?_
      refine lv_sipush (v := 144) hx hb dX5_readCond_112 (by decide) ?_
      refine lv_iconst (v := 0) hx hb dX5_readCond_115 (by decide) ?_
      refine lv_iconst (v := 0) hx hb dX5_readCond_116 (by decide) ?_
      refine tk_v (va_runV (As := [.int 144, .int 0, .int 0]) (rest := []) ⟨hx, hb, hml, hown, hts⟩ (c_X5_addStep__1 l D cy z H.size Ps ws hw.1 p0 144 0 0 s0 h_p0 (rl_144.to (by decide)) (rl_0.to (by decide)) (rl_0.to (by decide)) o_p0) (cwV 3 hts (gV tw_983 tw_985 ts_33 tw_23 tw_986) rfl rfl rfl (by decide +kernel) ⟨Nat.le_of_ble_eq_true rfl, Nat.le_of_ble_eq_true rfl⟩) (tg_preV hw hK hSD hA (ci := 5) (q := (RX5, TX5, 5)) rfl h_p0 rfl) rfl rfl hl.1 rfl (lv_room (Nat.le_of_ble_eq_true rfl)) dX5_readCond_117 ⟨Nat.le_of_ble_eq_true rfl, Nat.le_of_ble_eq_true rfl⟩) hw hA ⟨by decide, by decide⟩ (fun ws H locs hp_v_1 hw hF9 => ?_)
      obtain ⟨hfn, hp_v_1⟩ := hp_v_1
      have o_p1 := OV.over (V := vw_TAPE) hF9 o_p1 (by decide)
      have o_p2 := OV.over (V := vw_POST) hF9 o_p2 (by decide)
      obtain ⟨sg_2, q_sg_2⟩ : ∃ q9 : OS, (f_X5_addStep__1 (144 : Int32) (0 : Int32) (0 : Int32) s0) = q9 := ⟨_, rfl⟩
      have o_p0 : OV vw_SENT Ps ws p0 sg_2 := by rw [← q_sg_2]; exact hfn.1
      obtain ⟨v_3, m_v_3, r_v_3⟩ := (hp_v_1.1)
      simp only [f_X5_readCond__12_106, ↓reduceIte, eq_false c_108, q_sg_2] at hE
      subst hQ
      exact W.vret hx hb hr (fun t ht hW => ⟨⟨ws, rfl, ⟨⟨⟨(by rw [hR, ← hE]; exact o_p0), (by rw [hR, ← hE]; exact o_p1), (by rw [hR, ← hE]; exact o_p2), trivial⟩, trivial⟩, hw.1, hw.2.2.2.2.1⟩, by rw [ht]; exact hw.2.1, va_K.moved hW.alike hK, hw.2.2.1⟩, hw.2.2.2.1.F ht⟩) hw.2.2.2.1.2.2 dX5_readCond_120
  have B13 : ∀ (nf : Nat) (x4 : Int32) (x5 : Int32) (s0 : OS) (s1 : OS) (s2 : OS) (ws : va_W) (H : Heap) (locs : List Loc) (ls : Array Slot), 20 - x5.toInt < (nf : Int) → RI p3 4 4 → RI x4 (-2147483648) 2147483647 → RI x5 0 20 → OV vw_SENT Ps ws p0 s0 → OV vw_TAPE Ps ws p1 s1 → OV vw_POST Ps ws p2 s2 → f_X5_readCond__12_13 p3 nf x4 x5 s0 s1 s2 = R9 → WD D cy GG A s wr_X5_readCond__12 wa_X5_readCond__12 Ps w0 Ps ws H locs → lv_has ls 7 [(0, .ref p0), (1, .ref p1), (2, .ref p2), (3, .int p3), (4, .int x4), (5, .int x5)] → W p l e (headSpec (Cond.code yX5_readCond cX5_readCond 7 none :: gT) ({ frames := 14, cells := 0, slots := 0, locals := 2800 } : Room)).room s m ([.ref p0, .ref p1, .ref p2, .int p3] : List Value).toArray below meth c H locs 0 0 Q (F0 m 13 ls []) := by
    intro nf13
    induction nf13 with
    | zero =>
      intro x4 x5 s0 s1 s2 ws H locs ls hn13 r_p3 r_x4 r_x5 o_p0 o_p1 o_p2 hE hw hl
      exact absurd hn13 (by have q0 := r_x5.1; have u0 := r_x5.2; omega)
    | succ nf13 ih13 =>
      have B72 : ∀ (x4 : Int32) (x5 : Int32) (x6 : Int32) (s0 : OS) (s1 : OS) (s2 : OS) (ws : va_W) (H : Heap) (locs : List Loc) (ls : Array Slot), RI p3 4 4 → RI x4 (-2147483648) 2147483647 → RI x5 0 19 → RI x6 0 1 → OV vw_SENT Ps ws p0 s0 → OV vw_TAPE Ps ws p1 s1 → OV vw_POST Ps ws p2 s2 → 20 - x5.toInt < ((nf13 + 1 : Nat) : Int) → f_X5_readCond__12_72 (f_X5_readCond__12_13 p3 nf13) p3 x4 x5 x6 s0 s1 s2 = R9 → WD D cy GG A s wr_X5_readCond__12 wa_X5_readCond__12 Ps w0 Ps ws H locs → lv_has ls 7 [(0, .ref p0), (1, .ref p1), (2, .ref p2), (3, .int p3), (4, .int x4), (5, .int x5), (6, .int x6)] → W p l e (headSpec (Cond.code yX5_readCond cX5_readCond 7 none :: gT) ({ frames := 14, cells := 0, slots := 0, locals := 2800 } : Room)).room s m ([.ref p0, .ref p1, .ref p2, .int p3] : List Value).toArray below meth c H locs 0 0 Q (F0 m 72 ls []) := by
        intro x4 x5 x6 s0 s1 s2 ws H locs ls r_p3 r_x4 r_x5 r_x6 o_p0 o_p1 o_p2 hn13 hE hw hl
        refine lv_iload hx hb dX5_readCond_72 (lv_at hl 4 rfl) ?_
        refine lv_iload hx hb dX5_readCond_74 (lv_at hl 6 rfl) ?_
        refine lv_ior hx hb dX5_readCond_76 (lv_topi (fun v_4 e_v_4 => ?_))
        have r_v_4 := ri_any v_4
        have q_v_4 : x4 ||| x6 = v_4 := e_v_4.symm
        refine lv_istore (lv' := [(4, .int v_4), (0, .ref p0), (1, .ref p1), (2, .ref p2), (3, .int p3), (5, .int x5), (6, .int x6)]) hx hb dX5_readCond_77 hl (by decide) rfl (fun ls hl => ?_)
        refine lv_aload_n hx hb dX5_readCond_79 rfl (lv_at hl 1 rfl) ?_
        refine lv_aload_n hx hb dX5_readCond_80 rfl (lv_at hl 2 rfl) ?_
        refine lv_aload_n hx hb dX5_readCond_81 rfl (lv_at hl 3 rfl) ?_
        refine lv_iload_n hx hb dX5_readCond_82 rfl (lv_at hl 4 rfl) ?_
        refine tk_v (va_runV (As := [.ref p1, .ref p2, .int p3]) (rest := []) ⟨hx, hb, hml, hown, hts⟩ (c_X5_readOne__12 l D cy z H.size Ps ws hw.1 p0 p1 p2 p3 s0 s1 s2 h_p0 h_p1 h_p2 r_p3 o_p0 o_p1 o_p2) (cwV 3 hts (gV tw_977 tw_979 ts_32 tw_23 tw_980) rfl rfl rfl (by decide +kernel) ⟨Nat.le_of_ble_eq_true rfl, Nat.le_of_ble_eq_true rfl⟩) (tg_preV hw hK hSD hA (ci := 5) (q := (RX5, TX5, 5)) rfl h_p0 rfl) rfl rfl hl.1 rfl (lv_room (Nat.le_of_ble_eq_true rfl)) dX5_readCond_83 ⟨Nat.le_of_ble_eq_true rfl, Nat.le_of_ble_eq_true rfl⟩) hw hA ⟨by decide, by decide⟩ (fun ws H locs hp_v_5 hw hF9 => ?_)
        obtain ⟨hfn, hp_v_5⟩ := hp_v_5
        obtain ⟨sg_6, q_sg_6⟩ : ∃ q9 : OS, (f_X5_readOne__12 p3 s0 s1 s2).1 = q9 := ⟨_, rfl⟩
        have o_p0 : OV vw_SENT Ps ws p0 sg_6 := by rw [← q_sg_6]; exact hfn.1
        obtain ⟨sg_7, q_sg_7⟩ : ∃ q9 : OS, (f_X5_readOne__12 p3 s0 s1 s2).2.1 = q9 := ⟨_, rfl⟩
        have o_p1 : OV vw_TAPE Ps ws p1 sg_7 := by rw [← q_sg_7]; exact hfn.2.1
        obtain ⟨sg_8, q_sg_8⟩ : ∃ q9 : OS, (f_X5_readOne__12 p3 s0 s1 s2).2.2 = q9 := ⟨_, rfl⟩
        have o_p2 : OV vw_POST Ps ws p2 sg_8 := by rw [← q_sg_8]; exact hfn.2.2.1
        refine lv_iload hx hb dX5_readCond_86 (lv_at hl 6 rfl) ?_
        refine lv_if_ne (tgt := 100) hx hb dX5_readCond_88 (by decide) (fun c_88 => ?_) (fun c_88 => ?_)
        · have r_x6 : RI x6 1 1 := rc_neL r_x6 rl_0 (ti_ne c_88) (by decide)
          obtain ⟨v_9, e_v_9⟩ : ∃ q9 : Int32, q9 = x5 + Int32.ofInt 1 := ⟨_, rfl⟩
          obtain ⟨t_v_9, r_v_9⟩ := tq_add (lo := 1) (hi := 20) r_x5 (show RI (Int32.ofInt 1) 1 1 by unfold RI; decide +kernel) (by decide +kernel) e_v_9
          have t_v_9 : v_9.toInt = x5.toInt + 1 := t_v_9
          refine lv_iinc (v := v_9) (lv' := [(5, .int v_9), (4, .int v_4), (0, .ref p0), (1, .ref p1), (2, .ref p2), (3, .int p3), (6, .int x6)]) hx hb dX5_readCond_100 hl (k := 5) rfl e_v_9.symm (by decide) rfl (fun ls hl => ?_)
          have q_v_9 : x5 + (1 : Int32) = v_9 := by rw [e_v_9, show Int32.ofInt 1 = (1 : Int32) by decide]
          refine lv_goto (tgt := 13) hx hb dX5_readCond_103 (by decide) ?_
          simp only [f_X5_readCond__12_72, ↓reduceIte, q_v_4, q_sg_6, q_sg_7, q_sg_8, eq_false c_88, q_v_9] at hE
          exact ih13 v_4 v_9 sg_6 sg_7 sg_8 ws _ _ ls (by have q0 := r_v_9.1; have u0 := r_v_9.2; have o0 := r_x5.1; have p0 := r_x5.2; omega) r_p3 r_v_4 (r_v_9.to (by decide)) o_p0 o_p1 o_p2 hE hw (lv_sub hl [2, 3, 4, 5, 1, 0] rfl)
        · have r_x6 : RI x6 0 0 := rc_eq1 r_x6 rl_0 (ti_eq c_88) (by decide)
          refine lv_aload_n hx hb dX5_readCond_91 rfl (lv_at hl 1 rfl) ?_
          refine lv_sipush (v := 145) hx hb dX5_readCond_92 (by decide) ?_
          refine lv_iconst (v := 0) hx hb dX5_readCond_95 (by decide) ?_
          refine lv_iconst (v := 0) hx hb dX5_readCond_96 (by decide) ?_
          refine tk_v (va_runV (As := [.int 145, .int 0, .int 0]) (rest := []) ⟨hx, hb, hml, hown, hts⟩ (c_X5_addStep__1 l D cy z H.size Ps ws hw.1 p0 145 0 0 sg_6 h_p0 (rl_145.to (by decide)) (rl_0.to (by decide)) (rl_0.to (by decide)) o_p0) (cwV 3 hts (gV tw_983 tw_985 ts_33 tw_23 tw_986) rfl rfl rfl (by decide +kernel) ⟨Nat.le_of_ble_eq_true rfl, Nat.le_of_ble_eq_true rfl⟩) (tg_preV hw hK hSD hA (ci := 5) (q := (RX5, TX5, 5)) rfl h_p0 rfl) rfl rfl hl.1 rfl (lv_room (Nat.le_of_ble_eq_true rfl)) dX5_readCond_97 ⟨Nat.le_of_ble_eq_true rfl, Nat.le_of_ble_eq_true rfl⟩) hw hA ⟨by decide, by decide⟩ (fun ws H locs hp_v_10 hw hF9 => ?_)
          obtain ⟨hfn, hp_v_10⟩ := hp_v_10
          have o_p1 := OV.over (V := vw_TAPE) hF9 o_p1 (by decide)
          have o_p2 := OV.over (V := vw_POST) hF9 o_p2 (by decide)
          obtain ⟨sg_11, q_sg_11⟩ : ∃ q9 : OS, (f_X5_addStep__1 (145 : Int32) (0 : Int32) (0 : Int32) sg_6) = q9 := ⟨_, rfl⟩
          have o_p0 : OV vw_SENT Ps ws p0 sg_11 := by rw [← q_sg_11]; exact hfn.1
          obtain ⟨v_12, m_v_12, r_v_12⟩ := (hp_v_10.1)
          obtain ⟨v_13, e_v_13⟩ : ∃ q9 : Int32, q9 = x5 + Int32.ofInt 1 := ⟨_, rfl⟩
          obtain ⟨t_v_13, r_v_13⟩ := tq_add (lo := 1) (hi := 20) r_x5 (show RI (Int32.ofInt 1) 1 1 by unfold RI; decide +kernel) (by decide +kernel) e_v_13
          have t_v_13 : v_13.toInt = x5.toInt + 1 := t_v_13
          refine lv_iinc (v := v_13) (lv' := [(5, .int v_13), (4, .int v_4), (0, .ref p0), (1, .ref p1), (2, .ref p2), (3, .int p3), (6, .int x6)]) hx hb dX5_readCond_100 hl (k := 5) rfl e_v_13.symm (by decide) rfl (fun ls hl => ?_)
          have q_v_13 : x5 + (1 : Int32) = v_13 := by rw [e_v_13, show Int32.ofInt 1 = (1 : Int32) by decide]
          refine lv_goto (tgt := 13) hx hb dX5_readCond_103 (by decide) ?_
          simp only [f_X5_readCond__12_72, ↓reduceIte, q_v_4, q_sg_6, q_sg_7, q_sg_8, eq_true c_88, q_sg_11, q_v_13] at hE
          exact ih13 v_4 v_13 sg_11 sg_7 sg_8 ws _ _ ls (by have q0 := r_v_13.1; have u0 := r_v_13.2; have o0 := r_x5.1; have p0 := r_x5.2; omega) r_p3 r_v_4 (r_v_13.to (by decide)) o_p0 o_p1 o_p2 hE hw (lv_sub hl [2, 3, 4, 5, 1, 0] rfl)
      have B40 : ∀ (x4 : Int32) (x5 : Int32) (s0 : OS) (s1 : OS) (s2 : OS) (ws : va_W) (H : Heap) (locs : List Loc) (ls : Array Slot), RI p3 4 4 → RI x4 (-2147483648) 2147483647 → RI x5 0 19 → OV vw_SENT Ps ws p0 s0 → OV vw_TAPE Ps ws p1 s1 → OV vw_POST Ps ws p2 s2 → 20 - x5.toInt < ((nf13 + 1 : Nat) : Int) → f_X5_readCond__12_40 (f_X5_readCond__12_13 p3 nf13) p3 x4 x5 s0 s1 s2 = R9 → WD D cy GG A s wr_X5_readCond__12 wa_X5_readCond__12 Ps w0 Ps ws H locs → lv_has ls 7 [(0, .ref p0), (1, .ref p1), (2, .ref p2), (3, .int p3), (4, .int x4), (5, .int x5)] → W p l e (headSpec (Cond.code yX5_readCond cX5_readCond 7 none :: gT) ({ frames := 14, cells := 0, slots := 0, locals := 2800 } : Room)).room s m ([.ref p0, .ref p1, .ref p2, .int p3] : List Value).toArray below meth c H locs 0 0 Q (F0 m 40 ls []) := by
        intro x4 x5 s0 s1 s2 ws H locs ls r_p3 r_x4 r_x5 o_p0 o_p1 o_p2 hn13 hE hw hl
        refine lv_aload_n hx hb dX5_readCond_40 rfl (lv_at hl 1 rfl) ?_
        refine lv_sipush (v := 144) hx hb dX5_readCond_41 (by decide) ?_
        refine tk_ir (va_runV (As := [.int 144]) (rest := []) ⟨hx, hb, hml, hown, hts⟩ (c_X7_sees__1 l D cy z H.size Ps ws hw.1 p1 144 s1 h_p1 (rl_144.to (by decide)) o_p1) (cwV 1 hts (gV tw_994 tw_995 tw_996 tw_2 tw_997) rfl rfl rfl (by decide +kernel) ⟨Nat.le_of_ble_eq_true rfl, Nat.le_of_ble_eq_true rfl⟩) (tg_preV hw hK hSD hA (ci := 7) (q := (RX7, TX7, 12)) rfl h_p1 rfl) rfl rfl hl.1 rfl (lv_room (Nat.le_of_ble_eq_true rfl)) dX5_readCond_44 ⟨Nat.le_of_ble_eq_true rfl, Nat.le_of_ble_eq_true rfl⟩) hw hA (fun v_14  H locs hp_v_14 hw => ?_)
        obtain ⟨hfn, hp_v_14⟩ := hp_v_14
        have q_v_14 : (f_X7_sees__1 (144 : Int32) s1) = v_14 := hfn.1
        have r_v_14 : RI v_14 0 1 := hp_v_14.1
        refine lv_istore (lv' := [(6, .int v_14), (0, .ref p0), (1, .ref p1), (2, .ref p2), (3, .int p3), (4, .int x4), (5, .int x5)]) hx hb dX5_readCond_47 hl (by decide) rfl (fun ls hl => ?_)
        refine lv_aload_n hx hb dX5_readCond_49 rfl (lv_at hl 2 rfl) ?_
        refine tk_v (va_runV (As := []) (rest := []) ⟨hx, hb, hml, hown, hts⟩ (c_X7_pass__6 l D cy z H.size Ps ws hw.1 p1 s1 h_p1 o_p1) (cwV 0 hts (gV tw_982 tw_425 tw_426 tw_2 tw_427) rfl rfl rfl (by decide +kernel) ⟨Nat.le_of_ble_eq_true rfl, Nat.le_of_ble_eq_true rfl⟩) (tg_preV hw hK hSD hA (ci := 7) (q := (RX7, TX7, 12)) rfl h_p1 rfl) rfl rfl hl.1 rfl (lv_room (Nat.le_of_ble_eq_true rfl)) dX5_readCond_50 ⟨Nat.le_of_ble_eq_true rfl, Nat.le_of_ble_eq_true rfl⟩) hw hA ⟨by decide, by decide⟩ (fun ws H locs hp_v_15 hw hF9 => ?_)
        obtain ⟨hfn, hp_v_15⟩ := hp_v_15
        have o_p0 := OV.over (V := vw_SENT) hF9 o_p0 (by decide)
        have o_p2 := OV.over (V := vw_POST) hF9 o_p2 (by decide)
        obtain ⟨sg_16, q_sg_16⟩ : ∃ q9 : OS, (f_X7_pass__6 s1) = q9 := ⟨_, rfl⟩
        have o_p1 : OV vw_TAPE Ps ws p1 sg_16 := by rw [← q_sg_16]; exact hfn.1
        refine lv_iload hx hb dX5_readCond_53 (lv_at hl 0 rfl) ?_
        refine lv_if_eq (tgt := 72) hx hb dX5_readCond_55 (by decide) (fun c_55 => ?_) (fun c_55 => ?_)
        · have r_v_14 : RI v_14 0 0 := rc_eq1 r_v_14 rl_0 (ti_eq c_55) (by decide)
          simp only [f_X5_readCond__12_40, ↓reduceIte, q_v_14, q_sg_16, eq_true c_55] at hE
          exact B72 x4 x5 v_14 s0 sg_16 s2 ws _ _ ls r_p3 r_x4 r_x5 (r_v_14.to (by decide)) o_p0 o_p1 o_p2 (by have q0 := r_x5.1; have u0 := r_x5.2; omega) hE hw (lv_sub hl [1, 2, 3, 4, 5, 6, 0] rfl)
        · have r_v_14 : RI v_14 1 1 := rc_neL r_v_14 rl_0 (ti_ne c_55) (by decide)
          refine lv_iload hx hb dX5_readCond_58 (lv_at hl 5 rfl) ?_
          refine lv_if_eq (tgt := 72) hx hb dX5_readCond_60 (by decide) (fun c_60 => ?_) (fun c_60 => ?_)
          · have r_x4 : RI x4 0 0 := rc_eq1 r_x4 rl_0 (ti_eq c_60) (by decide)
            simp only [f_X5_readCond__12_40, ↓reduceIte, q_v_14, q_sg_16, eq_false c_55, eq_true c_60] at hE
            exact B72 x4 x5 v_14 s0 sg_16 s2 ws _ _ ls r_p3 (r_x4.to (by decide)) r_x5 (r_v_14.to (by decide)) o_p0 o_p1 o_p2 (by have q0 := r_x5.1; have u0 := r_x5.2; omega) hE hw (lv_sub hl [1, 2, 3, 4, 5, 6, 0] rfl)
          · refine lv_aload_n hx hb dX5_readCond_63 rfl (lv_at hl 1 rfl) ?_
            refine lv_sipush (v := 144) hx hb dX5_readCond_64 (by decide) ?_
            refine lv_iconst (v := 0) hx hb dX5_readCond_67 (by decide) ?_
            refine lv_iconst (v := 0) hx hb dX5_readCond_68 (by decide) ?_
            refine tk_v (va_runV (As := [.int 144, .int 0, .int 0]) (rest := []) ⟨hx, hb, hml, hown, hts⟩ (c_X5_addStep__1 l D cy z H.size Ps ws hw.1 p0 144 0 0 s0 h_p0 (rl_144.to (by decide)) (rl_0.to (by decide)) (rl_0.to (by decide)) o_p0) (cwV 3 hts (gV tw_983 tw_985 ts_33 tw_23 tw_986) rfl rfl rfl (by decide +kernel) ⟨Nat.le_of_ble_eq_true rfl, Nat.le_of_ble_eq_true rfl⟩) (tg_preV hw hK hSD hA (ci := 5) (q := (RX5, TX5, 5)) rfl h_p0 rfl) rfl rfl hl.1 rfl (lv_room (Nat.le_of_ble_eq_true rfl)) dX5_readCond_69 ⟨Nat.le_of_ble_eq_true rfl, Nat.le_of_ble_eq_true rfl⟩) hw hA ⟨by decide, by decide⟩ (fun ws H locs hp_v_17 hw hF9 => ?_)
            obtain ⟨hfn, hp_v_17⟩ := hp_v_17
            have o_p1 := OV.over (V := vw_TAPE) hF9 o_p1 (by decide)
            have o_p2 := OV.over (V := vw_POST) hF9 o_p2 (by decide)
            obtain ⟨sg_18, q_sg_18⟩ : ∃ q9 : OS, (f_X5_addStep__1 (144 : Int32) (0 : Int32) (0 : Int32) s0) = q9 := ⟨_, rfl⟩
            have o_p0 : OV vw_SENT Ps ws p0 sg_18 := by rw [← q_sg_18]; exact hfn.1
            obtain ⟨v_19, m_v_19, r_v_19⟩ := (hp_v_17.1)
            simp only [f_X5_readCond__12_40, ↓reduceIte, q_v_14, q_sg_16, eq_false c_55, eq_false c_60, q_sg_18] at hE
            exact B72 x4 x5 v_14 sg_18 sg_16 s2 ws _ _ ls r_p3 r_x4 r_x5 (r_v_14.to (by decide)) o_p0 o_p1 o_p2 (by have q0 := r_x5.1; have u0 := r_x5.2; omega) hE hw (lv_sub hl [1, 2, 3, 4, 5, 6, 0] rfl)
      intro x4 x5 s0 s1 s2 ws H locs ls hn13 r_p3 r_x4 r_x5 o_p0 o_p1 o_p2 hE hw hl
      refine lv_iload hx hb dX5_readCond_13 (lv_at hl 5 rfl) ?_
      refine lv_bipush (v := 20) hx hb dX5_readCond_15 (by decide) ?_
      refine lv_icmp_ge (tgt := 106) hx hb dX5_readCond_17 (by decide) (fun c_17 => ?_) (fun c_17 => ?_)
      · have r_x5 : RI x5 20 20 := rc_le2 rl_20 r_x5 (ti_le c_17) (by decide)
        simp only [f_X5_readCond__12_13, ↓reduceIte, eq_true c_17] at hE
        exact B106 x4 x5 s0 s1 s2 ws _ _ ls r_p3 r_x4 (r_x5.to (by decide)) o_p0 o_p1 o_p2 hE hw hl
      · have r_x5 : RI x5 0 19 := rc_lt1 r_x5 rl_20 (ti_nle c_17) (by decide)
        refine lv_aload_n hx hb dX5_readCond_20 rfl (lv_at hl 1 rfl) ?_
        refine lv_sipush (v := 144) hx hb dX5_readCond_21 (by decide) ?_
        refine tk_ir (va_runV (As := [.int 144]) (rest := []) ⟨hx, hb, hml, hown, hts⟩ (c_X7_sees__1 l D cy z H.size Ps ws hw.1 p1 144 s1 h_p1 (rl_144.to (by decide)) o_p1) (cwV 1 hts (gV tw_994 tw_995 tw_996 tw_2 tw_997) rfl rfl rfl (by decide +kernel) ⟨Nat.le_of_ble_eq_true rfl, Nat.le_of_ble_eq_true rfl⟩) (tg_preV hw hK hSD hA (ci := 7) (q := (RX7, TX7, 12)) rfl h_p1 rfl) rfl rfl hl.1 rfl (lv_room (Nat.le_of_ble_eq_true rfl)) dX5_readCond_24 ⟨Nat.le_of_ble_eq_true rfl, Nat.le_of_ble_eq_true rfl⟩) hw hA (fun v_20  H locs hp_v_20 hw => ?_)
        obtain ⟨hfn, hp_v_20⟩ := hp_v_20
        have q_v_20 : (f_X7_sees__1 (144 : Int32) s1) = v_20 := hfn.1
        have r_v_20 : RI v_20 0 1 := hp_v_20.1
        refine lv_if_ne (tgt := 40) hx hb dX5_readCond_27 (by decide) (fun c_27 => ?_) (fun c_27 => ?_)
        · have r_v_20 : RI v_20 1 1 := rc_neL r_v_20 rl_0 (ti_ne c_27) (by decide)
          simp only [f_X5_readCond__12_13, ↓reduceIte, eq_false c_17, q_v_20, eq_false c_27] at hE
          exact B40 x4 x5 s0 s1 s2 ws _ _ ls r_p3 r_x4 r_x5 o_p0 o_p1 o_p2 (by have q0 := r_x5.1; have u0 := r_x5.2; omega) hE hw hl
        · have r_v_20 : RI v_20 0 0 := rc_eq1 r_v_20 rl_0 (ti_eq c_27) (by decide)
          refine lv_aload_n hx hb dX5_readCond_30 rfl (lv_at hl 1 rfl) ?_
          refine lv_sipush (v := 145) hx hb dX5_readCond_31 (by decide) ?_
          refine tk_ir (va_runV (As := [.int 145]) (rest := []) ⟨hx, hb, hml, hown, hts⟩ (c_X7_sees__1 l D cy z H.size Ps ws hw.1 p1 145 s1 h_p1 (rl_145.to (by decide)) o_p1) (cwV 1 hts (gV tw_994 tw_995 tw_996 tw_2 tw_997) rfl rfl rfl (by decide +kernel) ⟨Nat.le_of_ble_eq_true rfl, Nat.le_of_ble_eq_true rfl⟩) (tg_preV hw hK hSD hA (ci := 7) (q := (RX7, TX7, 12)) rfl h_p1 rfl) rfl rfl hl.1 rfl (lv_room (Nat.le_of_ble_eq_true rfl)) dX5_readCond_34 ⟨Nat.le_of_ble_eq_true rfl, Nat.le_of_ble_eq_true rfl⟩) hw hA (fun v_21  H locs hp_v_21 hw => ?_)
          obtain ⟨hfn, hp_v_21⟩ := hp_v_21
          have q_v_21 : (f_X7_sees__1 (145 : Int32) s1) = v_21 := hfn.1
          have r_v_21 : RI v_21 0 1 := hp_v_21.1
          refine lv_if_eq (tgt := 106) hx hb dX5_readCond_37 (by decide) (fun c_37 => ?_) (fun c_37 => ?_)
          · have r_v_21 : RI v_21 0 0 := rc_eq1 r_v_21 rl_0 (ti_eq c_37) (by decide)
            simp only [f_X5_readCond__12_13, ↓reduceIte, eq_false c_17, q_v_20, eq_true c_27, q_v_21, eq_true c_37] at hE
            exact B106 x4 x5 s0 s1 s2 ws _ _ ls r_p3 r_x4 (r_x5.to (by decide)) o_p0 o_p1 o_p2 hE hw hl
          · have r_v_21 : RI v_21 1 1 := rc_neL r_v_21 rl_0 (ti_ne c_37) (by decide)
            simp only [f_X5_readCond__12_13, ↓reduceIte, eq_false c_17, q_v_20, eq_true c_27, q_v_21, eq_false c_37] at hE
            exact B40 x4 x5 s0 s1 s2 ws _ _ ls r_p3 r_x4 r_x5 o_p0 o_p1 o_p2 (by have q0 := r_x5.1; have u0 := r_x5.2; omega) hE hw hl
  refine lv_iconst (v := 0) hx hb dX5_readCond_0 (by decide) ?_
  refine lv_istore (lv' := [(4, .int 0), (0, .ref p0), (1, .ref p1), (2, .ref p2), (3, .int p3)]) hx hb dX5_readCond_1 hl (by decide) rfl (fun ls hl => ?_)
  refine lv_aload_n hx hb dX5_readCond_3 rfl (lv_at hl 1 rfl) ?_
  refine lv_aload_n hx hb dX5_readCond_4 rfl (lv_at hl 2 rfl) ?_
  refine lv_aload_n hx hb dX5_readCond_5 rfl (lv_at hl 3 rfl) ?_
  refine lv_iload_n hx hb dX5_readCond_6 rfl (lv_at hl 4 rfl) ?_
  refine tk_v (va_runV (As := [.ref p1, .ref p2, .int p3]) (rest := []) ⟨hx, hb, hml, hown, hts⟩ (c_X5_readOne__12 l D cy z s.heap.size Ps w0 hw.1 p0 p1 p2 p3 s0 s1 s2 h_p0 h_p1 h_p2 r_p3 o_p0 o_p1 o_p2) (cwV 3 hts (gV tw_977 tw_979 ts_32 tw_23 tw_980) rfl rfl rfl (by decide +kernel) ⟨Nat.le_of_ble_eq_true rfl, Nat.le_of_ble_eq_true rfl⟩) (tg_preV hw hK hSD hA (ci := 5) (q := (RX5, TX5, 5)) rfl h_p0 rfl) rfl rfl hl.1 rfl (lv_room (Nat.le_of_ble_eq_true rfl)) dX5_readCond_7 ⟨Nat.le_of_ble_eq_true rfl, Nat.le_of_ble_eq_true rfl⟩) hw hA ⟨by decide, by decide⟩ (fun ws H locs hp_v_22 hw hF9 => ?_)
  obtain ⟨hfn, hp_v_22⟩ := hp_v_22
  obtain ⟨sg_23, q_sg_23⟩ : ∃ q9 : OS, (f_X5_readOne__12 p3 s0 s1 s2).1 = q9 := ⟨_, rfl⟩
  have o_p0 : OV vw_SENT Ps ws p0 sg_23 := by rw [← q_sg_23]; exact hfn.1
  obtain ⟨sg_24, q_sg_24⟩ : ∃ q9 : OS, (f_X5_readOne__12 p3 s0 s1 s2).2.1 = q9 := ⟨_, rfl⟩
  have o_p1 : OV vw_TAPE Ps ws p1 sg_24 := by rw [← q_sg_24]; exact hfn.2.1
  obtain ⟨sg_25, q_sg_25⟩ : ∃ q9 : OS, (f_X5_readOne__12 p3 s0 s1 s2).2.2 = q9 := ⟨_, rfl⟩
  have o_p2 : OV vw_POST Ps ws p2 sg_25 := by rw [← q_sg_25]; exact hfn.2.2.1
  refine lv_iconst (v := 0) hx hb dX5_readCond_10 (by decide) ?_
  refine lv_istore (lv' := [(5, .int 0), (4, .int 0), (0, .ref p0), (1, .ref p1), (2, .ref p2), (3, .int p3)]) hx hb dX5_readCond_11 hl (by decide) rfl (fun ls hl => ?_)
  simp only [f_X5_readCond__12, ↓reduceIte, q_sg_23, q_sg_24, q_sg_25] at hE
  exact B13 4294967298 0 0 sg_23 sg_24 sg_25 ws _ _ ls (by have q0 := rl_0.1; have u0 := rl_0.2; omega) r_p3 (rl_0.to (by decide)) (rl_0.to (by decide)) o_p0 o_p1 o_p2 hE hw (lv_sub hl [2, 3, 4, 5, 1, 0] rfl)
abbrev wr_X5_readOne__11 : List (Nat × Nat) := [(5, 3), (5, 4), (7, 5), (7, 6), (7, 7), (7, 8), (7, 9), (7, 10), (7, 11)]
abbrev wa_X5_readOne__11 : List Nat := [21]
set_option maxHeartbeats 4000000 in
set_option maxRecDepth 100000 in
theorem c_X5_readOne__11 (l : Launch) (D : va_G) (cy : Nat → ClassId) (z : Nat → Nat) (sz : Nat) (Ps : PSI) (w0 : va_W) (hT : HT cy GG Ps w0) (p0 : Nat) (p1 : Nat) (p2 : Nat) (p3 : Int32) (s0 : OS) (s1 : OS) (s2 : OS) (h_p0 : (p0, 32) ∈ Ps) (h_p1 : (p1, 26) ∈ Ps) (h_p2 : (p2, 25) ∈ Ps) (r_p3 : RI p3 3 3) (o_p0 : OV vw_SENT Ps w0 p0 s0) (o_p1 : OV vw_TAPE Ps w0 p1 s1) (o_p2 : OV vw_POST Ps w0 p2 s2) : Met l yX5_readOne (Cond.code yX5_readOne cX5_readOne 5 none :: gT) ({ frames := 15, cells := 0, slots := 0, locals := 3000 } : Room) (va_Pc [.ref p0, .ref p1, .ref p2, .int p3] (PRE D cy z w0 sz)) (va_Qv (fun (u : va_W) => ((OV vw_SENT Ps u p0 ((f_X5_readOne__11 p3 s0 s1 s2).1) ∧ OV vw_TAPE Ps u p1 ((f_X5_readOne__11 p3 s0 s1 s2).2.1) ∧ OV vw_POST Ps u p2 ((f_X5_readOne__11 p3 s0 s1 s2).2.2) ∧ True) ∧ (True)) ∧ HT cy GG Ps u ∧ FR wr_X5_readOne__11 wa_X5_readOne__11 Ps w0 u) (BB D cy (va_A w0 sz) (fun (u : va_W) => u)) (va_A w0 sz)) 0 0 (va_A w0 sz) := by
  refine Met.ofW (cc := cX5_readOne) (maxL := 5) (ret := none) (by decide) rfl ?_
  intro p e s m args below meth c s₁ B hml hv
  obtain ⟨rfl, hsz, hP, hK, hD0, hSD⟩ := hv
  have hx := B.exec
  have hb := B.bytes
  have hr := B.returns
  have hlocks := B.notSynchronized
  have hts : ∀ w ∈ gT, w.before _ s = true := fun w h => atoms_spec (ws := Cond.code yX5_readOne cX5_readOne 5 none :: gT) B.pre w (List.mem_cons_of_mem _ h)
  have hown : s.vm.findClass RX5 = some m.cls := findClass_of_methodNamed B.named
  subst hsz
  have hD := hD0.self (sz := s.heap.size)
  generalize hAe : va_A w0 s.heap.size = A at hD hSD ⊢
  have hA : ∀ q : Nat, s.heap.size ≤ q → A q := fun q h => by rw [← hAe]; exact Or.inr h
  have hl := lv_entry ([.ref p0, .ref p1, .ref p2, .int p3]) (n := 5) (Nat.le_of_ble_eq_true rfl)
  rw [lg_entry_eq]
  generalize (lg_sl ([.ref p0, .ref p1, .ref p2, .int p3]) ++ List.replicate (5 - (lg_sl ([.ref p0, .ref p1, .ref p2, .int p3])).length) Slot.unset).toArray = ls at hl ⊢
  have hl : lv_has ls 5 [(0, .ref p0), (1, .ref p1), (2, .ref p2), (3, .int p3)] := hl
  refine nameQ (fun Q hQ => ?_)
  have hw : WD D cy GG A s wr_X5_readOne__11 wa_X5_readOne__11 Ps w0 Ps w0 s.heap [] := ⟨hT, hP, hD, va_S.rf, FR.rf, hT.1, [], (List.append_nil _).symm⟩
  obtain ⟨R9, hR⟩ : ∃ q9 : OS × OS × OS, f_X5_readOne__11 p3 s0 s1 s2 = q9 := ⟨_, rfl⟩
  have hE := hR
  have B57 : ∀ (x4 : Int32) (s0 : OS) (s1 : OS) (s2 : OS) (ws : va_W) (H : Heap) (locs : List Loc) (ls : Array Slot), RI p3 3 3 → RI x4 (-2147483648) 2147483647 → OV vw_SENT Ps ws p0 s0 → OV vw_TAPE Ps ws p1 s1 → OV vw_POST Ps ws p2 s2 → f_X5_readOne__11_57 p3 x4 s0 s1 s2 = R9 → WD D cy GG A s wr_X5_readOne__11 wa_X5_readOne__11 Ps w0 Ps ws H locs → lv_has ls 5 [(0, .ref p0), (1, .ref p1), (2, .ref p2), (3, .int p3), (4, .int x4)] → W p l e (headSpec (Cond.code yX5_readOne cX5_readOne 5 none :: gT) ({ frames := 15, cells := 0, slots := 0, locals := 3000 } : Room)).room s m ([.ref p0, .ref p1, .ref p2, .int p3] : List Value).toArray below meth c H locs 0 0 Q (F0 m 57 ls []) := by
    intro x4 s0 s1 s2 ws H locs ls r_p3 r_x4 o_p0 o_p1 o_p2 hE hw hl
    refine lv_aload_n hx hb dX5_readOne_57 rfl (lv_at hl 1 rfl) ?_
    refine tg_getN (ci := 7) (ts := ty_TAPE) (C := RX7) (T := TX7) (N := 12) hx hb hts inX7 hown hK hw h_p1 rfl rfl 10 (by decide) (hSD.nest tn_103) (fun _ h9 => h9) (ft := vI 0 4) rfl dX5_readOne_58 (fun u_1 hv_u_1 m_u_1 => ?_)
    obtain ⟨vu_1, rfl, r_vu_1⟩ := hv_u_1
    have q_vu_1 : s1.1 10 = vu_1 := OV.eqI (V := vw_TAPE) hw.2.2.1 o_p1 m_u_1 (by decide)
    refine lv_if_eq (tgt := 65) hx hb dX5_readOne_61 (by decide) (fun c_61 => ?_) (fun c_61 => ?_)
    · have r_vu_1 : RI vu_1 0 0 := rc_eq1 r_vu_1 rl_0 (ti_eq c_61) (by decide)
      refine lv_aload_n hx hb dX5_readOne_65 rfl (lv_at hl 1 rfl) ?_
      refine tk_v (va_runV (As := []) (rest := []) ⟨hx, hb, hml, hown, hts⟩ (c_X7_pass__5 l D cy z H.size Ps ws hw.1 p1 vu_1 s1 h_p1 r_vu_1 m_u_1 o_p1) (cwV 0 hts (gV tw_982 tw_425 tw_426 tw_2 tw_427) rfl rfl rfl (by decide +kernel) ⟨Nat.le_of_ble_eq_true rfl, Nat.le_of_ble_eq_true rfl⟩) (tg_preV hw hK hSD hA (ci := 7) (q := (RX7, TX7, 12)) rfl h_p1 rfl) rfl rfl hl.1 rfl (lv_room (Nat.le_of_ble_eq_true rfl)) dX5_readOne_66 ⟨Nat.le_of_ble_eq_true rfl, Nat.le_of_ble_eq_true rfl⟩) hw hA ⟨by decide, by decide⟩ (fun ws H locs hp_v_2 hw hF9 => ?_)
      have m_u_1 := FLD.over hF9 m_u_1 (by decide)
      obtain ⟨hfn, hp_v_2⟩ := hp_v_2
      have o_p0 := OV.over (V := vw_SENT) hF9 o_p0 (by decide)
      have o_p2 := OV.over (V := vw_POST) hF9 o_p2 (by decide)
      obtain ⟨sg_3, q_sg_3⟩ : ∃ q9 : OS, (f_X7_pass__5 s1) = q9 := ⟨_, rfl⟩
      have o_p1 : OV vw_TAPE Ps ws p1 sg_3 := by rw [← q_sg_3]; exact hfn.1
      obtain ⟨v_4, m_v_4, r_v_4⟩ := (hp_v_2.1)
      refine lv_aload_n hx hb dX5_readOne_69 rfl (lv_at hl 0 rfl) ?_
      refine lv_dup hx hb dX5_readOne_70 rfl ?_
      refine tg_get (ci := 5) (ts := ty_SENT) (C := RX5) (T := TX5) (N := 5) hx hb hts inX5 hown hK hw h_p0 rfl rfl 4 (by decide) (hts _ tw_955) (fun _ h9 => h9) (ft := vI (-2147483648) 2147483647) rfl dX5_readOne_71 (fun u_5 hv_u_5 m_u_5 => ?_)
      obtain ⟨vu_5, rfl, r_vu_5⟩ := hv_u_5
      have q_vu_5 : s0.1 4 = vu_5 := OV.eqI (V := vw_SENT) hw.2.2.1 o_p0 m_u_5 (by decide)
      refine lv_iconst (v := 1) hx hb dX5_readOne_74 (by decide) ?_
      refine lv_iadd hx hb dX5_readOne_75 (lv_topi (fun v_6 e_v_6 => ?_))
      have r_v_6 := ri_any v_6
      have q_v_6 : vu_5 + (1 : Int32) = v_6 := e_v_6.symm
      refine tg_put (ci := 5) (ts := ty_SENT) (v := .int v_6) (ty := .int) (C := RX5) (T := TX5) (N := 5) hx hb hts inX5 tyX5 tyX5_ok nmX5 hown hK hw h_p0 rfl rfl 4 (by decide) (hts _ tw_955) (fun _ h9 => h9) rfl (by decide +kernel) rfl rfl (ft := vI (-2147483648) 2147483647) rfl ⟨_, rfl, r_v_6⟩ (by decide) dX5_readOne_76 (fun ws H locs hw n_k_7 hF9 => ?_)
      have m_v_4 := FLD.over hF9 m_v_4 (by decide)
      have o_p1 := OV.over (V := vw_TAPE) hF9 o_p1 (by decide)
      have o_p2 := OV.over (V := vw_POST) hF9 o_p2 (by decide)
      obtain ⟨sg_8, q_sg_8⟩ : ∃ q9 : OS, sI s0 4 v_6 = q9 := ⟨_, rfl⟩
      have o_p0 : OV vw_SENT Ps ws p0 sg_8 := by rw [← q_sg_8]; exact OV.putI (V := vw_SENT) hF9 n_k_7 o_p0 (by decide)
      refine lv_iload hx hb dX5_readOne_79 (lv_at hl 4 rfl) ?_
      refine lv_sipush (v := 146) hx hb dX5_readOne_81 (by decide) ?_
      refine lv_icmp_ne (tgt := 108) hx hb dX5_readOne_84 (by decide) (fun c_84 => ?_) (fun c_84 => ?_)
      · refine lv_iload hx hb dX5_readOne_108 (lv_at hl 4 rfl) ?_
        refine lv_bipush (v := 40) hx hb dX5_readOne_110 (by decide) ?_
        refine lv_icmp_ne (tgt := 133) hx hb dX5_readOne_112 (by decide) (fun c_112 => ?_) (fun c_112 => ?_)
        · refine lv_aload_n hx hb dX5_readOne_133 rfl (lv_at hl 0 rfl) ?_
          refine lv_aload_n hx hb dX5_readOne_134 rfl (lv_at hl 1 rfl) ?_
          refine lv_aload_n hx hb dX5_readOne_135 rfl (lv_at hl 2 rfl) ?_
          refine lv_iload hx hb dX5_readOne_136 (lv_at hl 4 rfl) ?_
          refine tk_v (va_runV (As := [.ref p1, .ref p2, .int x4]) (rest := []) ⟨hx, hb, hml, hown, hts⟩ (c_X5_readPlain__1 l D cy z H.size Ps ws hw.1 p0 p1 p2 x4 sg_8 sg_3 s2 h_p0 h_p1 h_p2 r_x4 o_p0 o_p1 o_p2) (cwV 3 hts (gV tw_988 tw_990 ts_34 tw_23 tw_991) rfl rfl rfl (by decide +kernel) ⟨Nat.le_of_ble_eq_true rfl, Nat.le_of_ble_eq_true rfl⟩) (tg_preV hw hK hSD hA (ci := 5) (q := (RX5, TX5, 5)) rfl h_p0 rfl) rfl rfl hl.1 rfl (lv_room (Nat.le_of_ble_eq_true rfl)) dX5_readOne_138 ⟨Nat.le_of_ble_eq_true rfl, Nat.le_of_ble_eq_true rfl⟩) hw hA ⟨by decide, by decide⟩ (fun ws H locs hp_v_9 hw hF9 => ?_)
          have n_k_7 := FLD.over hF9 n_k_7 (by decide)
          obtain ⟨hfn, hp_v_9⟩ := hp_v_9
          obtain ⟨sg_10, q_sg_10⟩ : ∃ q9 : OS, (f_X5_readPlain__1 x4 sg_8 sg_3 s2).1 = q9 := ⟨_, rfl⟩
          have o_p0 : OV vw_SENT Ps ws p0 sg_10 := by rw [← q_sg_10]; exact hfn.1
          obtain ⟨sg_11, q_sg_11⟩ : ∃ q9 : OS, (f_X5_readPlain__1 x4 sg_8 sg_3 s2).2.1 = q9 := ⟨_, rfl⟩
          have o_p1 : OV vw_TAPE Ps ws p1 sg_11 := by rw [← q_sg_11]; exact hfn.2.1
          obtain ⟨sg_12, q_sg_12⟩ : ∃ q9 : OS, (f_X5_readPlain__1 x4 sg_8 sg_3 s2).2.2 = q9 := ⟨_, rfl⟩
          have o_p2 : OV vw_POST Ps ws p2 sg_12 := by rw [← q_sg_12]; exact hfn.2.2.1
          obtain ⟨v_13, m_v_13, r_v_13⟩ := (hp_v_9.1)
          simp only [f_X5_readOne__11_57, ↓reduceIte, q_vu_1, eq_true c_61, q_sg_3, q_vu_5, q_v_6, q_sg_8, eq_false c_84, eq_false c_112, q_sg_10, q_sg_11, q_sg_12] at hE
          subst hQ
          exact W.vret hx hb hr (fun t ht hW => ⟨⟨ws, rfl, ⟨⟨⟨(by rw [hR, ← hE]; exact o_p0), (by rw [hR, ← hE]; exact o_p1), (by rw [hR, ← hE]; exact o_p2), trivial⟩, trivial⟩, hw.1, hw.2.2.2.2.1⟩, by rw [ht]; exact hw.2.1, va_K.moved hW.alike hK, hw.2.2.1⟩, hw.2.2.2.1.F ht⟩) hw.2.2.2.1.2.2 dX5_readOne_141
        · have r_x4 : RI x4 40 40 := rc_eq1 r_x4 rl_40 (ti_eq c_112) (by decide)
          refine lv_aload_n hx hb dX5_readOne_115 rfl (lv_at hl 0 rfl) ?_
          refine lv_aload_n hx hb dX5_readOne_116 rfl (lv_at hl 1 rfl) ?_
          refine lv_aload_n hx hb dX5_readOne_117 rfl (lv_at hl 2 rfl) ?_
          refine lv_iload_n hx hb dX5_readOne_118 rfl (lv_at hl 3 rfl) ?_
          refine lv_iconst (v := 1) hx hb dX5_readOne_119 (by decide) ?_
          refine lv_iadd hx hb dX5_readOne_120 (lv_topi (fun v_14 e_v_14 => ?_))
          obtain ⟨t_v_14, r_v_14⟩ := tq_add (lo := 4) (hi := 4) r_p3 rl_1 (by decide +kernel) e_v_14
          have t_v_14 : v_14.toInt = p3.toInt + 1 := t_v_14
          have q_v_14 : p3 + (1 : Int32) = v_14 := e_v_14.symm
          refine tk_v (va_runV (As := [.ref p1, .ref p2, .int v_14]) (rest := []) ⟨hx, hb, hml, hown, hts⟩ (c_X5_readCond__12 l D cy z H.size Ps ws hw.1 p0 p1 p2 v_14 sg_8 sg_3 s2 h_p0 h_p1 h_p2 r_v_14 o_p0 o_p1 o_p2) (cwV 3 hts (gV tw_973 tw_975 ts_31 tw_23 tw_976) rfl rfl rfl (by decide +kernel) ⟨Nat.le_of_ble_eq_true rfl, Nat.le_of_ble_eq_true rfl⟩) (tg_preV hw hK hSD hA (ci := 5) (q := (RX5, TX5, 5)) rfl h_p0 rfl) rfl rfl hl.1 rfl (lv_room (Nat.le_of_ble_eq_true rfl)) dX5_readOne_121 ⟨Nat.le_of_ble_eq_true rfl, Nat.le_of_ble_eq_true rfl⟩) hw hA ⟨by decide, by decide⟩ (fun ws H locs hp_v_15 hw hF9 => ?_)
          obtain ⟨hfn, hp_v_15⟩ := hp_v_15
          obtain ⟨sg_16, q_sg_16⟩ : ∃ q9 : OS, (f_X5_readCond__12 v_14 sg_8 sg_3 s2).1 = q9 := ⟨_, rfl⟩
          have o_p0 : OV vw_SENT Ps ws p0 sg_16 := by rw [← q_sg_16]; exact hfn.1
          obtain ⟨sg_17, q_sg_17⟩ : ∃ q9 : OS, (f_X5_readCond__12 v_14 sg_8 sg_3 s2).2.1 = q9 := ⟨_, rfl⟩
          have o_p1 : OV vw_TAPE Ps ws p1 sg_17 := by rw [← q_sg_17]; exact hfn.2.1
          obtain ⟨sg_18, q_sg_18⟩ : ∃ q9 : OS, (f_X5_readCond__12 v_14 sg_8 sg_3 s2).2.2 = q9 := ⟨_, rfl⟩
          have o_p2 : OV vw_POST Ps ws p2 sg_18 := by rw [← q_sg_18]; exact hfn.2.2.1
          refine lv_aload_n hx hb dX5_readOne_124 rfl (lv_at hl 1 rfl) ?_
          refine lv_bipush (v := 41) hx hb dX5_readOne_125 (by decide) ?_
          refine tk_v (va_runV (As := [.int 41]) (rest := []) ⟨hx, hb, hml, hown, hts⟩ (c_X7_passOnly__3 l D cy z H.size Ps ws hw.1 p1 41 sg_17 h_p1 (rl_41.to (by decide)) o_p1) (cwV 1 hts (gV tw_987 tw_514 tw_515 tw_2 tw_516) rfl rfl rfl (by decide +kernel) ⟨Nat.le_of_ble_eq_true rfl, Nat.le_of_ble_eq_true rfl⟩) (tg_preV hw hK hSD hA (ci := 7) (q := (RX7, TX7, 12)) rfl h_p1 rfl) rfl rfl hl.1 rfl (lv_room (Nat.le_of_ble_eq_true rfl)) dX5_readOne_127 ⟨Nat.le_of_ble_eq_true rfl, Nat.le_of_ble_eq_true rfl⟩) hw hA ⟨by decide, by decide⟩ (fun ws H locs hp_v_19 hw hF9 => ?_)
          obtain ⟨hfn, hp_v_19⟩ := hp_v_19
          have o_p0 := OV.over (V := vw_SENT) hF9 o_p0 (by decide)
          have o_p2 := OV.over (V := vw_POST) hF9 o_p2 (by decide)
          obtain ⟨sg_20, q_sg_20⟩ : ∃ q9 : OS, (f_X7_passOnly__3 (41 : Int32) sg_17) = q9 := ⟨_, rfl⟩
          have o_p1 : OV vw_TAPE Ps ws p1 sg_20 := by rw [← q_sg_20]; exact hfn.1
          refine lv_goto (tgt := 141) hx hb dX5_readOne_130 (by decide) ?_
          simp only [f_X5_readOne__11_57, ↓reduceIte, q_vu_1, eq_true c_61, q_sg_3, q_vu_5, q_v_6, q_sg_8, eq_false c_84, eq_true c_112, q_v_14, q_sg_16, q_sg_17, q_sg_18, q_sg_20] at hE
          subst hQ
          exact W.vret hx hb hr (fun t ht hW => ⟨⟨ws, rfl, ⟨⟨⟨(by rw [hR, ← hE]; exact o_p0), (by rw [hR, ← hE]; exact o_p1), (by rw [hR, ← hE]; exact o_p2), trivial⟩, trivial⟩, hw.1, hw.2.2.2.2.1⟩, by rw [ht]; exact hw.2.1, va_K.moved hW.alike hK, hw.2.2.1⟩, hw.2.2.2.1.F ht⟩) hw.2.2.2.1.2.2 dX5_readOne_141
      · have r_x4 : RI x4 146 146 := rc_eq1 r_x4 rl_146 (ti_eq c_84) (by decide)
        refine lv_aload_n hx hb dX5_readOne_87 rfl (lv_at hl 0 rfl) ?_
        refine lv_aload_n hx hb dX5_readOne_88 rfl (lv_at hl 1 rfl) ?_
        refine lv_aload_n hx hb dX5_readOne_89 rfl (lv_at hl 2 rfl) ?_
        refine lv_iload_n hx hb dX5_readOne_90 rfl (lv_at hl 3 rfl) ?_
        refine lv_iconst (v := 1) hx hb dX5_readOne_91 (by decide) ?_
        refine lv_iadd hx hb dX5_readOne_92 (lv_topi (fun v_21 e_v_21 => ?_))
        obtain ⟨t_v_21, r_v_21⟩ := tq_add (lo := 4) (hi := 4) r_p3 rl_1 (by decide +kernel) e_v_21
        have t_v_21 : v_21.toInt = p3.toInt + 1 := t_v_21
        have q_v_21 : p3 + (1 : Int32) = v_21 := e_v_21.symm
        refine tk_v (va_runV (As := [.ref p1, .ref p2, .int v_21]) (rest := []) ⟨hx, hb, hml, hown, hts⟩ (c_X5_readOne__12 l D cy z H.size Ps ws hw.1 p0 p1 p2 v_21 sg_8 sg_3 s2 h_p0 h_p1 h_p2 r_v_21 o_p0 o_p1 o_p2) (cwV 3 hts (gV tw_977 tw_979 ts_32 tw_23 tw_980) rfl rfl rfl (by decide +kernel) ⟨Nat.le_of_ble_eq_true rfl, Nat.le_of_ble_eq_true rfl⟩) (tg_preV hw hK hSD hA (ci := 5) (q := (RX5, TX5, 5)) rfl h_p0 rfl) rfl rfl hl.1 rfl (lv_room (Nat.le_of_ble_eq_true rfl)) dX5_readOne_93 ⟨Nat.le_of_ble_eq_true rfl, Nat.le_of_ble_eq_true rfl⟩) hw hA ⟨by decide, by decide⟩ (fun ws H locs hp_v_22 hw hF9 => ?_)
        obtain ⟨hfn, hp_v_22⟩ := hp_v_22
        obtain ⟨sg_23, q_sg_23⟩ : ∃ q9 : OS, (f_X5_readOne__12 v_21 sg_8 sg_3 s2).1 = q9 := ⟨_, rfl⟩
        have o_p0 : OV vw_SENT Ps ws p0 sg_23 := by rw [← q_sg_23]; exact hfn.1
        obtain ⟨sg_24, q_sg_24⟩ : ∃ q9 : OS, (f_X5_readOne__12 v_21 sg_8 sg_3 s2).2.1 = q9 := ⟨_, rfl⟩
        have o_p1 : OV vw_TAPE Ps ws p1 sg_24 := by rw [← q_sg_24]; exact hfn.2.1
        obtain ⟨sg_25, q_sg_25⟩ : ∃ q9 : OS, (f_X5_readOne__12 v_21 sg_8 sg_3 s2).2.2 = q9 := ⟨_, rfl⟩
        have o_p2 : OV vw_POST Ps ws p2 sg_25 := by rw [← q_sg_25]; exact hfn.2.2.1
        refine lv_aload_n hx hb dX5_readOne_96 rfl (lv_at hl 0 rfl) ?_
        refine lv_sipush (v := 146) hx hb dX5_readOne_97 (by decide) ?_
        refine lv_iconst (v := 0) hx hb dX5_readOne_100 (by decide) ?_
        refine lv_iconst (v := 0) hx hb dX5_readOne_101 (by decide) ?_
        refine tk_v (va_runV (As := [.int 146, .int 0, .int 0]) (rest := []) ⟨hx, hb, hml, hown, hts⟩ (c_X5_addStep__1 l D cy z H.size Ps ws hw.1 p0 146 0 0 sg_23 h_p0 (rl_146.to (by decide)) (rl_0.to (by decide)) (rl_0.to (by decide)) o_p0) (cwV 3 hts (gV tw_983 tw_985 ts_33 tw_23 tw_986) rfl rfl rfl (by decide +kernel) ⟨Nat.le_of_ble_eq_true rfl, Nat.le_of_ble_eq_true rfl⟩) (tg_preV hw hK hSD hA (ci := 5) (q := (RX5, TX5, 5)) rfl h_p0 rfl) rfl rfl hl.1 rfl (lv_room (Nat.le_of_ble_eq_true rfl)) dX5_readOne_102 ⟨Nat.le_of_ble_eq_true rfl, Nat.le_of_ble_eq_true rfl⟩) hw hA ⟨by decide, by decide⟩ (fun ws H locs hp_v_26 hw hF9 => ?_)
        obtain ⟨hfn, hp_v_26⟩ := hp_v_26
        have o_p1 := OV.over (V := vw_TAPE) hF9 o_p1 (by decide)
        have o_p2 := OV.over (V := vw_POST) hF9 o_p2 (by decide)
        obtain ⟨sg_27, q_sg_27⟩ : ∃ q9 : OS, (f_X5_addStep__1 (146 : Int32) (0 : Int32) (0 : Int32) sg_23) = q9 := ⟨_, rfl⟩
        have o_p0 : OV vw_SENT Ps ws p0 sg_27 := by rw [← q_sg_27]; exact hfn.1
        obtain ⟨v_28, m_v_28, r_v_28⟩ := (hp_v_26.1)
        refine lv_goto (tgt := 141) hx hb dX5_readOne_105 (by decide) ?_
        simp only [f_X5_readOne__11_57, ↓reduceIte, q_vu_1, eq_true c_61, q_sg_3, q_vu_5, q_v_6, q_sg_8, eq_true c_84, q_v_21, q_sg_23, q_sg_24, q_sg_25, q_sg_27] at hE
        subst hQ
        exact W.vret hx hb hr (fun t ht hW => ⟨⟨ws, rfl, ⟨⟨⟨(by rw [hR, ← hE]; exact o_p0), (by rw [hR, ← hE]; exact o_p1), (by rw [hR, ← hE]; exact o_p2), trivial⟩, trivial⟩, hw.1, hw.2.2.2.2.1⟩, by rw [ht]; exact hw.2.1, va_K.moved hW.alike hK, hw.2.2.1⟩, hw.2.2.2.1.F ht⟩) hw.2.2.2.1.2.2 dX5_readOne_141
    · have r_vu_1 : RI vu_1 1 4 := rc_neL r_vu_1 rl_0 (ti_ne c_61) (by decide)
      simp only [f_X5_readOne__11_57, ↓reduceIte, q_vu_1, eq_false c_61] at hE
      subst hQ
      exact W.vret hx hb hr (fun t ht hW => ⟨⟨ws, rfl, ⟨⟨⟨(by rw [hR, ← hE]; exact o_p0), (by rw [hR, ← hE]; exact o_p1), (by rw [hR, ← hE]; exact o_p2), trivial⟩, trivial⟩, hw.1, hw.2.2.2.2.1⟩, by rw [ht]; exact hw.2.1, va_K.moved hW.alike hK, hw.2.2.1⟩, hw.2.2.2.1.F ht⟩) hw.2.2.2.1.2.2 dX5_readOne_64
  have B52 : ∀ (x4 : Int32) (z0_4 : Int32) (z1_7 : Int32) (s0 : OS) (s1 : OS) (s2 : OS) (ws : va_W) (H : Heap) (locs : List Loc) (ls : Array Slot), RI p3 3 3 → RI x4 40 155 → RI z0_4 20 2147483647 → FLD ws p0 5 4 (.int z0_4) → RI z1_7 40 155 → FLD ws p1 7 7 (.int z1_7) → OV vw_SENT Ps ws p0 s0 → OV vw_TAPE Ps ws p1 s1 → OV vw_POST Ps ws p2 s2 → f_X5_readOne__11_52 p3 x4 s0 s1 s2 = R9 → WD D cy GG A s wr_X5_readOne__11 wa_X5_readOne__11 Ps w0 Ps ws H locs → lv_has ls 5 [(0, .ref p0), (1, .ref p1), (2, .ref p2), (3, .int p3), (4, .int x4)] → W p l e (headSpec (Cond.code yX5_readOne cX5_readOne 5 none :: gT) ({ frames := 15, cells := 0, slots := 0, locals := 3000 } : Room)).room s m ([.ref p0, .ref p1, .ref p2, .int p3] : List Value).toArray below meth c H locs 0 0 Q (F0 m 52 ls []) := by
    intro x4 z0_4 z1_7 s0 s1 s2 ws H locs ls r_p3 r_x4 r_z0_4 m_z0_4 r_z1_7 m_z1_7 o_p0 o_p1 o_p2 hE hw hl
    have q_z0_4 : s0.1 4 = z0_4 := OV.eqI (V := vw_SENT) hw.2.2.1 o_p0 m_z0_4 (by decide)
    have q_z1_7 : s1.1 7 = z1_7 := OV.eqI (V := vw_TAPE) hw.2.2.1 o_p1 m_z1_7 (by decide)
    refine lv_aload_n hx hb dX5_readOne_52 rfl (lv_at hl 1 rfl) ?_
    refine lv_iconst (v := 4) hx hb dX5_readOne_53 (by decide) ?_
    refine tk_v (va_runV (As := [.int 4]) (rest := []) ⟨hx, hb, hml, hown, hts⟩ (c_X7_refuse__4 l D cy z H.size Ps ws hw.1 p1 4 s1 h_p1 (rl_4.to (by decide)) o_p1) (cwV 1 hts (gV tw_981 tw_443 tw_444 tw_2 tw_445) rfl rfl rfl (by decide +kernel) ⟨Nat.le_of_ble_eq_true rfl, Nat.le_of_ble_eq_true rfl⟩) (tg_preV hw hK hSD hA (ci := 7) (q := (RX7, TX7, 12)) rfl h_p1 rfl) rfl rfl hl.1 rfl (lv_room (Nat.le_of_ble_eq_true rfl)) dX5_readOne_54 ⟨Nat.le_of_ble_eq_true rfl, Nat.le_of_ble_eq_true rfl⟩) hw hA ⟨by decide, by decide⟩ (fun ws H locs hp_v_29 hw hF9 => ?_)
    have m_z0_4 := FLD.over hF9 m_z0_4 (by decide)
    have m_z1_7 := FLD.over hF9 m_z1_7 (by decide)
    obtain ⟨hfn, hp_v_29⟩ := hp_v_29
    have o_p0 := OV.over (V := vw_SENT) hF9 o_p0 (by decide)
    have o_p2 := OV.over (V := vw_POST) hF9 o_p2 (by decide)
    obtain ⟨sg_30, q_sg_30⟩ : ∃ q9 : OS, (f_X7_refuse__4 (4 : Int32) s1) = q9 := ⟨_, rfl⟩
    have o_p1 : OV vw_TAPE Ps ws p1 sg_30 := by rw [← q_sg_30]; exact hfn.1
    obtain ⟨v_31, m_v_31, r_v_31⟩ := (hp_v_29.1)
    simp only [f_X5_readOne__11_52, ↓reduceIte, q_z0_4, q_z1_7, q_sg_30] at hE
    exact B57 x4 s0 sg_30 s2 ws _ _ ls r_p3 (r_x4.to (by decide)) o_p0 o_p1 o_p2 hE hw hl
  have B37 : ∀ (x4 : Int32) (z1_7 : Int32) (s0 : OS) (s1 : OS) (s2 : OS) (ws : va_W) (H : Heap) (locs : List Loc) (ls : Array Slot), RI p3 3 3 → RI x4 40 155 → RI z1_7 40 155 → FLD ws p1 7 7 (.int z1_7) → OV vw_SENT Ps ws p0 s0 → OV vw_TAPE Ps ws p1 s1 → OV vw_POST Ps ws p2 s2 → f_X5_readOne__11_37 p3 x4 s0 s1 s2 = R9 → WD D cy GG A s wr_X5_readOne__11 wa_X5_readOne__11 Ps w0 Ps ws H locs → lv_has ls 5 [(0, .ref p0), (1, .ref p1), (2, .ref p2), (3, .int p3), (4, .int x4)] → W p l e (headSpec (Cond.code yX5_readOne cX5_readOne 5 none :: gT) ({ frames := 15, cells := 0, slots := 0, locals := 3000 } : Room)).room s m ([.ref p0, .ref p1, .ref p2, .int p3] : List Value).toArray below meth c H locs 0 0 Q (F0 m 37 ls []) := by
    intro x4 z1_7 s0 s1 s2 ws H locs ls r_p3 r_x4 r_z1_7 m_z1_7 o_p0 o_p1 o_p2 hE hw hl
    have q_z1_7 : s1.1 7 = z1_7 := OV.eqI (V := vw_TAPE) hw.2.2.1 o_p1 m_z1_7 (by decide)
    refine lv_aload_n hx hb dX5_readOne_37 rfl (lv_at hl 0 rfl) ?_
    refine tg_get (ci := 5) (ts := ty_SENT) (C := RX5) (T := TX5) (N := 5) hx hb hts inX5 hown hK hw h_p0 rfl rfl 4 (by decide) (hts _ tw_955) (fun _ h9 => h9) (ft := vI (-2147483648) 2147483647) rfl dX5_readOne_38 (fun u_32 hv_u_32 m_u_32 => ?_)
    obtain ⟨vu_32, rfl, r_vu_32⟩ := hv_u_32
    have q_vu_32 : s0.1 4 = vu_32 := OV.eqI (V := vw_SENT) hw.2.2.1 o_p0 m_u_32 (by decide)
    refine lv_bipush (v := 20) hx hb dX5_readOne_41 (by decide) ?_
    refine lv_icmp_ge (tgt := 52) hx hb dX5_readOne_43 (by decide) (fun c_43 => ?_) (fun c_43 => ?_)
    · have r_vu_32 : RI vu_32 20 2147483647 := rc_le2 rl_20 r_vu_32 (ti_le c_43) (by decide)
      simp only [f_X5_readOne__11_37, ↓reduceIte, q_z1_7, q_vu_32, eq_true c_43] at hE
      exact B52 x4 vu_32 z1_7 s0 s1 s2 ws _ _ ls r_p3 r_x4 r_vu_32 m_u_32 r_z1_7 m_z1_7 o_p0 o_p1 o_p2 hE hw hl
    · have r_vu_32 : RI vu_32 (-2147483648) 19 := rc_lt1 r_vu_32 rl_20 (ti_nle c_43) (by decide)
      refine lv_iload_n hx hb dX5_readOne_46 rfl (lv_at hl 3 rfl) ?_
      refine lv_bipush (v := 8) hx hb dX5_readOne_47 (by decide) ?_
      refine lv_icmp_le (tgt := 57) hx hb dX5_readOne_49 (by decide) (fun c_49 => ?_) (fun c_49 => ?_)
      · simp only [f_X5_readOne__11_37, ↓reduceIte, q_z1_7, q_vu_32, eq_false c_43, eq_true c_49] at hE
        exact B57 x4 s0 s1 s2 ws _ _ ls r_p3 (r_x4.to (by decide)) o_p0 o_p1 o_p2 hE hw hl
      · have r_p3 : RI p3 9 3 := rc_lt2 rl_8 r_p3 (ti_nle c_49) (by decide)
        exact (r_p3.no (by decide)).elim
  have B29 : ∀ (x4 : Int32) (s0 : OS) (s1 : OS) (s2 : OS) (ws : va_W) (H : Heap) (locs : List Loc) (ls : Array Slot), RI p3 3 3 → RI x4 (-2147483648) 2147483647 → OV vw_SENT Ps ws p0 s0 → OV vw_TAPE Ps ws p1 s1 → OV vw_POST Ps ws p2 s2 → f_X5_readOne__11_29 p3 x4 s0 s1 s2 = R9 → WD D cy GG A s wr_X5_readOne__11 wa_X5_readOne__11 Ps w0 Ps ws H locs → lv_has ls 5 [(0, .ref p0), (1, .ref p1), (2, .ref p2), (3, .int p3), (4, .int x4)] → W p l e (headSpec (Cond.code yX5_readOne cX5_readOne 5 none :: gT) ({ frames := 15, cells := 0, slots := 0, locals := 3000 } : Room)).room s m ([.ref p0, .ref p1, .ref p2, .int p3] : List Value).toArray below meth c H locs 0 0 Q (F0 m 29 ls []) := by
    intro x4 s0 s1 s2 ws H locs ls r_p3 r_x4 o_p0 o_p1 o_p2 hE hw hl
    refine lv_aload_n hx hb dX5_readOne_29 rfl (lv_at hl 1 rfl) ?_
    refine lv_iconst (v := 1) hx hb dX5_readOne_30 (by decide) ?_
    refine tk_v (va_runV (As := [.int 1]) (rest := []) ⟨hx, hb, hml, hown, hts⟩ (c_X7_refuse__4 l D cy z H.size Ps ws hw.1 p1 1 s1 h_p1 (rl_1.to (by decide)) o_p1) (cwV 1 hts (gV tw_981 tw_443 tw_444 tw_2 tw_445) rfl rfl rfl (by decide +kernel) ⟨Nat.le_of_ble_eq_true rfl, Nat.le_of_ble_eq_true rfl⟩) (tg_preV hw hK hSD hA (ci := 7) (q := (RX7, TX7, 12)) rfl h_p1 rfl) rfl rfl hl.1 rfl (lv_room (Nat.le_of_ble_eq_true rfl)) dX5_readOne_31 ⟨Nat.le_of_ble_eq_true rfl, Nat.le_of_ble_eq_true rfl⟩) hw hA ⟨by decide, by decide⟩ (fun ws H locs hp_v_33 hw hF9 => ?_)
    obtain ⟨hfn, hp_v_33⟩ := hp_v_33
    have o_p0 := OV.over (V := vw_SENT) hF9 o_p0 (by decide)
    have o_p2 := OV.over (V := vw_POST) hF9 o_p2 (by decide)
    obtain ⟨sg_34, q_sg_34⟩ : ∃ q9 : OS, (f_X7_refuse__4 (1 : Int32) s1) = q9 := ⟨_, rfl⟩
    have o_p1 : OV vw_TAPE Ps ws p1 sg_34 := by rw [← q_sg_34]; exact hfn.1
    obtain ⟨v_35, m_v_35, r_v_35⟩ := (hp_v_33.1)
    refine lv_goto (tgt := 57) hx hb dX5_readOne_34 (by decide) ?_
    simp only [f_X5_readOne__11_29, ↓reduceIte, q_sg_34] at hE
    exact B57 x4 s0 sg_34 s2 ws _ _ ls r_p3 r_x4 o_p0 o_p1 o_p2 hE hw hl
  refine lv_aload_n hx hb dX5_readOne_0 rfl (lv_at hl 1 rfl) ?_
  refine tg_getN (ci := 7) (ts := ty_TAPE) (C := RX7) (T := TX7) (N := 12) hx hb hts inX7 hown hK hw h_p1 rfl rfl 7 (by decide) (hSD.nest tn_96) (fun _ h9 => h9) (ft := vI (-2147483648) 2147483647) rfl dX5_readOne_1 (fun u_36 hv_u_36 m_u_36 => ?_)
  obtain ⟨vu_36, rfl, r_vu_36⟩ := hv_u_36
  have q_vu_36 : s1.1 7 = vu_36 := OV.eqI (V := vw_TAPE) hw.2.2.1 o_p1 m_u_36 (by decide)
  refine lv_istore (lv' := [(4, .int vu_36), (0, .ref p0), (1, .ref p1), (2, .ref p2), (3, .int p3)]) hx hb dX5_readOne_4 hl (by decide) rfl (fun ls hl => ?_)
  refine lv_iload hx hb dX5_readOne_6 (lv_at hl 0 rfl) ?_
  refine lv_bipush (v := 40) hx hb dX5_readOne_8 (by decide) ?_
  refine lv_icmp_eq (tgt := 37) hx hb dX5_readOne_10 (by decide) (fun c_10 => ?_) (fun c_10 => ?_)
  · have r_vu_36 : RI vu_36 40 40 := rc_eq1 r_vu_36 rl_40 (ti_eq c_10) (by decide)
    simp only [f_X5_readOne__11, ↓reduceIte, q_vu_36, eq_true c_10] at hE
    exact B37 vu_36 vu_36 s0 s1 s2 w0 _ _ ls r_p3 (r_vu_36.to (by decide)) (r_vu_36.to (by decide)) m_u_36 o_p0 o_p1 o_p2 hE hw (lv_sub hl [1, 2, 3, 4, 0] rfl)
  · refine lv_iload hx hb dX5_readOne_13 (lv_at hl 0 rfl) ?_
    refine lv_sipush (v := 146) hx hb dX5_readOne_15 (by decide) ?_
    refine lv_icmp_lt (tgt := 29) hx hb dX5_readOne_18 (by decide) (fun c_18 => ?_) (fun c_18 => ?_)
    · have r_vu_36 : RI vu_36 (-2147483648) 145 := rc_lt1 r_vu_36 rl_146 (ti_lt c_18) (by decide)
      simp only [f_X5_readOne__11, ↓reduceIte, q_vu_36, eq_false c_10, eq_true c_18] at hE
      exact B29 vu_36 s0 s1 s2 w0 _ _ ls r_p3 (r_vu_36.to (by decide)) o_p0 o_p1 o_p2 hE hw (lv_sub hl [1, 2, 3, 4, 0] rfl)
    · have r_vu_36 : RI vu_36 146 2147483647 := rc_le2 rl_146 r_vu_36 (ti_nlt c_18) (by decide)
      refine lv_iload hx hb dX5_readOne_21 (lv_at hl 0 rfl) ?_
      refine lv_sipush (v := 155) hx hb dX5_readOne_23 (by decide) ?_
      refine lv_icmp_le (tgt := 37) hx hb dX5_readOne_26 (by decide) (fun c_26 => ?_) (fun c_26 => ?_)
      · have r_vu_36 : RI vu_36 146 155 := rc_le1 r_vu_36 rl_155 (ti_le c_26) (by decide)
        simp only [f_X5_readOne__11, ↓reduceIte, q_vu_36, eq_false c_10, eq_false c_18, eq_true c_26] at hE
        exact B37 vu_36 vu_36 s0 s1 s2 w0 _ _ ls r_p3 (r_vu_36.to (by decide)) (r_vu_36.to (by decide)) m_u_36 o_p0 o_p1 o_p2 hE hw (lv_sub hl [1, 2, 3, 4, 0] rfl)
      · have r_vu_36 : RI vu_36 156 2147483647 := rc_lt2 rl_155 r_vu_36 (ti_nle c_26) (by decide)
        simp only [f_X5_readOne__11, ↓reduceIte, q_vu_36, eq_false c_10, eq_false c_18, eq_false c_26] at hE
        exact B29 vu_36 s0 s1 s2 w0 _ _ ls r_p3 (r_vu_36.to (by decide)) o_p0 o_p1 o_p2 hE hw (lv_sub hl [1, 2, 3, 4, 0] rfl)
abbrev wr_X5_readCond__11 : List (Nat × Nat) := [(5, 3), (5, 4), (7, 5), (7, 6), (7, 7), (7, 8), (7, 9), (7, 10), (7, 11)]
abbrev wa_X5_readCond__11 : List Nat := [21]
set_option maxHeartbeats 4000000 in
set_option maxRecDepth 100000 in
theorem c_X5_readCond__11 (l : Launch) (D : va_G) (cy : Nat → ClassId) (z : Nat → Nat) (sz : Nat) (Ps : PSI) (w0 : va_W) (hT : HT cy GG Ps w0) (p0 : Nat) (p1 : Nat) (p2 : Nat) (p3 : Int32) (s0 : OS) (s1 : OS) (s2 : OS) (h_p0 : (p0, 32) ∈ Ps) (h_p1 : (p1, 26) ∈ Ps) (h_p2 : (p2, 25) ∈ Ps) (r_p3 : RI p3 3 3) (o_p0 : OV vw_SENT Ps w0 p0 s0) (o_p1 : OV vw_TAPE Ps w0 p1 s1) (o_p2 : OV vw_POST Ps w0 p2 s2) : Met l yX5_readCond (Cond.code yX5_readCond cX5_readCond 7 none :: gT) ({ frames := 16, cells := 0, slots := 0, locals := 3200 } : Room) (va_Pc [.ref p0, .ref p1, .ref p2, .int p3] (PRE D cy z w0 sz)) (va_Qv (fun (u : va_W) => ((OV vw_SENT Ps u p0 ((f_X5_readCond__11 p3 s0 s1 s2).1) ∧ OV vw_TAPE Ps u p1 ((f_X5_readCond__11 p3 s0 s1 s2).2.1) ∧ OV vw_POST Ps u p2 ((f_X5_readCond__11 p3 s0 s1 s2).2.2) ∧ True) ∧ (True)) ∧ HT cy GG Ps u ∧ FR wr_X5_readCond__11 wa_X5_readCond__11 Ps w0 u) (BB D cy (va_A w0 sz) (fun (u : va_W) => u)) (va_A w0 sz)) 0 0 (va_A w0 sz) := by
  refine Met.ofW (cc := cX5_readCond) (maxL := 7) (ret := none) (by decide) rfl ?_
  intro p e s m args below meth c s₁ B hml hv
  obtain ⟨rfl, hsz, hP, hK, hD0, hSD⟩ := hv
  have hx := B.exec
  have hb := B.bytes
  have hr := B.returns
  have hlocks := B.notSynchronized
  have hts : ∀ w ∈ gT, w.before _ s = true := fun w h => atoms_spec (ws := Cond.code yX5_readCond cX5_readCond 7 none :: gT) B.pre w (List.mem_cons_of_mem _ h)
  have hown : s.vm.findClass RX5 = some m.cls := findClass_of_methodNamed B.named
  subst hsz
  have hD := hD0.self (sz := s.heap.size)
  generalize hAe : va_A w0 s.heap.size = A at hD hSD ⊢
  have hA : ∀ q : Nat, s.heap.size ≤ q → A q := fun q h => by rw [← hAe]; exact Or.inr h
  have hl := lv_entry ([.ref p0, .ref p1, .ref p2, .int p3]) (n := 7) (Nat.le_of_ble_eq_true rfl)
  rw [lg_entry_eq]
  generalize (lg_sl ([.ref p0, .ref p1, .ref p2, .int p3]) ++ List.replicate (7 - (lg_sl ([.ref p0, .ref p1, .ref p2, .int p3])).length) Slot.unset).toArray = ls at hl ⊢
  have hl : lv_has ls 7 [(0, .ref p0), (1, .ref p1), (2, .ref p2), (3, .int p3)] := hl
  refine nameQ (fun Q hQ => ?_)
  have hw : WD D cy GG A s wr_X5_readCond__11 wa_X5_readCond__11 Ps w0 Ps w0 s.heap [] := ⟨hT, hP, hD, va_S.rf, FR.rf, hT.1, [], (List.append_nil _).symm⟩
  obtain ⟨R9, hR⟩ : ∃ q9 : OS × OS × OS, f_X5_readCond__11 p3 s0 s1 s2 = q9 := ⟨_, rfl⟩
  have hE := hR
  have B106 : ∀ (x4 : Int32) (x5 : Int32) (s0 : OS) (s1 : OS) (s2 : OS) (ws : va_W) (H : Heap) (locs : List Loc) (ls : Array Slot), RI p3 3 3 → RI x4 (-2147483648) 2147483647 → RI x5 0 21 → OV vw_SENT Ps ws p0 s0 → OV vw_TAPE Ps ws p1 s1 → OV vw_POST Ps ws p2 s2 → f_X5_readCond__11_106 p3 x4 x5 s0 s1 s2 = R9 → WD D cy GG A s wr_X5_readCond__11 wa_X5_readCond__11 Ps w0 Ps ws H locs → lv_has ls 7 [(0, .ref p0), (1, .ref p1), (2, .ref p2), (3, .int p3), (4, .int x4), (5, .int x5)] → W p l e (headSpec (Cond.code yX5_readCond cX5_readCond 7 none :: gT) ({ frames := 16, cells := 0, slots := 0, locals := 3200 } : Room)).room s m ([.ref p0, .ref p1, .ref p2, .int p3] : List Value).toArray below meth c H locs 0 0 Q (F0 m 106 ls []) := by
    intro x4 x5 s0 s1 s2 ws H locs ls r_p3 r_x4 r_x5 o_p0 o_p1 o_p2 hE hw hl
    refine lv_iload hx hb dX5_readCond_106 (lv_at hl 4 rfl) ?_
    refine lv_if_eq (tgt := 120) hx hb dX5_readCond_108 (by decide) (fun c_108 => ?_) (fun c_108 => ?_)
    · have r_x4 : RI x4 0 0 := rc_eq1 r_x4 rl_0 (ti_eq c_108) (by decide)
      simp only [f_X5_readCond__11_106, ↓reduceIte, eq_true c_108] at hE
      subst hQ
      exact W.vret hx hb hr (fun t ht hW => ⟨⟨ws, rfl, ⟨⟨⟨(by rw [hR, ← hE]; exact o_p0), (by rw [hR, ← hE]; exact o_p1), (by rw [hR, ← hE]; exact o_p2), trivial⟩, trivial⟩, hw.1, hw.2.2.2.2.1⟩, by rw [ht]; exact hw.2.1, va_K.moved hW.alike hK, hw.2.2.1⟩, hw.2.2.2.1.F ht⟩) hw.2.2.2.1.2.2 dX5_readCond_120
    · refine lv_aload_n hx hb dX5_readCond_111 rfl (lv_at hl 0 rfl) ?_
      refine lv_sipush (v := 144) hx hb dX5_readCond_112 (by decide) ?_
      refine lv_iconst (v := 0) hx hb dX5_readCond_115 (by decide) ?_
      refine lv_iconst (v := 0) hx hb dX5_readCond_116 (by decide) ?_
      refine tk_v (va_runV (As := [.int 144, .int 0, .int 0]) (rest := []) ⟨hx, hb, hml, hown, hts⟩ (c_X5_addStep__1 l D cy z H.size Ps ws hw.1 p0 144 0 0 s0 h_p0 (rl_144.to (by decide)) (rl_0.to (by decide)) (rl_0.to (by decide)) o_p0) (cwV 3 hts (gV tw_983 tw_985 ts_33 tw_23 tw_986) rfl rfl rfl (by decide +kernel) ⟨Nat.le_of_ble_eq_true rfl, Nat.le_of_ble_eq_true rfl⟩) (tg_preV hw hK hSD hA (ci := 5) (q := (RX5, TX5, 5)) rfl h_p0 rfl) rfl rfl hl.1 rfl (lv_room (Nat.le_of_ble_eq_true rfl)) dX5_readCond_117 ⟨Nat.le_of_ble_eq_true rfl, Nat.le_of_ble_eq_true rfl⟩) hw hA ⟨by decide, by decide⟩ (fun ws H locs hp_v_1 hw hF9 => ?_)
      obtain ⟨hfn, hp_v_1⟩ := hp_v_1
      have o_p1 := OV.over (V := vw_TAPE) hF9 o_p1 (by decide)
      have o_p2 := OV.over (V := vw_POST) hF9 o_p2 (by decide)
      obtain ⟨sg_2, q_sg_2⟩ : ∃ q9 : OS, (f_X5_addStep__1 (144 : Int32) (0 : Int32) (0 : Int32) s0) = q9 := ⟨_, rfl⟩
      have o_p0 : OV vw_SENT Ps ws p0 sg_2 := by rw [← q_sg_2]; exact hfn.1
      obtain ⟨v_3, m_v_3, r_v_3⟩ := (hp_v_1.1)
      simp only [f_X5_readCond__11_106, ↓reduceIte, eq_false c_108, q_sg_2] at hE
      subst hQ
      exact W.vret hx hb hr (fun t ht hW => ⟨⟨ws, rfl, ⟨⟨⟨(by rw [hR, ← hE]; exact o_p0), (by rw [hR, ← hE]; exact o_p1), (by rw [hR, ← hE]; exact o_p2), trivial⟩, trivial⟩, hw.1, hw.2.2.2.2.1⟩, by rw [ht]; exact hw.2.1, va_K.moved hW.alike hK, hw.2.2.1⟩, hw.2.2.2.1.F ht⟩) hw.2.2.2.1.2.2 dX5_readCond_120
  have B13 : ∀ (nf : Nat) (x4 : Int32) (x5 : Int32) (s0 : OS) (s1 : OS) (s2 : OS) (ws : va_W) (H : Heap) (locs : List Loc) (ls : Array Slot), 20 - x5.toInt < (nf : Int) → RI p3 3 3 → RI x4 (-2147483648) 2147483647 → RI x5 0 20 → OV vw_SENT Ps ws p0 s0 → OV vw_TAPE Ps ws p1 s1 → OV vw_POST Ps ws p2 s2 → f_X5_readCond__11_13 p3 nf x4 x5 s0 s1 s2 = R9 → WD D cy GG A s wr_X5_readCond__11 wa_X5_readCond__11 Ps w0 Ps ws H locs → lv_has ls 7 [(0, .ref p0), (1, .ref p1), (2, .ref p2), (3, .int p3), (4, .int x4), (5, .int x5)] → W p l e (headSpec (Cond.code yX5_readCond cX5_readCond 7 none :: gT) ({ frames := 16, cells := 0, slots := 0, locals := 3200 } : Room)).room s m ([.ref p0, .ref p1, .ref p2, .int p3] : List Value).toArray below meth c H locs 0 0 Q (F0 m 13 ls []) := by
    intro nf13
    induction nf13 with
    | zero =>
      intro x4 x5 s0 s1 s2 ws H locs ls hn13 r_p3 r_x4 r_x5 o_p0 o_p1 o_p2 hE hw hl
      exact absurd hn13 (by have q0 := r_x5.1; have u0 := r_x5.2; omega)
    | succ nf13 ih13 =>
      have B72 : ∀ (x4 : Int32) (x5 : Int32) (x6 : Int32) (s0 : OS) (s1 : OS) (s2 : OS) (ws : va_W) (H : Heap) (locs : List Loc) (ls : Array Slot), RI p3 3 3 → RI x4 (-2147483648) 2147483647 → RI x5 0 19 → RI x6 0 1 → OV vw_SENT Ps ws p0 s0 → OV vw_TAPE Ps ws p1 s1 → OV vw_POST Ps ws p2 s2 → 20 - x5.toInt < ((nf13 + 1 : Nat) : Int) → f_X5_readCond__11_72 (f_X5_readCond__11_13 p3 nf13) p3 x4 x5 x6 s0 s1 s2 = R9 → WD D cy GG A s wr_X5_readCond__11 wa_X5_readCond__11 Ps w0 Ps ws H locs → lv_has ls 7 [(0, .ref p0), (1, .ref p1), (2, .ref p2), (3, .int p3), (4, .int x4), (5, .int x5), (6, .int x6)] → W p l e (headSpec (Cond.code yX5_readCond cX5_readCond 7 none :: gT) ({ frames := 16, cells := 0, slots := 0, locals := 3200 } : Room)).room s m ([.ref p0, .ref p1, .ref p2, .int p3] : List Value).toArray below meth c H locs 0 0 Q (F0 m 72 ls []) := by
        intro x4 x5 x6 s0 s1 s2 ws H locs ls r_p3 r_x4 r_x5 r_x6 o_p0 o_p1 o_p2 hn13 hE hw hl
        refine lv_iload hx hb dX5_readCond_72 (lv_at hl 4 rfl) ?_
        refine lv_iload hx hb dX5_readCond_74 (lv_at hl 6 rfl) ?_
        refine lv_ior hx hb dX5_readCond_76 (lv_topi (fun v_4 e_v_4 => ?_))
        have r_v_4 := ri_any v_4
        have q_v_4 : x4 ||| x6 = v_4 := e_v_4.symm
        refine lv_istore (lv' := [(4, .int v_4), (0, .ref p0), (1, .ref p1), (2, .ref p2), (3, .int p3), (5, .int x5), (6, .int x6)]) hx hb dX5_readCond_77 hl (by decide) rfl (fun ls hl => ?_)
        refine lv_aload_n hx hb dX5_readCond_79 rfl (lv_at hl 1 rfl) ?_
        refine lv_aload_n hx hb dX5_readCond_80 rfl (lv_at hl 2 rfl) ?_
        refine lv_aload_n hx hb dX5_readCond_81 rfl (lv_at hl 3 rfl) ?_
        refine lv_iload_n hx hb dX5_readCond_82 rfl (lv_at hl 4 rfl) ?_
        refine tk_v (va_runV (As := [.ref p1, .ref p2, .int p3]) (rest := []) ⟨hx, hb, hml, hown, hts⟩ (c_X5_readOne__11 l D cy z H.size Ps ws hw.1 p0 p1 p2 p3 s0 s1 s2 h_p0 h_p1 h_p2 r_p3 o_p0 o_p1 o_p2) (cwV 3 hts (gV tw_977 tw_979 ts_32 tw_23 tw_980) rfl rfl rfl (by decide +kernel) ⟨Nat.le_of_ble_eq_true rfl, Nat.le_of_ble_eq_true rfl⟩) (tg_preV hw hK hSD hA (ci := 5) (q := (RX5, TX5, 5)) rfl h_p0 rfl) rfl rfl hl.1 rfl (lv_room (Nat.le_of_ble_eq_true rfl)) dX5_readCond_83 ⟨Nat.le_of_ble_eq_true rfl, Nat.le_of_ble_eq_true rfl⟩) hw hA ⟨by decide, by decide⟩ (fun ws H locs hp_v_5 hw hF9 => ?_)
        obtain ⟨hfn, hp_v_5⟩ := hp_v_5
        obtain ⟨sg_6, q_sg_6⟩ : ∃ q9 : OS, (f_X5_readOne__11 p3 s0 s1 s2).1 = q9 := ⟨_, rfl⟩
        have o_p0 : OV vw_SENT Ps ws p0 sg_6 := by rw [← q_sg_6]; exact hfn.1
        obtain ⟨sg_7, q_sg_7⟩ : ∃ q9 : OS, (f_X5_readOne__11 p3 s0 s1 s2).2.1 = q9 := ⟨_, rfl⟩
        have o_p1 : OV vw_TAPE Ps ws p1 sg_7 := by rw [← q_sg_7]; exact hfn.2.1
        obtain ⟨sg_8, q_sg_8⟩ : ∃ q9 : OS, (f_X5_readOne__11 p3 s0 s1 s2).2.2 = q9 := ⟨_, rfl⟩
        have o_p2 : OV vw_POST Ps ws p2 sg_8 := by rw [← q_sg_8]; exact hfn.2.2.1
        refine lv_iload hx hb dX5_readCond_86 (lv_at hl 6 rfl) ?_
        refine lv_if_ne (tgt := 100) hx hb dX5_readCond_88 (by decide) (fun c_88 => ?_) (fun c_88 => ?_)
        · have r_x6 : RI x6 1 1 := rc_neL r_x6 rl_0 (ti_ne c_88) (by decide)
          obtain ⟨v_9, e_v_9⟩ : ∃ q9 : Int32, q9 = x5 + Int32.ofInt 1 := ⟨_, rfl⟩
          obtain ⟨t_v_9, r_v_9⟩ := tq_add (lo := 1) (hi := 20) r_x5 (show RI (Int32.ofInt 1) 1 1 by unfold RI; decide +kernel) (by decide +kernel) e_v_9
          have t_v_9 : v_9.toInt = x5.toInt + 1 := t_v_9
          refine lv_iinc (v := v_9) (lv' := [(5, .int v_9), (4, .int v_4), (0, .ref p0), (1, .ref p1), (2, .ref p2), (3, .int p3), (6, .int x6)]) hx hb dX5_readCond_100 hl (k := 5) rfl e_v_9.symm (by decide) rfl (fun ls hl => ?_)
          have q_v_9 : x5 + (1 : Int32) = v_9 := by rw [e_v_9, show Int32.ofInt 1 = (1 : Int32) by decide]
          refine lv_goto (tgt := 13) hx hb dX5_readCond_103 (by decide) ?_
          simp only [f_X5_readCond__11_72, ↓reduceIte, q_v_4, q_sg_6, q_sg_7, q_sg_8, eq_false c_88, q_v_9] at hE
          exact ih13 v_4 v_9 sg_6 sg_7 sg_8 ws _ _ ls (by have q0 := r_v_9.1; have u0 := r_v_9.2; have o0 := r_x5.1; have p0 := r_x5.2; omega) r_p3 r_v_4 (r_v_9.to (by decide)) o_p0 o_p1 o_p2 hE hw (lv_sub hl [2, 3, 4, 5, 1, 0] rfl)
        · have r_x6 : RI x6 0 0 := rc_eq1 r_x6 rl_0 (ti_eq c_88) (by decide)
          refine lv_aload_n hx hb dX5_readCond_91 rfl (lv_at hl 1 rfl) ?_
          refine lv_sipush (v := 145) hx hb dX5_readCond_92 (by decide) ?_
          refine lv_iconst (v := 0) hx hb dX5_readCond_95 (by decide) ?_
          refine lv_iconst (v := 0) hx hb dX5_readCond_96 (by decide) ?_
          refine tk_v (va_runV (As := [.int 145, .int 0, .int 0]) (rest := []) ⟨hx, hb, hml, hown, hts⟩ (c_X5_addStep__1 l D cy z H.size Ps ws hw.1 p0 145 0 0 sg_6 h_p0 (rl_145.to (by decide)) (rl_0.to (by decide)) (rl_0.to (by decide)) o_p0) (cwV 3 hts (gV tw_983 tw_985 ts_33 tw_23 tw_986) rfl rfl rfl (by decide +kernel) ⟨Nat.le_of_ble_eq_true rfl, Nat.le_of_ble_eq_true rfl⟩) (tg_preV hw hK hSD hA (ci := 5) (q := (RX5, TX5, 5)) rfl h_p0 rfl) rfl rfl hl.1 rfl (lv_room (Nat.le_of_ble_eq_true rfl)) dX5_readCond_97 ⟨Nat.le_of_ble_eq_true rfl, Nat.le_of_ble_eq_true rfl⟩) hw hA ⟨by decide, by decide⟩ (fun ws H locs hp_v_10 hw hF9 => ?_)
          obtain ⟨hfn, hp_v_10⟩ := hp_v_10
          have o_p1 := OV.over (V := vw_TAPE) hF9 o_p1 (by decide)
          have o_p2 := OV.over (V := vw_POST) hF9 o_p2 (by decide)
          obtain ⟨sg_11, q_sg_11⟩ : ∃ q9 : OS, (f_X5_addStep__1 (145 : Int32) (0 : Int32) (0 : Int32) sg_6) = q9 := ⟨_, rfl⟩
          have o_p0 : OV vw_SENT Ps ws p0 sg_11 := by rw [← q_sg_11]; exact hfn.1
          obtain ⟨v_12, m_v_12, r_v_12⟩ := (hp_v_10.1)
          obtain ⟨v_13, e_v_13⟩ : ∃ q9 : Int32, q9 = x5 + Int32.ofInt 1 := ⟨_, rfl⟩
          obtain ⟨t_v_13, r_v_13⟩ := tq_add (lo := 1) (hi := 20) r_x5 (show RI (Int32.ofInt 1) 1 1 by unfold RI; decide +kernel) (by decide +kernel) e_v_13
          have t_v_13 : v_13.toInt = x5.toInt + 1 := t_v_13
          refine lv_iinc (v := v_13) (lv' := [(5, .int v_13), (4, .int v_4), (0, .ref p0), (1, .ref p1), (2, .ref p2), (3, .int p3), (6, .int x6)]) hx hb dX5_readCond_100 hl (k := 5) rfl e_v_13.symm (by decide) rfl (fun ls hl => ?_)
          have q_v_13 : x5 + (1 : Int32) = v_13 := by rw [e_v_13, show Int32.ofInt 1 = (1 : Int32) by decide]
          refine lv_goto (tgt := 13) hx hb dX5_readCond_103 (by decide) ?_
          simp only [f_X5_readCond__11_72, ↓reduceIte, q_v_4, q_sg_6, q_sg_7, q_sg_8, eq_true c_88, q_sg_11, q_v_13] at hE
          exact ih13 v_4 v_13 sg_11 sg_7 sg_8 ws _ _ ls (by have q0 := r_v_13.1; have u0 := r_v_13.2; have o0 := r_x5.1; have p0 := r_x5.2; omega) r_p3 r_v_4 (r_v_13.to (by decide)) o_p0 o_p1 o_p2 hE hw (lv_sub hl [2, 3, 4, 5, 1, 0] rfl)
      have B40 : ∀ (x4 : Int32) (x5 : Int32) (s0 : OS) (s1 : OS) (s2 : OS) (ws : va_W) (H : Heap) (locs : List Loc) (ls : Array Slot), RI p3 3 3 → RI x4 (-2147483648) 2147483647 → RI x5 0 19 → OV vw_SENT Ps ws p0 s0 → OV vw_TAPE Ps ws p1 s1 → OV vw_POST Ps ws p2 s2 → 20 - x5.toInt < ((nf13 + 1 : Nat) : Int) → f_X5_readCond__11_40 (f_X5_readCond__11_13 p3 nf13) p3 x4 x5 s0 s1 s2 = R9 → WD D cy GG A s wr_X5_readCond__11 wa_X5_readCond__11 Ps w0 Ps ws H locs → lv_has ls 7 [(0, .ref p0), (1, .ref p1), (2, .ref p2), (3, .int p3), (4, .int x4), (5, .int x5)] → W p l e (headSpec (Cond.code yX5_readCond cX5_readCond 7 none :: gT) ({ frames := 16, cells := 0, slots := 0, locals := 3200 } : Room)).room s m ([.ref p0, .ref p1, .ref p2, .int p3] : List Value).toArray below meth c H locs 0 0 Q (F0 m 40 ls []) := by
        intro x4 x5 s0 s1 s2 ws H locs ls r_p3 r_x4 r_x5 o_p0 o_p1 o_p2 hn13 hE hw hl
        refine lv_aload_n hx hb dX5_readCond_40 rfl (lv_at hl 1 rfl) ?_
        refine lv_sipush (v := 144) hx hb dX5_readCond_41 (by decide) ?_
        refine tk_ir (va_runV (As := [.int 144]) (rest := []) ⟨hx, hb, hml, hown, hts⟩ (c_X7_sees__1 l D cy z H.size Ps ws hw.1 p1 144 s1 h_p1 (rl_144.to (by decide)) o_p1) (cwV 1 hts (gV tw_994 tw_995 tw_996 tw_2 tw_997) rfl rfl rfl (by decide +kernel) ⟨Nat.le_of_ble_eq_true rfl, Nat.le_of_ble_eq_true rfl⟩) (tg_preV hw hK hSD hA (ci := 7) (q := (RX7, TX7, 12)) rfl h_p1 rfl) rfl rfl hl.1 rfl (lv_room (Nat.le_of_ble_eq_true rfl)) dX5_readCond_44 ⟨Nat.le_of_ble_eq_true rfl, Nat.le_of_ble_eq_true rfl⟩) hw hA (fun v_14  H locs hp_v_14 hw => ?_)
        obtain ⟨hfn, hp_v_14⟩ := hp_v_14
        have q_v_14 : (f_X7_sees__1 (144 : Int32) s1) = v_14 := hfn.1
        have r_v_14 : RI v_14 0 1 := hp_v_14.1
        refine lv_istore (lv' := [(6, .int v_14), (0, .ref p0), (1, .ref p1), (2, .ref p2), (3, .int p3), (4, .int x4), (5, .int x5)]) hx hb dX5_readCond_47 hl (by decide) rfl (fun ls hl => ?_)
        refine lv_aload_n hx hb dX5_readCond_49 rfl (lv_at hl 2 rfl) ?_
        refine tk_v (va_runV (As := []) (rest := []) ⟨hx, hb, hml, hown, hts⟩ (c_X7_pass__6 l D cy z H.size Ps ws hw.1 p1 s1 h_p1 o_p1) (cwV 0 hts (gV tw_982 tw_425 tw_426 tw_2 tw_427) rfl rfl rfl (by decide +kernel) ⟨Nat.le_of_ble_eq_true rfl, Nat.le_of_ble_eq_true rfl⟩) (tg_preV hw hK hSD hA (ci := 7) (q := (RX7, TX7, 12)) rfl h_p1 rfl) rfl rfl hl.1 rfl (lv_room (Nat.le_of_ble_eq_true rfl)) dX5_readCond_50 ⟨Nat.le_of_ble_eq_true rfl, Nat.le_of_ble_eq_true rfl⟩) hw hA ⟨by decide, by decide⟩ (fun ws H locs hp_v_15 hw hF9 => ?_)
        obtain ⟨hfn, hp_v_15⟩ := hp_v_15
        have o_p0 := OV.over (V := vw_SENT) hF9 o_p0 (by decide)
        have o_p2 := OV.over (V := vw_POST) hF9 o_p2 (by decide)
        obtain ⟨sg_16, q_sg_16⟩ : ∃ q9 : OS, (f_X7_pass__6 s1) = q9 := ⟨_, rfl⟩
        have o_p1 : OV vw_TAPE Ps ws p1 sg_16 := by rw [← q_sg_16]; exact hfn.1
        refine lv_iload hx hb dX5_readCond_53 (lv_at hl 0 rfl) ?_
        refine lv_if_eq (tgt := 72) hx hb dX5_readCond_55 (by decide) (fun c_55 => ?_) (fun c_55 => ?_)
        · have r_v_14 : RI v_14 0 0 := rc_eq1 r_v_14 rl_0 (ti_eq c_55) (by decide)
          simp only [f_X5_readCond__11_40, ↓reduceIte, q_v_14, q_sg_16, eq_true c_55] at hE
          exact B72 x4 x5 v_14 s0 sg_16 s2 ws _ _ ls r_p3 r_x4 r_x5 (r_v_14.to (by decide)) o_p0 o_p1 o_p2 (by have q0 := r_x5.1; have u0 := r_x5.2; omega) hE hw (lv_sub hl [1, 2, 3, 4, 5, 6, 0] rfl)
        · have r_v_14 : RI v_14 1 1 := rc_neL r_v_14 rl_0 (ti_ne c_55) (by decide)
          refine lv_iload hx hb dX5_readCond_58 (lv_at hl 5 rfl) ?_
          refine lv_if_eq (tgt := 72) hx hb dX5_readCond_60 (by decide) (fun c_60 => ?_) (fun c_60 => ?_)
          · have r_x4 : RI x4 0 0 := rc_eq1 r_x4 rl_0 (ti_eq c_60) (by decide)
            simp only [f_X5_readCond__11_40, ↓reduceIte, q_v_14, q_sg_16, eq_false c_55, eq_true c_60] at hE
            exact B72 x4 x5 v_14 s0 sg_16 s2 ws _ _ ls r_p3 (r_x4.to (by decide)) r_x5 (r_v_14.to (by decide)) o_p0 o_p1 o_p2 (by have q0 := r_x5.1; have u0 := r_x5.2; omega) hE hw (lv_sub hl [1, 2, 3, 4, 5, 6, 0] rfl)
          · refine lv_aload_n hx hb dX5_readCond_63 rfl (lv_at hl 1 rfl) ?_
            refine lv_sipush (v := 144) hx hb dX5_readCond_64 (by decide) ?_
            refine lv_iconst (v := 0) hx hb dX5_readCond_67 (by decide) ?_
            refine lv_iconst (v := 0) hx hb dX5_readCond_68 (by decide) ?_
            refine tk_v (va_runV (As := [.int 144, .int 0, .int 0]) (rest := []) ⟨hx, hb, hml, hown, hts⟩ (c_X5_addStep__1 l D cy z H.size Ps ws hw.1 p0 144 0 0 s0 h_p0 (rl_144.to (by decide)) (rl_0.to (by decide)) (rl_0.to (by decide)) o_p0) (cwV 3 hts (gV tw_983 tw_985 ts_33 tw_23 tw_986) rfl rfl rfl (by decide +kernel) ⟨Nat.le_of_ble_eq_true rfl, Nat.le_of_ble_eq_true rfl⟩) (tg_preV hw hK hSD hA (ci := 5) (q := (RX5, TX5, 5)) rfl h_p0 rfl) rfl rfl hl.1 rfl (lv_room (Nat.le_of_ble_eq_true rfl)) dX5_readCond_69 ⟨Nat.le_of_ble_eq_true rfl, Nat.le_of_ble_eq_true rfl⟩) hw hA ⟨by decide, by decide⟩ (fun ws H locs hp_v_17 hw hF9 => ?_)
            obtain ⟨hfn, hp_v_17⟩ := hp_v_17
            have o_p1 := OV.over (V := vw_TAPE) hF9 o_p1 (by decide)
            have o_p2 := OV.over (V := vw_POST) hF9 o_p2 (by decide)
            obtain ⟨sg_18, q_sg_18⟩ : ∃ q9 : OS, (f_X5_addStep__1 (144 : Int32) (0 : Int32) (0 : Int32) s0) = q9 := ⟨_, rfl⟩
            have o_p0 : OV vw_SENT Ps ws p0 sg_18 := by rw [← q_sg_18]; exact hfn.1
            obtain ⟨v_19, m_v_19, r_v_19⟩ := (hp_v_17.1)
            simp only [f_X5_readCond__11_40, ↓reduceIte, q_v_14, q_sg_16, eq_false c_55, eq_false c_60, q_sg_18] at hE
            exact B72 x4 x5 v_14 sg_18 sg_16 s2 ws _ _ ls r_p3 r_x4 r_x5 (r_v_14.to (by decide)) o_p0 o_p1 o_p2 (by have q0 := r_x5.1; have u0 := r_x5.2; omega) hE hw (lv_sub hl [1, 2, 3, 4, 5, 6, 0] rfl)
      intro x4 x5 s0 s1 s2 ws H locs ls hn13 r_p3 r_x4 r_x5 o_p0 o_p1 o_p2 hE hw hl
      refine lv_iload hx hb dX5_readCond_13 (lv_at hl 5 rfl) ?_
      refine lv_bipush (v := 20) hx hb dX5_readCond_15 (by decide) ?_
      refine lv_icmp_ge (tgt := 106) hx hb dX5_readCond_17 (by decide) (fun c_17 => ?_) (fun c_17 => ?_)
      · have r_x5 : RI x5 20 20 := rc_le2 rl_20 r_x5 (ti_le c_17) (by decide)
        simp only [f_X5_readCond__11_13, ↓reduceIte, eq_true c_17] at hE
        exact B106 x4 x5 s0 s1 s2 ws _ _ ls r_p3 r_x4 (r_x5.to (by decide)) o_p0 o_p1 o_p2 hE hw hl
      · have r_x5 : RI x5 0 19 := rc_lt1 r_x5 rl_20 (ti_nle c_17) (by decide)
        refine lv_aload_n hx hb dX5_readCond_20 rfl (lv_at hl 1 rfl) ?_
        refine lv_sipush (v := 144) hx hb dX5_readCond_21 (by decide) ?_
        refine tk_ir (va_runV (As := [.int 144]) (rest := []) ⟨hx, hb, hml, hown, hts⟩ (c_X7_sees__1 l D cy z H.size Ps ws hw.1 p1 144 s1 h_p1 (rl_144.to (by decide)) o_p1) (cwV 1 hts (gV tw_994 tw_995 tw_996 tw_2 tw_997) rfl rfl rfl (by decide +kernel) ⟨Nat.le_of_ble_eq_true rfl, Nat.le_of_ble_eq_true rfl⟩) (tg_preV hw hK hSD hA (ci := 7) (q := (RX7, TX7, 12)) rfl h_p1 rfl) rfl rfl hl.1 rfl (lv_room (Nat.le_of_ble_eq_true rfl)) dX5_readCond_24 ⟨Nat.le_of_ble_eq_true rfl, Nat.le_of_ble_eq_true rfl⟩) hw hA (fun v_20  H locs hp_v_20 hw => ?_)
        obtain ⟨hfn, hp_v_20⟩ := hp_v_20
        have q_v_20 : (f_X7_sees__1 (144 : Int32) s1) = v_20 := hfn.1
        have r_v_20 : RI v_20 0 1 := hp_v_20.1
        refine lv_if_ne (tgt := 40) hx hb dX5_readCond_27 (by decide) (fun c_27 => ?_) (fun c_27 => ?_)
        · have r_v_20 : RI v_20 1 1 := rc_neL r_v_20 rl_0 (ti_ne c_27) (by decide)
          simp only [f_X5_readCond__11_13, ↓reduceIte, eq_false c_17, q_v_20, eq_false c_27] at hE
          exact B40 x4 x5 s0 s1 s2 ws _ _ ls r_p3 r_x4 r_x5 o_p0 o_p1 o_p2 (by have q0 := r_x5.1; have u0 := r_x5.2; omega) hE hw hl
        · have r_v_20 : RI v_20 0 0 := rc_eq1 r_v_20 rl_0 (ti_eq c_27) (by decide)
          refine lv_aload_n hx hb dX5_readCond_30 rfl (lv_at hl 1 rfl) ?_
          refine lv_sipush (v := 145) hx hb dX5_readCond_31 (by decide) ?_
          refine tk_ir (va_runV (As := [.int 145]) (rest := []) ⟨hx, hb, hml, hown, hts⟩ (c_X7_sees__1 l D cy z H.size Ps ws hw.1 p1 145 s1 h_p1 (rl_145.to (by decide)) o_p1) (cwV 1 hts (gV tw_994 tw_995 tw_996 tw_2 tw_997) rfl rfl rfl (by decide +kernel) ⟨Nat.le_of_ble_eq_true rfl, Nat.le_of_ble_eq_true rfl⟩) (tg_preV hw hK hSD hA (ci := 7) (q := (RX7, TX7, 12)) rfl h_p1 rfl) rfl rfl hl.1 rfl (lv_room (Nat.le_of_ble_eq_true rfl)) dX5_readCond_34 ⟨Nat.le_of_ble_eq_true rfl, Nat.le_of_ble_eq_true rfl⟩) hw hA (fun v_21  H locs hp_v_21 hw => ?_)
          obtain ⟨hfn, hp_v_21⟩ := hp_v_21
          have q_v_21 : (f_X7_sees__1 (145 : Int32) s1) = v_21 := hfn.1
          have r_v_21 : RI v_21 0 1 := hp_v_21.1
          refine lv_if_eq (tgt := 106) hx hb dX5_readCond_37 (by decide) (fun c_37 => ?_) (fun c_37 => ?_)
          · have r_v_21 : RI v_21 0 0 := rc_eq1 r_v_21 rl_0 (ti_eq c_37) (by decide)
            simp only [f_X5_readCond__11_13, ↓reduceIte, eq_false c_17, q_v_20, eq_true c_27, q_v_21, eq_true c_37] at hE
            exact B106 x4 x5 s0 s1 s2 ws _ _ ls r_p3 r_x4 (r_x5.to (by decide)) o_p0 o_p1 o_p2 hE hw hl
          · have r_v_21 : RI v_21 1 1 := rc_neL r_v_21 rl_0 (ti_ne c_37) (by decide)
            simp only [f_X5_readCond__11_13, ↓reduceIte, eq_false c_17, q_v_20, eq_true c_27, q_v_21, eq_false c_37] at hE
            exact B40 x4 x5 s0 s1 s2 ws _ _ ls r_p3 r_x4 r_x5 o_p0 o_p1 o_p2 (by have q0 := r_x5.1; have u0 := r_x5.2; omega) hE hw hl
  refine lv_iconst (v := 0) hx hb dX5_readCond_0 (by decide) ?_
  refine lv_istore (lv' := [(4, .int 0), (0, .ref p0), (1, .ref p1), (2, .ref p2), (3, .int p3)]) hx hb dX5_readCond_1 hl (by decide) rfl (fun ls hl => ?_)
  refine lv_aload_n hx hb dX5_readCond_3 rfl (lv_at hl 1 rfl) ?_
  refine lv_aload_n hx hb dX5_readCond_4 rfl (lv_at hl 2 rfl) ?_
  refine lv_aload_n hx hb dX5_readCond_5 rfl (lv_at hl 3 rfl) ?_
  refine lv_iload_n hx hb dX5_readCond_6 rfl (lv_at hl 4 rfl) ?_
  refine tk_v (va_runV (As := [.ref p1, .ref p2, .int p3]) (rest := []) ⟨hx, hb, hml, hown, hts⟩ (c_X5_readOne__11 l D cy z s.heap.size Ps w0 hw.1 p0 p1 p2 p3 s0 s1 s2 h_p0 h_p1 h_p2 r_p3 o_p0 o_p1 o_p2) (cwV 3 hts (gV tw_977 tw_979 ts_32 tw_23 tw_980) rfl rfl rfl (by decide +kernel) ⟨Nat.le_of_ble_eq_true rfl, Nat.le_of_ble_eq_true rfl⟩) (tg_preV hw hK hSD hA (ci := 5) (q := (RX5, TX5, 5)) rfl h_p0 rfl) rfl rfl hl.1 rfl (lv_room (Nat.le_of_ble_eq_true rfl)) dX5_readCond_7 ⟨Nat.le_of_ble_eq_true rfl, Nat.le_of_ble_eq_true rfl⟩) hw hA ⟨by decide, by decide⟩ (fun ws H locs hp_v_22 hw hF9 => ?_)
  obtain ⟨hfn, hp_v_22⟩ := hp_v_22
  obtain ⟨sg_23, q_sg_23⟩ : ∃ q9 : OS, (f_X5_readOne__11 p3 s0 s1 s2).1 = q9 := ⟨_, rfl⟩
  have o_p0 : OV vw_SENT Ps ws p0 sg_23 := by rw [← q_sg_23]; exact hfn.1
  obtain ⟨sg_24, q_sg_24⟩ : ∃ q9 : OS, (f_X5_readOne__11 p3 s0 s1 s2).2.1 = q9 := ⟨_, rfl⟩
  have o_p1 : OV vw_TAPE Ps ws p1 sg_24 := by rw [← q_sg_24]; exact hfn.2.1
  obtain ⟨sg_25, q_sg_25⟩ : ∃ q9 : OS, (f_X5_readOne__11 p3 s0 s1 s2).2.2 = q9 := ⟨_, rfl⟩
  have o_p2 : OV vw_POST Ps ws p2 sg_25 := by rw [← q_sg_25]; exact hfn.2.2.1
  refine lv_iconst (v := 0) hx hb dX5_readCond_10 (by decide) ?_
  refine lv_istore (lv' := [(5, .int 0), (4, .int 0), (0, .ref p0), (1, .ref p1), (2, .ref p2), (3, .int p3)]) hx hb dX5_readCond_11 hl (by decide) rfl (fun ls hl => ?_)
  simp only [f_X5_readCond__11, ↓reduceIte, q_sg_23, q_sg_24, q_sg_25] at hE
  exact B13 4294967298 0 0 sg_23 sg_24 sg_25 ws _ _ ls (by have q0 := rl_0.1; have u0 := rl_0.2; omega) r_p3 (rl_0.to (by decide)) (rl_0.to (by decide)) o_p0 o_p1 o_p2 hE hw (lv_sub hl [2, 3, 4, 5, 1, 0] rfl)
abbrev wr_X5_readOne__10 : List (Nat × Nat) := [(5, 3), (5, 4), (7, 5), (7, 6), (7, 7), (7, 8), (7, 9), (7, 10), (7, 11)]
abbrev wa_X5_readOne__10 : List Nat := [21]
set_option maxHeartbeats 4000000 in
set_option maxRecDepth 100000 in
theorem c_X5_readOne__10 (l : Launch) (D : va_G) (cy : Nat → ClassId) (z : Nat → Nat) (sz : Nat) (Ps : PSI) (w0 : va_W) (hT : HT cy GG Ps w0) (p0 : Nat) (p1 : Nat) (p2 : Nat) (p3 : Int32) (s0 : OS) (s1 : OS) (s2 : OS) (h_p0 : (p0, 32) ∈ Ps) (h_p1 : (p1, 26) ∈ Ps) (h_p2 : (p2, 25) ∈ Ps) (r_p3 : RI p3 2 2) (o_p0 : OV vw_SENT Ps w0 p0 s0) (o_p1 : OV vw_TAPE Ps w0 p1 s1) (o_p2 : OV vw_POST Ps w0 p2 s2) : Met l yX5_readOne (Cond.code yX5_readOne cX5_readOne 5 none :: gT) ({ frames := 17, cells := 0, slots := 0, locals := 3400 } : Room) (va_Pc [.ref p0, .ref p1, .ref p2, .int p3] (PRE D cy z w0 sz)) (va_Qv (fun (u : va_W) => ((OV vw_SENT Ps u p0 ((f_X5_readOne__10 p3 s0 s1 s2).1) ∧ OV vw_TAPE Ps u p1 ((f_X5_readOne__10 p3 s0 s1 s2).2.1) ∧ OV vw_POST Ps u p2 ((f_X5_readOne__10 p3 s0 s1 s2).2.2) ∧ True) ∧ (True)) ∧ HT cy GG Ps u ∧ FR wr_X5_readOne__10 wa_X5_readOne__10 Ps w0 u) (BB D cy (va_A w0 sz) (fun (u : va_W) => u)) (va_A w0 sz)) 0 0 (va_A w0 sz) := by
  refine Met.ofW (cc := cX5_readOne) (maxL := 5) (ret := none) (by decide) rfl ?_
  intro p e s m args below meth c s₁ B hml hv
  obtain ⟨rfl, hsz, hP, hK, hD0, hSD⟩ := hv
  have hx := B.exec
  have hb := B.bytes
  have hr := B.returns
  have hlocks := B.notSynchronized
  have hts : ∀ w ∈ gT, w.before _ s = true := fun w h => atoms_spec (ws := Cond.code yX5_readOne cX5_readOne 5 none :: gT) B.pre w (List.mem_cons_of_mem _ h)
  have hown : s.vm.findClass RX5 = some m.cls := findClass_of_methodNamed B.named
  subst hsz
  have hD := hD0.self (sz := s.heap.size)
  generalize hAe : va_A w0 s.heap.size = A at hD hSD ⊢
  have hA : ∀ q : Nat, s.heap.size ≤ q → A q := fun q h => by rw [← hAe]; exact Or.inr h
  have hl := lv_entry ([.ref p0, .ref p1, .ref p2, .int p3]) (n := 5) (Nat.le_of_ble_eq_true rfl)
  rw [lg_entry_eq]
  generalize (lg_sl ([.ref p0, .ref p1, .ref p2, .int p3]) ++ List.replicate (5 - (lg_sl ([.ref p0, .ref p1, .ref p2, .int p3])).length) Slot.unset).toArray = ls at hl ⊢
  have hl : lv_has ls 5 [(0, .ref p0), (1, .ref p1), (2, .ref p2), (3, .int p3)] := hl
  refine nameQ (fun Q hQ => ?_)
  have hw : WD D cy GG A s wr_X5_readOne__10 wa_X5_readOne__10 Ps w0 Ps w0 s.heap [] := ⟨hT, hP, hD, va_S.rf, FR.rf, hT.1, [], (List.append_nil _).symm⟩
  obtain ⟨R9, hR⟩ : ∃ q9 : OS × OS × OS, f_X5_readOne__10 p3 s0 s1 s2 = q9 := ⟨_, rfl⟩
  have hE := hR
  have B57 : ∀ (x4 : Int32) (s0 : OS) (s1 : OS) (s2 : OS) (ws : va_W) (H : Heap) (locs : List Loc) (ls : Array Slot), RI p3 2 2 → RI x4 (-2147483648) 2147483647 → OV vw_SENT Ps ws p0 s0 → OV vw_TAPE Ps ws p1 s1 → OV vw_POST Ps ws p2 s2 → f_X5_readOne__10_57 p3 x4 s0 s1 s2 = R9 → WD D cy GG A s wr_X5_readOne__10 wa_X5_readOne__10 Ps w0 Ps ws H locs → lv_has ls 5 [(0, .ref p0), (1, .ref p1), (2, .ref p2), (3, .int p3), (4, .int x4)] → W p l e (headSpec (Cond.code yX5_readOne cX5_readOne 5 none :: gT) ({ frames := 17, cells := 0, slots := 0, locals := 3400 } : Room)).room s m ([.ref p0, .ref p1, .ref p2, .int p3] : List Value).toArray below meth c H locs 0 0 Q (F0 m 57 ls []) := by
    intro x4 s0 s1 s2 ws H locs ls r_p3 r_x4 o_p0 o_p1 o_p2 hE hw hl
    refine lv_aload_n hx hb dX5_readOne_57 rfl (lv_at hl 1 rfl) ?_
    refine tg_getN (ci := 7) (ts := ty_TAPE) (C := RX7) (T := TX7) (N := 12) hx hb hts inX7 hown hK hw h_p1 rfl rfl 10 (by decide) (hSD.nest tn_103) (fun _ h9 => h9) (ft := vI 0 4) rfl dX5_readOne_58 (fun u_1 hv_u_1 m_u_1 => ?_)
    obtain ⟨vu_1, rfl, r_vu_1⟩ := hv_u_1
    have q_vu_1 : s1.1 10 = vu_1 := OV.eqI (V := vw_TAPE) hw.2.2.1 o_p1 m_u_1 (by decide)
    refine lv_if_eq (tgt := 65) hx hb dX5_readOne_61 (by decide) (fun c_61 => ?_) (fun c_61 => ?_)
    · have r_vu_1 : RI vu_1 0 0 := rc_eq1 r_vu_1 rl_0 (ti_eq c_61) (by decide)
      refine lv_aload_n hx hb dX5_readOne_65 rfl (lv_at hl 1 rfl) ?_
      refine tk_v (va_runV (As := []) (rest := []) ⟨hx, hb, hml, hown, hts⟩ (c_X7_pass__5 l D cy z H.size Ps ws hw.1 p1 vu_1 s1 h_p1 r_vu_1 m_u_1 o_p1) (cwV 0 hts (gV tw_982 tw_425 tw_426 tw_2 tw_427) rfl rfl rfl (by decide +kernel) ⟨Nat.le_of_ble_eq_true rfl, Nat.le_of_ble_eq_true rfl⟩) (tg_preV hw hK hSD hA (ci := 7) (q := (RX7, TX7, 12)) rfl h_p1 rfl) rfl rfl hl.1 rfl (lv_room (Nat.le_of_ble_eq_true rfl)) dX5_readOne_66 ⟨Nat.le_of_ble_eq_true rfl, Nat.le_of_ble_eq_true rfl⟩) hw hA ⟨by decide, by decide⟩ (fun ws H locs hp_v_2 hw hF9 => ?_)
      have m_u_1 := FLD.over hF9 m_u_1 (by decide)
      obtain ⟨hfn, hp_v_2⟩ := hp_v_2
      have o_p0 := OV.over (V := vw_SENT) hF9 o_p0 (by decide)
      have o_p2 := OV.over (V := vw_POST) hF9 o_p2 (by decide)
      obtain ⟨sg_3, q_sg_3⟩ : ∃ q9 : OS, (f_X7_pass__5 s1) = q9 := ⟨_, rfl⟩
      have o_p1 : OV vw_TAPE Ps ws p1 sg_3 := by rw [← q_sg_3]; exact hfn.1
      obtain ⟨v_4, m_v_4, r_v_4⟩ := (hp_v_2.1)
      refine lv_aload_n hx hb dX5_readOne_69 rfl (lv_at hl 0 rfl) ?_
      refine lv_dup hx hb dX5_readOne_70 rfl ?_
      refine tg_get (ci := 5) (ts := ty_SENT) (C := RX5) (T := TX5) (N := 5) hx hb hts inX5 hown hK hw h_p0 rfl rfl 4 (by decide) (hts _ tw_955) (fun _ h9 => h9) (ft := vI (-2147483648) 2147483647) rfl dX5_readOne_71 (fun u_5 hv_u_5 m_u_5 => ?_)
      obtain ⟨vu_5, rfl, r_vu_5⟩ := hv_u_5
      have q_vu_5 : s0.1 4 = vu_5 := OV.eqI (V := vw_SENT) hw.2.2.1 o_p0 m_u_5 (by decide)
      refine lv_iconst (v := 1) hx hb dX5_readOne_74 (by decide) ?_
      refine lv_iadd hx hb dX5_readOne_75 (lv_topi (fun v_6 e_v_6 => ?_))
      have r_v_6 := ri_any v_6
      have q_v_6 : vu_5 + (1 : Int32) = v_6 := e_v_6.symm
      refine tg_put (ci := 5) (ts := ty_SENT) (v := .int v_6) (ty := .int) (C := RX5) (T := TX5) (N := 5) hx hb hts inX5 tyX5 tyX5_ok nmX5 hown hK hw h_p0 rfl rfl 4 (by decide) (hts _ tw_955) (fun _ h9 => h9) rfl (by decide +kernel) rfl rfl (ft := vI (-2147483648) 2147483647) rfl ⟨_, rfl, r_v_6⟩ (by decide) dX5_readOne_76 (fun ws H locs hw n_k_7 hF9 => ?_)
      have m_v_4 := FLD.over hF9 m_v_4 (by decide)
      have o_p1 := OV.over (V := vw_TAPE) hF9 o_p1 (by decide)
      have o_p2 := OV.over (V := vw_POST) hF9 o_p2 (by decide)
      obtain ⟨sg_8, q_sg_8⟩ : ∃ q9 : OS, sI s0 4 v_6 = q9 := ⟨_, rfl⟩
      have o_p0 : OV vw_SENT Ps ws p0 sg_8 := by rw [← q_sg_8]; exact OV.putI (V := vw_SENT) hF9 n_k_7 o_p0 (by decide)
      refine lv_iload hx hb dX5_readOne_79 (lv_at hl 4 rfl) ?_
      refine lv_sipush (v := 146) hx hb dX5_readOne_81 (by decide) ?_
      refine lv_icmp_ne (tgt := 108) hx hb dX5_readOne_84 (by decide) (fun c_84 => ?_) (fun c_84 => ?_)
      · refine lv_iload hx hb dX5_readOne_108 (lv_at hl 4 rfl) ?_
        refine lv_bipush (v := 40) hx hb dX5_readOne_110 (by decide) ?_
        refine lv_icmp_ne (tgt := 133) hx hb dX5_readOne_112 (by decide) (fun c_112 => ?_) (fun c_112 => ?_)
        · refine lv_aload_n hx hb dX5_readOne_133 rfl (lv_at hl 0 rfl) ?_
          refine lv_aload_n hx hb dX5_readOne_134 rfl (lv_at hl 1 rfl) ?_
          refine lv_aload_n hx hb dX5_readOne_135 rfl (lv_at hl 2 rfl) ?_
          refine lv_iload hx hb dX5_readOne_136 (lv_at hl 4 rfl) ?_
          refine tk_v (va_runV (As := [.ref p1, .ref p2, .int x4]) (rest := []) ⟨hx, hb, hml, hown, hts⟩ (c_X5_readPlain__1 l D cy z H.size Ps ws hw.1 p0 p1 p2 x4 sg_8 sg_3 s2 h_p0 h_p1 h_p2 r_x4 o_p0 o_p1 o_p2) (cwV 3 hts (gV tw_988 tw_990 ts_34 tw_23 tw_991) rfl rfl rfl (by decide +kernel) ⟨Nat.le_of_ble_eq_true rfl, Nat.le_of_ble_eq_true rfl⟩) (tg_preV hw hK hSD hA (ci := 5) (q := (RX5, TX5, 5)) rfl h_p0 rfl) rfl rfl hl.1 rfl (lv_room (Nat.le_of_ble_eq_true rfl)) dX5_readOne_138 ⟨Nat.le_of_ble_eq_true rfl, Nat.le_of_ble_eq_true rfl⟩) hw hA ⟨by decide, by decide⟩ (fun ws H locs hp_v_9 hw hF9 => ?_)
          have n_k_7 := FLD.over hF9 n_k_7 (by decide)
          obtain ⟨hfn, hp_v_9⟩ := hp_v_9
          obtain ⟨sg_10, q_sg_10⟩ : ∃ q9 : OS, (f_X5_readPlain__1 x4 sg_8 sg_3 s2).1 = q9 := ⟨_, rfl⟩
          have o_p0 : OV vw_SENT Ps ws p0 sg_10 := by rw [← q_sg_10]; exact hfn.1
          obtain ⟨sg_11, q_sg_11⟩ : ∃ q9 : OS, (f_X5_readPlain__1 x4 sg_8 sg_3 s2).2.1 = q9 := ⟨_, rfl⟩
          have o_p1 : OV vw_TAPE Ps ws p1 sg_11 := by rw [← q_sg_11]; exact hfn.2.1
          obtain ⟨sg_12, q_sg_12⟩ : ∃ q9 : OS, (f_X5_readPlain__1 x4 sg_8 sg_3 s2).2.2 = q9 := ⟨_, rfl⟩
          have o_p2 : OV vw_POST Ps ws p2 sg_12 := by rw [← q_sg_12]; exact hfn.2.2.1
          obtain ⟨v_13, m_v_13, r_v_13⟩ := (hp_v_9.1)
          simp only [f_X5_readOne__10_57, ↓reduceIte, q_vu_1, eq_true c_61, q_sg_3, q_vu_5, q_v_6, q_sg_8, eq_false c_84, eq_false c_112, q_sg_10, q_sg_11, q_sg_12] at hE
          subst hQ
          exact W.vret hx hb hr (fun t ht hW => ⟨⟨ws, rfl, ⟨⟨⟨(by rw [hR, ← hE]; exact o_p0), (by rw [hR, ← hE]; exact o_p1), (by rw [hR, ← hE]; exact o_p2), trivial⟩, trivial⟩, hw.1, hw.2.2.2.2.1⟩, by rw [ht]; exact hw.2.1, va_K.moved hW.alike hK, hw.2.2.1⟩, hw.2.2.2.1.F ht⟩) hw.2.2.2.1.2.2 dX5_readOne_141
        · have r_x4 : RI x4 40 40 := rc_eq1 r_x4 rl_40 (ti_eq c_112) (by decide)
          refine lv_aload_n hx hb dX5_readOne_115 rfl (lv_at hl 0 rfl) ?_
          refine lv_aload_n hx hb dX5_readOne_116 rfl (lv_at hl 1 rfl) ?_
          refine lv_aload_n hx hb dX5_readOne_117 rfl (lv_at hl 2 rfl) ?_
          refine lv_iload_n hx hb dX5_readOne_118 rfl (lv_at hl 3 rfl) ?_
          refine lv_iconst (v := 1) hx hb dX5_readOne_119 (by decide) ?_
          refine lv_iadd hx hb dX5_readOne_120 (lv_topi (fun v_14 e_v_14 => ?_))
          obtain ⟨t_v_14, r_v_14⟩ := tq_add (lo := 3) (hi := 3) r_p3 rl_1 (by decide +kernel) e_v_14
          have t_v_14 : v_14.toInt = p3.toInt + 1 := t_v_14
          have q_v_14 : p3 + (1 : Int32) = v_14 := e_v_14.symm
          refine tk_v (va_runV (As := [.ref p1, .ref p2, .int v_14]) (rest := []) ⟨hx, hb, hml, hown, hts⟩ (c_X5_readCond__11 l D cy z H.size Ps ws hw.1 p0 p1 p2 v_14 sg_8 sg_3 s2 h_p0 h_p1 h_p2 r_v_14 o_p0 o_p1 o_p2) (cwV 3 hts (gV tw_973 tw_975 ts_31 tw_23 tw_976) rfl rfl rfl (by decide +kernel) ⟨Nat.le_of_ble_eq_true rfl, Nat.le_of_ble_eq_true rfl⟩) (tg_preV hw hK hSD hA (ci := 5) (q := (RX5, TX5, 5)) rfl h_p0 rfl) rfl rfl hl.1 rfl (lv_room (Nat.le_of_ble_eq_true rfl)) dX5_readOne_121 ⟨Nat.le_of_ble_eq_true rfl, Nat.le_of_ble_eq_true rfl⟩) hw hA ⟨by decide, by decide⟩ (fun ws H locs hp_v_15 hw hF9 => ?_)
          obtain ⟨hfn, hp_v_15⟩ := hp_v_15
          obtain ⟨sg_16, q_sg_16⟩ : ∃ q9 : OS, (f_X5_readCond__11 v_14 sg_8 sg_3 s2).1 = q9 := ⟨_, rfl⟩
          have o_p0 : OV vw_SENT Ps ws p0 sg_16 := by rw [← q_sg_16]; exact hfn.1
          obtain ⟨sg_17, q_sg_17⟩ : ∃ q9 : OS, (f_X5_readCond__11 v_14 sg_8 sg_3 s2).2.1 = q9 := ⟨_, rfl⟩
          have o_p1 : OV vw_TAPE Ps ws p1 sg_17 := by rw [← q_sg_17]; exact hfn.2.1
          obtain ⟨sg_18, q_sg_18⟩ : ∃ q9 : OS, (f_X5_readCond__11 v_14 sg_8 sg_3 s2).2.2 = q9 := ⟨_, rfl⟩
          have o_p2 : OV vw_POST Ps ws p2 sg_18 := by rw [← q_sg_18]; exact hfn.2.2.1
          refine lv_aload_n hx hb dX5_readOne_124 rfl (lv_at hl 1 rfl) ?_
          refine lv_bipush (v := 41) hx hb dX5_readOne_125 (by decide) ?_
          refine tk_v (va_runV (As := [.int 41]) (rest := []) ⟨hx, hb, hml, hown, hts⟩ (c_X7_passOnly__3 l D cy z H.size Ps ws hw.1 p1 41 sg_17 h_p1 (rl_41.to (by decide)) o_p1) (cwV 1 hts (gV tw_987 tw_514 tw_515 tw_2 tw_516) rfl rfl rfl (by decide +kernel) ⟨Nat.le_of_ble_eq_true rfl, Nat.le_of_ble_eq_true rfl⟩) (tg_preV hw hK hSD hA (ci := 7) (q := (RX7, TX7, 12)) rfl h_p1 rfl) rfl rfl hl.1 rfl (lv_room (Nat.le_of_ble_eq_true rfl)) dX5_readOne_127 ⟨Nat.le_of_ble_eq_true rfl, Nat.le_of_ble_eq_true rfl⟩) hw hA ⟨by decide, by decide⟩ (fun ws H locs hp_v_19 hw hF9 => ?_)
          obtain ⟨hfn, hp_v_19⟩ := hp_v_19
          have o_p0 := OV.over (V := vw_SENT) hF9 o_p0 (by decide)
          have o_p2 := OV.over (V := vw_POST) hF9 o_p2 (by decide)
          obtain ⟨sg_20, q_sg_20⟩ : ∃ q9 : OS, (f_X7_passOnly__3 (41 : Int32) sg_17) = q9 := ⟨_, rfl⟩
          have o_p1 : OV vw_TAPE Ps ws p1 sg_20 := by rw [← q_sg_20]; exact hfn.1
          refine lv_goto (tgt := 141) hx hb dX5_readOne_130 (by decide) ?_
          simp only [f_X5_readOne__10_57, ↓reduceIte, q_vu_1, eq_true c_61, q_sg_3, q_vu_5, q_v_6, q_sg_8, eq_false c_84, eq_true c_112, q_v_14, q_sg_16, q_sg_17, q_sg_18, q_sg_20] at hE
          subst hQ
          exact W.vret hx hb hr (fun t ht hW => ⟨⟨ws, rfl, ⟨⟨⟨(by rw [hR, ← hE]; exact o_p0), (by rw [hR, ← hE]; exact o_p1), (by rw [hR, ← hE]; exact o_p2), trivial⟩, trivial⟩, hw.1, hw.2.2.2.2.1⟩, by rw [ht]; exact hw.2.1, va_K.moved hW.alike hK, hw.2.2.1⟩, hw.2.2.2.1.F ht⟩) hw.2.2.2.1.2.2 dX5_readOne_141
      · have r_x4 : RI x4 146 146 := rc_eq1 r_x4 rl_146 (ti_eq c_84) (by decide)
        refine lv_aload_n hx hb dX5_readOne_87 rfl (lv_at hl 0 rfl) ?_
        refine lv_aload_n hx hb dX5_readOne_88 rfl (lv_at hl 1 rfl) ?_
        refine lv_aload_n hx hb dX5_readOne_89 rfl (lv_at hl 2 rfl) ?_
        refine lv_iload_n hx hb dX5_readOne_90 rfl (lv_at hl 3 rfl) ?_
        refine lv_iconst (v := 1) hx hb dX5_readOne_91 (by decide) ?_
        refine lv_iadd hx hb dX5_readOne_92 (lv_topi (fun v_21 e_v_21 => ?_))
        obtain ⟨t_v_21, r_v_21⟩ := tq_add (lo := 3) (hi := 3) r_p3 rl_1 (by decide +kernel) e_v_21
        have t_v_21 : v_21.toInt = p3.toInt + 1 := t_v_21
        have q_v_21 : p3 + (1 : Int32) = v_21 := e_v_21.symm
        refine tk_v (va_runV (As := [.ref p1, .ref p2, .int v_21]) (rest := []) ⟨hx, hb, hml, hown, hts⟩ (c_X5_readOne__11 l D cy z H.size Ps ws hw.1 p0 p1 p2 v_21 sg_8 sg_3 s2 h_p0 h_p1 h_p2 r_v_21 o_p0 o_p1 o_p2) (cwV 3 hts (gV tw_977 tw_979 ts_32 tw_23 tw_980) rfl rfl rfl (by decide +kernel) ⟨Nat.le_of_ble_eq_true rfl, Nat.le_of_ble_eq_true rfl⟩) (tg_preV hw hK hSD hA (ci := 5) (q := (RX5, TX5, 5)) rfl h_p0 rfl) rfl rfl hl.1 rfl (lv_room (Nat.le_of_ble_eq_true rfl)) dX5_readOne_93 ⟨Nat.le_of_ble_eq_true rfl, Nat.le_of_ble_eq_true rfl⟩) hw hA ⟨by decide, by decide⟩ (fun ws H locs hp_v_22 hw hF9 => ?_)
        obtain ⟨hfn, hp_v_22⟩ := hp_v_22
        obtain ⟨sg_23, q_sg_23⟩ : ∃ q9 : OS, (f_X5_readOne__11 v_21 sg_8 sg_3 s2).1 = q9 := ⟨_, rfl⟩
        have o_p0 : OV vw_SENT Ps ws p0 sg_23 := by rw [← q_sg_23]; exact hfn.1
        obtain ⟨sg_24, q_sg_24⟩ : ∃ q9 : OS, (f_X5_readOne__11 v_21 sg_8 sg_3 s2).2.1 = q9 := ⟨_, rfl⟩
        have o_p1 : OV vw_TAPE Ps ws p1 sg_24 := by rw [← q_sg_24]; exact hfn.2.1
        obtain ⟨sg_25, q_sg_25⟩ : ∃ q9 : OS, (f_X5_readOne__11 v_21 sg_8 sg_3 s2).2.2 = q9 := ⟨_, rfl⟩
        have o_p2 : OV vw_POST Ps ws p2 sg_25 := by rw [← q_sg_25]; exact hfn.2.2.1
        refine lv_aload_n hx hb dX5_readOne_96 rfl (lv_at hl 0 rfl) ?_
        refine lv_sipush (v := 146) hx hb dX5_readOne_97 (by decide) ?_
        refine lv_iconst (v := 0) hx hb dX5_readOne_100 (by decide) ?_
        refine lv_iconst (v := 0) hx hb dX5_readOne_101 (by decide) ?_
        refine tk_v (va_runV (As := [.int 146, .int 0, .int 0]) (rest := []) ⟨hx, hb, hml, hown, hts⟩ (c_X5_addStep__1 l D cy z H.size Ps ws hw.1 p0 146 0 0 sg_23 h_p0 (rl_146.to (by decide)) (rl_0.to (by decide)) (rl_0.to (by decide)) o_p0) (cwV 3 hts (gV tw_983 tw_985 ts_33 tw_23 tw_986) rfl rfl rfl (by decide +kernel) ⟨Nat.le_of_ble_eq_true rfl, Nat.le_of_ble_eq_true rfl⟩) (tg_preV hw hK hSD hA (ci := 5) (q := (RX5, TX5, 5)) rfl h_p0 rfl) rfl rfl hl.1 rfl (lv_room (Nat.le_of_ble_eq_true rfl)) dX5_readOne_102 ⟨Nat.le_of_ble_eq_true rfl, Nat.le_of_ble_eq_true rfl⟩) hw hA ⟨by decide, by decide⟩ (fun ws H locs hp_v_26 hw hF9 => ?_)
        obtain ⟨hfn, hp_v_26⟩ := hp_v_26
        have o_p1 := OV.over (V := vw_TAPE) hF9 o_p1 (by decide)
        have o_p2 := OV.over (V := vw_POST) hF9 o_p2 (by decide)
        obtain ⟨sg_27, q_sg_27⟩ : ∃ q9 : OS, (f_X5_addStep__1 (146 : Int32) (0 : Int32) (0 : Int32) sg_23) = q9 := ⟨_, rfl⟩
        have o_p0 : OV vw_SENT Ps ws p0 sg_27 := by rw [← q_sg_27]; exact hfn.1
        obtain ⟨v_28, m_v_28, r_v_28⟩ := (hp_v_26.1)
        refine lv_goto (tgt := 141) hx hb dX5_readOne_105 (by decide) ?_
        simp only [f_X5_readOne__10_57, ↓reduceIte, q_vu_1, eq_true c_61, q_sg_3, q_vu_5, q_v_6, q_sg_8, eq_true c_84, q_v_21, q_sg_23, q_sg_24, q_sg_25, q_sg_27] at hE
        subst hQ
        exact W.vret hx hb hr (fun t ht hW => ⟨⟨ws, rfl, ⟨⟨⟨(by rw [hR, ← hE]; exact o_p0), (by rw [hR, ← hE]; exact o_p1), (by rw [hR, ← hE]; exact o_p2), trivial⟩, trivial⟩, hw.1, hw.2.2.2.2.1⟩, by rw [ht]; exact hw.2.1, va_K.moved hW.alike hK, hw.2.2.1⟩, hw.2.2.2.1.F ht⟩) hw.2.2.2.1.2.2 dX5_readOne_141
    · have r_vu_1 : RI vu_1 1 4 := rc_neL r_vu_1 rl_0 (ti_ne c_61) (by decide)
      simp only [f_X5_readOne__10_57, ↓reduceIte, q_vu_1, eq_false c_61] at hE
      subst hQ
      exact W.vret hx hb hr (fun t ht hW => ⟨⟨ws, rfl, ⟨⟨⟨(by rw [hR, ← hE]; exact o_p0), (by rw [hR, ← hE]; exact o_p1), (by rw [hR, ← hE]; exact o_p2), trivial⟩, trivial⟩, hw.1, hw.2.2.2.2.1⟩, by rw [ht]; exact hw.2.1, va_K.moved hW.alike hK, hw.2.2.1⟩, hw.2.2.2.1.F ht⟩) hw.2.2.2.1.2.2 dX5_readOne_64
  have B52 : ∀ (x4 : Int32) (z0_4 : Int32) (z1_7 : Int32) (s0 : OS) (s1 : OS) (s2 : OS) (ws : va_W) (H : Heap) (locs : List Loc) (ls : Array Slot), RI p3 2 2 → RI x4 40 155 → RI z0_4 20 2147483647 → FLD ws p0 5 4 (.int z0_4) → RI z1_7 40 155 → FLD ws p1 7 7 (.int z1_7) → OV vw_SENT Ps ws p0 s0 → OV vw_TAPE Ps ws p1 s1 → OV vw_POST Ps ws p2 s2 → f_X5_readOne__10_52 p3 x4 s0 s1 s2 = R9 → WD D cy GG A s wr_X5_readOne__10 wa_X5_readOne__10 Ps w0 Ps ws H locs → lv_has ls 5 [(0, .ref p0), (1, .ref p1), (2, .ref p2), (3, .int p3), (4, .int x4)] → W p l e (headSpec (Cond.code yX5_readOne cX5_readOne 5 none :: gT) ({ frames := 17, cells := 0, slots := 0, locals := 3400 } : Room)).room s m ([.ref p0, .ref p1, .ref p2, .int p3] : List Value).toArray below meth c H locs 0 0 Q (F0 m 52 ls []) := by
    intro x4 z0_4 z1_7 s0 s1 s2 ws H locs ls r_p3 r_x4 r_z0_4 m_z0_4 r_z1_7 m_z1_7 o_p0 o_p1 o_p2 hE hw hl
    have q_z0_4 : s0.1 4 = z0_4 := OV.eqI (V := vw_SENT) hw.2.2.1 o_p0 m_z0_4 (by decide)
    have q_z1_7 : s1.1 7 = z1_7 := OV.eqI (V := vw_TAPE) hw.2.2.1 o_p1 m_z1_7 (by decide)
    refine lv_aload_n hx hb dX5_readOne_52 rfl (lv_at hl 1 rfl) ?_
    refine lv_iconst (v := 4) hx hb dX5_readOne_53 (by decide) ?_
    refine tk_v (va_runV (As := [.int 4]) (rest := []) ⟨hx, hb, hml, hown, hts⟩ (c_X7_refuse__4 l D cy z H.size Ps ws hw.1 p1 4 s1 h_p1 (rl_4.to (by decide)) o_p1) (cwV 1 hts (gV tw_981 tw_443 tw_444 tw_2 tw_445) rfl rfl rfl (by decide +kernel) ⟨Nat.le_of_ble_eq_true rfl, Nat.le_of_ble_eq_true rfl⟩) (tg_preV hw hK hSD hA (ci := 7) (q := (RX7, TX7, 12)) rfl h_p1 rfl) rfl rfl hl.1 rfl (lv_room (Nat.le_of_ble_eq_true rfl)) dX5_readOne_54 ⟨Nat.le_of_ble_eq_true rfl, Nat.le_of_ble_eq_true rfl⟩) hw hA ⟨by decide, by decide⟩ (fun ws H locs hp_v_29 hw hF9 => ?_)
    have m_z0_4 := FLD.over hF9 m_z0_4 (by decide)
    have m_z1_7 := FLD.over hF9 m_z1_7 (by decide)
    obtain ⟨hfn, hp_v_29⟩ := hp_v_29
    have o_p0 := OV.over (V := vw_SENT) hF9 o_p0 (by decide)
    have o_p2 := OV.over (V := vw_POST) hF9 o_p2 (by decide)
    obtain ⟨sg_30, q_sg_30⟩ : ∃ q9 : OS, (f_X7_refuse__4 (4 : Int32) s1) = q9 := ⟨_, rfl⟩
    have o_p1 : OV vw_TAPE Ps ws p1 sg_30 := by rw [← q_sg_30]; exact hfn.1
    obtain ⟨v_31, m_v_31, r_v_31⟩ := (hp_v_29.1)
    simp only [f_X5_readOne__10_52, ↓reduceIte, q_z0_4, q_z1_7, q_sg_30] at hE
    exact B57 x4 s0 sg_30 s2 ws _ _ ls r_p3 (r_x4.to (by decide)) o_p0 o_p1 o_p2 hE hw hl
  have B37 : ∀ (x4 : Int32) (z1_7 : Int32) (s0 : OS) (s1 : OS) (s2 : OS) (ws : va_W) (H : Heap) (locs : List Loc) (ls : Array Slot), RI p3 2 2 → RI x4 40 155 → RI z1_7 40 155 → FLD ws p1 7 7 (.int z1_7) → OV vw_SENT Ps ws p0 s0 → OV vw_TAPE Ps ws p1 s1 → OV vw_POST Ps ws p2 s2 → f_X5_readOne__10_37 p3 x4 s0 s1 s2 = R9 → WD D cy GG A s wr_X5_readOne__10 wa_X5_readOne__10 Ps w0 Ps ws H locs → lv_has ls 5 [(0, .ref p0), (1, .ref p1), (2, .ref p2), (3, .int p3), (4, .int x4)] → W p l e (headSpec (Cond.code yX5_readOne cX5_readOne 5 none :: gT) ({ frames := 17, cells := 0, slots := 0, locals := 3400 } : Room)).room s m ([.ref p0, .ref p1, .ref p2, .int p3] : List Value).toArray below meth c H locs 0 0 Q (F0 m 37 ls []) := by
    intro x4 z1_7 s0 s1 s2 ws H locs ls r_p3 r_x4 r_z1_7 m_z1_7 o_p0 o_p1 o_p2 hE hw hl
    have q_z1_7 : s1.1 7 = z1_7 := OV.eqI (V := vw_TAPE) hw.2.2.1 o_p1 m_z1_7 (by decide)
    refine lv_aload_n hx hb dX5_readOne_37 rfl (lv_at hl 0 rfl) ?_
    refine tg_get (ci := 5) (ts := ty_SENT) (C := RX5) (T := TX5) (N := 5) hx hb hts inX5 hown hK hw h_p0 rfl rfl 4 (by decide) (hts _ tw_955) (fun _ h9 => h9) (ft := vI (-2147483648) 2147483647) rfl dX5_readOne_38 (fun u_32 hv_u_32 m_u_32 => ?_)
    obtain ⟨vu_32, rfl, r_vu_32⟩ := hv_u_32
    have q_vu_32 : s0.1 4 = vu_32 := OV.eqI (V := vw_SENT) hw.2.2.1 o_p0 m_u_32 (by decide)
    refine lv_bipush (v := 20) hx hb dX5_readOne_41 (by decide) ?_
    refine lv_icmp_ge (tgt := 52) hx hb dX5_readOne_43 (by decide) (fun c_43 => ?_) (fun c_43 => ?_)
    · have r_vu_32 : RI vu_32 20 2147483647 := rc_le2 rl_20 r_vu_32 (ti_le c_43) (by decide)
      simp only [f_X5_readOne__10_37, ↓reduceIte, q_z1_7, q_vu_32, eq_true c_43] at hE
      exact B52 x4 vu_32 z1_7 s0 s1 s2 ws _ _ ls r_p3 r_x4 r_vu_32 m_u_32 r_z1_7 m_z1_7 o_p0 o_p1 o_p2 hE hw hl
    · have r_vu_32 : RI vu_32 (-2147483648) 19 := rc_lt1 r_vu_32 rl_20 (ti_nle c_43) (by decide)
      refine lv_iload_n hx hb dX5_readOne_46 rfl (lv_at hl 3 rfl) ?_
      refine lv_bipush (v := 8) hx hb dX5_readOne_47 (by decide) ?_
      refine lv_icmp_le (tgt := 57) hx hb dX5_readOne_49 (by decide) (fun c_49 => ?_) (fun c_49 => ?_)
      · simp only [f_X5_readOne__10_37, ↓reduceIte, q_z1_7, q_vu_32, eq_false c_43, eq_true c_49] at hE
        exact B57 x4 s0 s1 s2 ws _ _ ls r_p3 (r_x4.to (by decide)) o_p0 o_p1 o_p2 hE hw hl
      · have r_p3 : RI p3 9 2 := rc_lt2 rl_8 r_p3 (ti_nle c_49) (by decide)
        exact (r_p3.no (by decide)).elim
  have B29 : ∀ (x4 : Int32) (s0 : OS) (s1 : OS) (s2 : OS) (ws : va_W) (H : Heap) (locs : List Loc) (ls : Array Slot), RI p3 2 2 → RI x4 (-2147483648) 2147483647 → OV vw_SENT Ps ws p0 s0 → OV vw_TAPE Ps ws p1 s1 → OV vw_POST Ps ws p2 s2 → f_X5_readOne__10_29 p3 x4 s0 s1 s2 = R9 → WD D cy GG A s wr_X5_readOne__10 wa_X5_readOne__10 Ps w0 Ps ws H locs → lv_has ls 5 [(0, .ref p0), (1, .ref p1), (2, .ref p2), (3, .int p3), (4, .int x4)] → W p l e (headSpec (Cond.code yX5_readOne cX5_readOne 5 none :: gT) ({ frames := 17, cells := 0, slots := 0, locals := 3400 } : Room)).room s m ([.ref p0, .ref p1, .ref p2, .int p3] : List Value).toArray below meth c H locs 0 0 Q (F0 m 29 ls []) := by
    intro x4 s0 s1 s2 ws H locs ls r_p3 r_x4 o_p0 o_p1 o_p2 hE hw hl
    refine lv_aload_n hx hb dX5_readOne_29 rfl (lv_at hl 1 rfl) ?_
    refine lv_iconst (v := 1) hx hb dX5_readOne_30 (by decide) ?_
    refine tk_v (va_runV (As := [.int 1]) (rest := []) ⟨hx, hb, hml, hown, hts⟩ (c_X7_refuse__4 l D cy z H.size Ps ws hw.1 p1 1 s1 h_p1 (rl_1.to (by decide)) o_p1) (cwV 1 hts (gV tw_981 tw_443 tw_444 tw_2 tw_445) rfl rfl rfl (by decide +kernel) ⟨Nat.le_of_ble_eq_true rfl, Nat.le_of_ble_eq_true rfl⟩) (tg_preV hw hK hSD hA (ci := 7) (q := (RX7, TX7, 12)) rfl h_p1 rfl) rfl rfl hl.1 rfl (lv_room (Nat.le_of_ble_eq_true rfl)) dX5_readOne_31 ⟨Nat.le_of_ble_eq_true rfl, Nat.le_of_ble_eq_true rfl⟩) hw hA ⟨by decide, by decide⟩ (fun ws H locs hp_v_33 hw hF9 => ?_)
    obtain ⟨hfn, hp_v_33⟩ := hp_v_33
    have o_p0 := OV.over (V := vw_SENT) hF9 o_p0 (by decide)
    have o_p2 := OV.over (V := vw_POST) hF9 o_p2 (by decide)
    obtain ⟨sg_34, q_sg_34⟩ : ∃ q9 : OS, (f_X7_refuse__4 (1 : Int32) s1) = q9 := ⟨_, rfl⟩
    have o_p1 : OV vw_TAPE Ps ws p1 sg_34 := by rw [← q_sg_34]; exact hfn.1
    obtain ⟨v_35, m_v_35, r_v_35⟩ := (hp_v_33.1)
    refine lv_goto (tgt := 57) hx hb dX5_readOne_34 (by decide) ?_
    simp only [f_X5_readOne__10_29, ↓reduceIte, q_sg_34] at hE
    exact B57 x4 s0 sg_34 s2 ws _ _ ls r_p3 r_x4 o_p0 o_p1 o_p2 hE hw hl
  refine lv_aload_n hx hb dX5_readOne_0 rfl (lv_at hl 1 rfl) ?_
  refine tg_getN (ci := 7) (ts := ty_TAPE) (C := RX7) (T := TX7) (N := 12) hx hb hts inX7 hown hK hw h_p1 rfl rfl 7 (by decide) (hSD.nest tn_96) (fun _ h9 => h9) (ft := vI (-2147483648) 2147483647) rfl dX5_readOne_1 (fun u_36 hv_u_36 m_u_36 => ?_)
  obtain ⟨vu_36, rfl, r_vu_36⟩ := hv_u_36
  have q_vu_36 : s1.1 7 = vu_36 := OV.eqI (V := vw_TAPE) hw.2.2.1 o_p1 m_u_36 (by decide)
  refine lv_istore (lv' := [(4, .int vu_36), (0, .ref p0), (1, .ref p1), (2, .ref p2), (3, .int p3)]) hx hb dX5_readOne_4 hl (by decide) rfl (fun ls hl => ?_)
  refine lv_iload hx hb dX5_readOne_6 (lv_at hl 0 rfl) ?_
  refine lv_bipush (v := 40) hx hb dX5_readOne_8 (by decide) ?_
  refine lv_icmp_eq (tgt := 37) hx hb dX5_readOne_10 (by decide) (fun c_10 => ?_) (fun c_10 => ?_)
  · have r_vu_36 : RI vu_36 40 40 := rc_eq1 r_vu_36 rl_40 (ti_eq c_10) (by decide)
    simp only [f_X5_readOne__10, ↓reduceIte, q_vu_36, eq_true c_10] at hE
    exact B37 vu_36 vu_36 s0 s1 s2 w0 _ _ ls r_p3 (r_vu_36.to (by decide)) (r_vu_36.to (by decide)) m_u_36 o_p0 o_p1 o_p2 hE hw (lv_sub hl [1, 2, 3, 4, 0] rfl)
  · refine lv_iload hx hb dX5_readOne_13 (lv_at hl 0 rfl) ?_
    refine lv_sipush (v := 146) hx hb dX5_readOne_15 (by decide) ?_
    refine lv_icmp_lt (tgt := 29) hx hb dX5_readOne_18 (by decide) (fun c_18 => ?_) (fun c_18 => ?_)
    · have r_vu_36 : RI vu_36 (-2147483648) 145 := rc_lt1 r_vu_36 rl_146 (ti_lt c_18) (by decide)
      simp only [f_X5_readOne__10, ↓reduceIte, q_vu_36, eq_false c_10, eq_true c_18] at hE
      exact B29 vu_36 s0 s1 s2 w0 _ _ ls r_p3 (r_vu_36.to (by decide)) o_p0 o_p1 o_p2 hE hw (lv_sub hl [1, 2, 3, 4, 0] rfl)
    · have r_vu_36 : RI vu_36 146 2147483647 := rc_le2 rl_146 r_vu_36 (ti_nlt c_18) (by decide)
      refine lv_iload hx hb dX5_readOne_21 (lv_at hl 0 rfl) ?_
      refine lv_sipush (v := 155) hx hb dX5_readOne_23 (by decide) ?_
      refine lv_icmp_le (tgt := 37) hx hb dX5_readOne_26 (by decide) (fun c_26 => ?_) (fun c_26 => ?_)
      · have r_vu_36 : RI vu_36 146 155 := rc_le1 r_vu_36 rl_155 (ti_le c_26) (by decide)
        simp only [f_X5_readOne__10, ↓reduceIte, q_vu_36, eq_false c_10, eq_false c_18, eq_true c_26] at hE
        exact B37 vu_36 vu_36 s0 s1 s2 w0 _ _ ls r_p3 (r_vu_36.to (by decide)) (r_vu_36.to (by decide)) m_u_36 o_p0 o_p1 o_p2 hE hw (lv_sub hl [1, 2, 3, 4, 0] rfl)
      · have r_vu_36 : RI vu_36 156 2147483647 := rc_lt2 rl_155 r_vu_36 (ti_nle c_26) (by decide)
        simp only [f_X5_readOne__10, ↓reduceIte, q_vu_36, eq_false c_10, eq_false c_18, eq_false c_26] at hE
        exact B29 vu_36 s0 s1 s2 w0 _ _ ls r_p3 (r_vu_36.to (by decide)) o_p0 o_p1 o_p2 hE hw (lv_sub hl [1, 2, 3, 4, 0] rfl)
abbrev wr_X5_readCond__10 : List (Nat × Nat) := [(5, 3), (5, 4), (7, 5), (7, 6), (7, 7), (7, 8), (7, 9), (7, 10), (7, 11)]
abbrev wa_X5_readCond__10 : List Nat := [21]
set_option maxHeartbeats 4000000 in
set_option maxRecDepth 100000 in
theorem c_X5_readCond__10 (l : Launch) (D : va_G) (cy : Nat → ClassId) (z : Nat → Nat) (sz : Nat) (Ps : PSI) (w0 : va_W) (hT : HT cy GG Ps w0) (p0 : Nat) (p1 : Nat) (p2 : Nat) (p3 : Int32) (s0 : OS) (s1 : OS) (s2 : OS) (h_p0 : (p0, 32) ∈ Ps) (h_p1 : (p1, 26) ∈ Ps) (h_p2 : (p2, 25) ∈ Ps) (r_p3 : RI p3 2 2) (o_p0 : OV vw_SENT Ps w0 p0 s0) (o_p1 : OV vw_TAPE Ps w0 p1 s1) (o_p2 : OV vw_POST Ps w0 p2 s2) : Met l yX5_readCond (Cond.code yX5_readCond cX5_readCond 7 none :: gT) ({ frames := 18, cells := 0, slots := 0, locals := 3600 } : Room) (va_Pc [.ref p0, .ref p1, .ref p2, .int p3] (PRE D cy z w0 sz)) (va_Qv (fun (u : va_W) => ((OV vw_SENT Ps u p0 ((f_X5_readCond__10 p3 s0 s1 s2).1) ∧ OV vw_TAPE Ps u p1 ((f_X5_readCond__10 p3 s0 s1 s2).2.1) ∧ OV vw_POST Ps u p2 ((f_X5_readCond__10 p3 s0 s1 s2).2.2) ∧ True) ∧ (True)) ∧ HT cy GG Ps u ∧ FR wr_X5_readCond__10 wa_X5_readCond__10 Ps w0 u) (BB D cy (va_A w0 sz) (fun (u : va_W) => u)) (va_A w0 sz)) 0 0 (va_A w0 sz) := by
  refine Met.ofW (cc := cX5_readCond) (maxL := 7) (ret := none) (by decide) rfl ?_
  intro p e s m args below meth c s₁ B hml hv
  obtain ⟨rfl, hsz, hP, hK, hD0, hSD⟩ := hv
  have hx := B.exec
  have hb := B.bytes
  have hr := B.returns
  have hlocks := B.notSynchronized
  have hts : ∀ w ∈ gT, w.before _ s = true := fun w h => atoms_spec (ws := Cond.code yX5_readCond cX5_readCond 7 none :: gT) B.pre w (List.mem_cons_of_mem _ h)
  have hown : s.vm.findClass RX5 = some m.cls := findClass_of_methodNamed B.named
  subst hsz
  have hD := hD0.self (sz := s.heap.size)
  generalize hAe : va_A w0 s.heap.size = A at hD hSD ⊢
  have hA : ∀ q : Nat, s.heap.size ≤ q → A q := fun q h => by rw [← hAe]; exact Or.inr h
  have hl := lv_entry ([.ref p0, .ref p1, .ref p2, .int p3]) (n := 7) (Nat.le_of_ble_eq_true rfl)
  rw [lg_entry_eq]
  generalize (lg_sl ([.ref p0, .ref p1, .ref p2, .int p3]) ++ List.replicate (7 - (lg_sl ([.ref p0, .ref p1, .ref p2, .int p3])).length) Slot.unset).toArray = ls at hl ⊢
  have hl : lv_has ls 7 [(0, .ref p0), (1, .ref p1), (2, .ref p2), (3, .int p3)] := hl
  refine nameQ (fun Q hQ => ?_)
  have hw : WD D cy GG A s wr_X5_readCond__10 wa_X5_readCond__10 Ps w0 Ps w0 s.heap [] := ⟨hT, hP, hD, va_S.rf, FR.rf, hT.1, [], (List.append_nil _).symm⟩
  obtain ⟨R9, hR⟩ : ∃ q9 : OS × OS × OS, f_X5_readCond__10 p3 s0 s1 s2 = q9 := ⟨_, rfl⟩
  have hE := hR
  have B106 : ∀ (x4 : Int32) (x5 : Int32) (s0 : OS) (s1 : OS) (s2 : OS) (ws : va_W) (H : Heap) (locs : List Loc) (ls : Array Slot), RI p3 2 2 → RI x4 (-2147483648) 2147483647 → RI x5 0 21 → OV vw_SENT Ps ws p0 s0 → OV vw_TAPE Ps ws p1 s1 → OV vw_POST Ps ws p2 s2 → f_X5_readCond__10_106 p3 x4 x5 s0 s1 s2 = R9 → WD D cy GG A s wr_X5_readCond__10 wa_X5_readCond__10 Ps w0 Ps ws H locs → lv_has ls 7 [(0, .ref p0), (1, .ref p1), (2, .ref p2), (3, .int p3), (4, .int x4), (5, .int x5)] → W p l e (headSpec (Cond.code yX5_readCond cX5_readCond 7 none :: gT) ({ frames := 18, cells := 0, slots := 0, locals := 3600 } : Room)).room s m ([.ref p0, .ref p1, .ref p2, .int p3] : List Value).toArray below meth c H locs 0 0 Q (F0 m 106 ls []) := by
    intro x4 x5 s0 s1 s2 ws H locs ls r_p3 r_x4 r_x5 o_p0 o_p1 o_p2 hE hw hl
    refine lv_iload hx hb dX5_readCond_106 (lv_at hl 4 rfl) ?_
    refine lv_if_eq (tgt := 120) hx hb dX5_readCond_108 (by decide) (fun c_108 => ?_) (fun c_108 => ?_)
    · have r_x4 : RI x4 0 0 := rc_eq1 r_x4 rl_0 (ti_eq c_108) (by decide)
      simp only [f_X5_readCond__10_106, ↓reduceIte, eq_true c_108] at hE
      subst hQ
      exact W.vret hx hb hr (fun t ht hW => ⟨⟨ws, rfl, ⟨⟨⟨(by rw [hR, ← hE]; exact o_p0), (by rw [hR, ← hE]; exact o_p1), (by rw [hR, ← hE]; exact o_p2), trivial⟩, trivial⟩, hw.1, hw.2.2.2.2.1⟩, by rw [ht]; exact hw.2.1, va_K.moved hW.alike hK, hw.2.2.1⟩, hw.2.2.2.1.F ht⟩) hw.2.2.2.1.2.2 dX5_readCond_120
    · refine lv_aload_n hx hb dX5_readCond_111 rfl (lv_at hl 0 rfl) ?_
      refine lv_sipush (v := 144) hx hb dX5_readCond_112 (by decide) ?_
      refine lv_iconst (v := 0) hx hb dX5_readCond_115 (by decide) ?_
      refine lv_iconst (v := 0) hx hb dX5_readCond_116 (by decide) ?_
      refine tk_v (va_runV (As := [.int 144, .int 0, .int 0]) (rest := []) ⟨hx, hb, hml, hown, hts⟩ (c_X5_addStep__1 l D cy z H.size Ps ws hw.1 p0 144 0 0 s0 h_p0 (rl_144.to (by decide)) (rl_0.to (by decide)) (rl_0.to (by decide)) o_p0) (cwV 3 hts (gV tw_983 tw_985 ts_33 tw_23 tw_986) rfl rfl rfl (by decide +kernel) ⟨Nat.le_of_ble_eq_true rfl, Nat.le_of_ble_eq_true rfl⟩) (tg_preV hw hK hSD hA (ci := 5) (q := (RX5, TX5, 5)) rfl h_p0 rfl) rfl rfl hl.1 rfl (lv_room (Nat.le_of_ble_eq_true rfl)) dX5_readCond_117 ⟨Nat.le_of_ble_eq_true rfl, Nat.le_of_ble_eq_true rfl⟩) hw hA ⟨by decide, by decide⟩ (fun ws H locs hp_v_1 hw hF9 => ?_)
      obtain ⟨hfn, hp_v_1⟩ := hp_v_1
      have o_p1 := OV.over (V := vw_TAPE) hF9 o_p1 (by decide)
      have o_p2 := OV.over (V := vw_POST) hF9 o_p2 (by decide)
      obtain ⟨sg_2, q_sg_2⟩ : ∃ q9 : OS, (f_X5_addStep__1 (144 : Int32) (0 : Int32) (0 : Int32) s0) = q9 := ⟨_, rfl⟩
      have o_p0 : OV vw_SENT Ps ws p0 sg_2 := by rw [← q_sg_2]; exact hfn.1
      obtain ⟨v_3, m_v_3, r_v_3⟩ := (hp_v_1.1)
      simp only [f_X5_readCond__10_106, ↓reduceIte, eq_false c_108, q_sg_2] at hE
      subst hQ
      exact W.vret hx hb hr (fun t ht hW => ⟨⟨ws, rfl, ⟨⟨⟨(by rw [hR, ← hE]; exact o_p0), (by rw [hR, ← hE]; exact o_p1), (by rw [hR, ← hE]; exact o_p2), trivial⟩, trivial⟩, hw.1, hw.2.2.2.2.1⟩, by rw [ht]; exact hw.2.1, va_K.moved hW.alike hK, hw.2.2.1⟩, hw.2.2.2.1.F ht⟩) hw.2.2.2.1.2.2 dX5_readCond_120
  have B13 : ∀ (nf : Nat) (x4 : Int32) (x5 : Int32) (s0 : OS) (s1 : OS) (s2 : OS) (ws : va_W) (H : Heap) (locs : List Loc) (ls : Array Slot), 20 - x5.toInt < (nf : Int) → RI p3 2 2 → RI x4 (-2147483648) 2147483647 → RI x5 0 20 → OV vw_SENT Ps ws p0 s0 → OV vw_TAPE Ps ws p1 s1 → OV vw_POST Ps ws p2 s2 → f_X5_readCond__10_13 p3 nf x4 x5 s0 s1 s2 = R9 → WD D cy GG A s wr_X5_readCond__10 wa_X5_readCond__10 Ps w0 Ps ws H locs → lv_has ls 7 [(0, .ref p0), (1, .ref p1), (2, .ref p2), (3, .int p3), (4, .int x4), (5, .int x5)] → W p l e (headSpec (Cond.code yX5_readCond cX5_readCond 7 none :: gT) ({ frames := 18, cells := 0, slots := 0, locals := 3600 } : Room)).room s m ([.ref p0, .ref p1, .ref p2, .int p3] : List Value).toArray below meth c H locs 0 0 Q (F0 m 13 ls []) := by
    intro nf13
    induction nf13 with
    | zero =>
      intro x4 x5 s0 s1 s2 ws H locs ls hn13 r_p3 r_x4 r_x5 o_p0 o_p1 o_p2 hE hw hl
      exact absurd hn13 (by have q0 := r_x5.1; have u0 := r_x5.2; omega)
    | succ nf13 ih13 =>
      have B72 : ∀ (x4 : Int32) (x5 : Int32) (x6 : Int32) (s0 : OS) (s1 : OS) (s2 : OS) (ws : va_W) (H : Heap) (locs : List Loc) (ls : Array Slot), RI p3 2 2 → RI x4 (-2147483648) 2147483647 → RI x5 0 19 → RI x6 0 1 → OV vw_SENT Ps ws p0 s0 → OV vw_TAPE Ps ws p1 s1 → OV vw_POST Ps ws p2 s2 → 20 - x5.toInt < ((nf13 + 1 : Nat) : Int) → f_X5_readCond__10_72 (f_X5_readCond__10_13 p3 nf13) p3 x4 x5 x6 s0 s1 s2 = R9 → WD D cy GG A s wr_X5_readCond__10 wa_X5_readCond__10 Ps w0 Ps ws H locs → lv_has ls 7 [(0, .ref p0), (1, .ref p1), (2, .ref p2), (3, .int p3), (4, .int x4), (5, .int x5), (6, .int x6)] → W p l e (headSpec (Cond.code yX5_readCond cX5_readCond 7 none :: gT) ({ frames := 18, cells := 0, slots := 0, locals := 3600 } : Room)).room s m ([.ref p0, .ref p1, .ref p2, .int p3] : List Value).toArray below meth c H locs 0 0 Q (F0 m 72 ls []) := by
        intro x4 x5 x6 s0 s1 s2 ws H locs ls r_p3 r_x4 r_x5 r_x6 o_p0 o_p1 o_p2 hn13 hE hw hl
        refine lv_iload hx hb dX5_readCond_72 (lv_at hl 4 rfl) ?_
        refine lv_iload hx hb dX5_readCond_74 (lv_at hl 6 rfl) ?_
        refine lv_ior hx hb dX5_readCond_76 (lv_topi (fun v_4 e_v_4 => ?_))
        have r_v_4 := ri_any v_4
        have q_v_4 : x4 ||| x6 = v_4 := e_v_4.symm
        refine lv_istore (lv' := [(4, .int v_4), (0, .ref p0), (1, .ref p1), (2, .ref p2), (3, .int p3), (5, .int x5), (6, .int x6)]) hx hb dX5_readCond_77 hl (by decide) rfl (fun ls hl => ?_)
        refine lv_aload_n hx hb dX5_readCond_79 rfl (lv_at hl 1 rfl) ?_
        refine lv_aload_n hx hb dX5_readCond_80 rfl (lv_at hl 2 rfl) ?_
        refine lv_aload_n hx hb dX5_readCond_81 rfl (lv_at hl 3 rfl) ?_
        refine lv_iload_n hx hb dX5_readCond_82 rfl (lv_at hl 4 rfl) ?_
        refine tk_v (va_runV (As := [.ref p1, .ref p2, .int p3]) (rest := []) ⟨hx, hb, hml, hown, hts⟩ (c_X5_readOne__10 l D cy z H.size Ps ws hw.1 p0 p1 p2 p3 s0 s1 s2 h_p0 h_p1 h_p2 r_p3 o_p0 o_p1 o_p2) (cwV 3 hts (gV tw_977 tw_979 ts_32 tw_23 tw_980) rfl rfl rfl (by decide +kernel) ⟨Nat.le_of_ble_eq_true rfl, Nat.le_of_ble_eq_true rfl⟩) (tg_preV hw hK hSD hA (ci := 5) (q := (RX5, TX5, 5)) rfl h_p0 rfl) rfl rfl hl.1 rfl (lv_room (Nat.le_of_ble_eq_true rfl)) dX5_readCond_83 ⟨Nat.le_of_ble_eq_true rfl, Nat.le_of_ble_eq_true rfl⟩) hw hA ⟨by decide, by decide⟩ (fun ws H locs hp_v_5 hw hF9 => ?_)
        obtain ⟨hfn, hp_v_5⟩ := hp_v_5
        obtain ⟨sg_6, q_sg_6⟩ : ∃ q9 : OS, (f_X5_readOne__10 p3 s0 s1 s2).1 = q9 := ⟨_, rfl⟩
        have o_p0 : OV vw_SENT Ps ws p0 sg_6 := by rw [← q_sg_6]; exact hfn.1
        obtain ⟨sg_7, q_sg_7⟩ : ∃ q9 : OS, (f_X5_readOne__10 p3 s0 s1 s2).2.1 = q9 := ⟨_, rfl⟩
        have o_p1 : OV vw_TAPE Ps ws p1 sg_7 := by rw [← q_sg_7]; exact hfn.2.1
        obtain ⟨sg_8, q_sg_8⟩ : ∃ q9 : OS, (f_X5_readOne__10 p3 s0 s1 s2).2.2 = q9 := ⟨_, rfl⟩
        have o_p2 : OV vw_POST Ps ws p2 sg_8 := by rw [← q_sg_8]; exact hfn.2.2.1
        refine lv_iload hx hb dX5_readCond_86 (lv_at hl 6 rfl) ?_
        refine lv_if_ne (tgt := 100) hx hb dX5_readCond_88 (by decide) (fun c_88 => ?_) (fun c_88 => ?_)
        · have r_x6 : RI x6 1 1 := rc_neL r_x6 rl_0 (ti_ne c_88) (by decide)
          obtain ⟨v_9, e_v_9⟩ : ∃ q9 : Int32, q9 = x5 + Int32.ofInt 1 := ⟨_, rfl⟩
          obtain ⟨t_v_9, r_v_9⟩ := tq_add (lo := 1) (hi := 20) r_x5 (show RI (Int32.ofInt 1) 1 1 by unfold RI; decide +kernel) (by decide +kernel) e_v_9
          have t_v_9 : v_9.toInt = x5.toInt + 1 := t_v_9
          refine lv_iinc (v := v_9) (lv' := [(5, .int v_9), (4, .int v_4), (0, .ref p0), (1, .ref p1), (2, .ref p2), (3, .int p3), (6, .int x6)]) hx hb dX5_readCond_100 hl (k := 5) rfl e_v_9.symm (by decide) rfl (fun ls hl => ?_)
          have q_v_9 : x5 + (1 : Int32) = v_9 := by rw [e_v_9, show Int32.ofInt 1 = (1 : Int32) by decide]
          refine lv_goto (tgt := 13) hx hb dX5_readCond_103 (by decide) ?_
          simp only [f_X5_readCond__10_72, ↓reduceIte, q_v_4, q_sg_6, q_sg_7, q_sg_8, eq_false c_88, q_v_9] at hE
          exact ih13 v_4 v_9 sg_6 sg_7 sg_8 ws _ _ ls (by have q0 := r_v_9.1; have u0 := r_v_9.2; have o0 := r_x5.1; have p0 := r_x5.2; omega) r_p3 r_v_4 (r_v_9.to (by decide)) o_p0 o_p1 o_p2 hE hw (lv_sub hl [2, 3, 4, 5, 1, 0] rfl)
        · have r_x6 : RI x6 0 0 := rc_eq1 r_x6 rl_0 (ti_eq c_88) (by decide)
          refine lv_aload_n hx hb dX5_readCond_91 rfl (lv_at hl 1 rfl) ?_
          refine lv_sipush (v := 145) hx hb dX5_readCond_92 (by decide) ?_
          refine lv_iconst (v := 0) hx hb dX5_readCond_95 (by decide) ?_
          refine lv_iconst (v := 0) hx hb dX5_readCond_96 (by decide) ?_
          refine tk_v (va_runV (As := [.int 145, .int 0, .int 0]) (rest := []) ⟨hx, hb, hml, hown, hts⟩ (c_X5_addStep__1 l D cy z H.size Ps ws hw.1 p0 145 0 0 sg_6 h_p0 (rl_145.to (by decide)) (rl_0.to (by decide)) (rl_0.to (by decide)) o_p0) (cwV 3 hts (gV tw_983 tw_985 ts_33 tw_23 tw_986) rfl rfl rfl (by decide +kernel) ⟨Nat.le_of_ble_eq_true rfl, Nat.le_of_ble_eq_true rfl⟩) (tg_preV hw hK hSD hA (ci := 5) (q := (RX5, TX5, 5)) rfl h_p0 rfl) rfl rfl hl.1 rfl (lv_room (Nat.le_of_ble_eq_true rfl)) dX5_readCond_97 ⟨Nat.le_of_ble_eq_true rfl, Nat.le_of_ble_eq_true rfl⟩) hw hA ⟨by decide, by decide⟩ (fun ws H locs hp_v_10 hw hF9 => ?_)
          obtain ⟨hfn, hp_v_10⟩ := hp_v_10
          have o_p1 := OV.over (V := vw_TAPE) hF9 o_p1 (by decide)
          have o_p2 := OV.over (V := vw_POST) hF9 o_p2 (by decide)
          obtain ⟨sg_11, q_sg_11⟩ : ∃ q9 : OS, (f_X5_addStep__1 (145 : Int32) (0 : Int32) (0 : Int32) sg_6) = q9 := ⟨_, rfl⟩
          have o_p0 : OV vw_SENT Ps ws p0 sg_11 := by rw [← q_sg_11]; exact hfn.1
          obtain ⟨v_12, m_v_12, r_v_12⟩ := (hp_v_10.1)
          obtain ⟨v_13, e_v_13⟩ : ∃ q9 : Int32, q9 = x5 + Int32.ofInt 1 := ⟨_, rfl⟩
          obtain ⟨t_v_13, r_v_13⟩ := tq_add (lo := 1) (hi := 20) r_x5 (show RI (Int32.ofInt 1) 1 1 by unfold RI; decide +kernel) (by decide +kernel) e_v_13
          have t_v_13 : v_13.toInt = x5.toInt + 1 := t_v_13
          refine lv_iinc (v := v_13) (lv' := [(5, .int v_13), (4, .int v_4), (0, .ref p0), (1, .ref p1), (2, .ref p2), (3, .int p3), (6, .int x6)]) hx hb dX5_readCond_100 hl (k := 5) rfl e_v_13.symm (by decide) rfl (fun ls hl => ?_)
          have q_v_13 : x5 + (1 : Int32) = v_13 := by rw [e_v_13, show Int32.ofInt 1 = (1 : Int32) by decide]
          refine lv_goto (tgt := 13) hx hb dX5_readCond_103 (by decide) ?_
          simp only [f_X5_readCond__10_72, ↓reduceIte, q_v_4, q_sg_6, q_sg_7, q_sg_8, eq_true c_88, q_sg_11, q_v_13] at hE
          exact ih13 v_4 v_13 sg_11 sg_7 sg_8 ws _ _ ls (by have q0 := r_v_13.1; have u0 := r_v_13.2; have o0 := r_x5.1; have p0 := r_x5.2; omega) r_p3 r_v_4 (r_v_13.to (by decide)) o_p0 o_p1 o_p2 hE hw (lv_sub hl [2, 3, 4, 5, 1, 0] rfl)
      have B40 : ∀ (x4 : Int32) (x5 : Int32) (s0 : OS) (s1 : OS) (s2 : OS) (ws : va_W) (H : Heap) (locs : List Loc) (ls : Array Slot), RI p3 2 2 → RI x4 (-2147483648) 2147483647 → RI x5 0 19 → OV vw_SENT Ps ws p0 s0 → OV vw_TAPE Ps ws p1 s1 → OV vw_POST Ps ws p2 s2 → 20 - x5.toInt < ((nf13 + 1 : Nat) : Int) → f_X5_readCond__10_40 (f_X5_readCond__10_13 p3 nf13) p3 x4 x5 s0 s1 s2 = R9 → WD D cy GG A s wr_X5_readCond__10 wa_X5_readCond__10 Ps w0 Ps ws H locs → lv_has ls 7 [(0, .ref p0), (1, .ref p1), (2, .ref p2), (3, .int p3), (4, .int x4), (5, .int x5)] → W p l e (headSpec (Cond.code yX5_readCond cX5_readCond 7 none :: gT) ({ frames := 18, cells := 0, slots := 0, locals := 3600 } : Room)).room s m ([.ref p0, .ref p1, .ref p2, .int p3] : List Value).toArray below meth c H locs 0 0 Q (F0 m 40 ls []) := by
        intro x4 x5 s0 s1 s2 ws H locs ls r_p3 r_x4 r_x5 o_p0 o_p1 o_p2 hn13 hE hw hl
        refine lv_aload_n hx hb dX5_readCond_40 rfl (lv_at hl 1 rfl) ?_
        refine lv_sipush (v := 144) hx hb dX5_readCond_41 (by decide) ?_
        refine tk_ir (va_runV (As := [.int 144]) (rest := []) ⟨hx, hb, hml, hown, hts⟩ (c_X7_sees__1 l D cy z H.size Ps ws hw.1 p1 144 s1 h_p1 (rl_144.to (by decide)) o_p1) (cwV 1 hts (gV tw_994 tw_995 tw_996 tw_2 tw_997) rfl rfl rfl (by decide +kernel) ⟨Nat.le_of_ble_eq_true rfl, Nat.le_of_ble_eq_true rfl⟩) (tg_preV hw hK hSD hA (ci := 7) (q := (RX7, TX7, 12)) rfl h_p1 rfl) rfl rfl hl.1 rfl (lv_room (Nat.le_of_ble_eq_true rfl)) dX5_readCond_44 ⟨Nat.le_of_ble_eq_true rfl, Nat.le_of_ble_eq_true rfl⟩) hw hA (fun v_14  H locs hp_v_14 hw => ?_)
        obtain ⟨hfn, hp_v_14⟩ := hp_v_14
        have q_v_14 : (f_X7_sees__1 (144 : Int32) s1) = v_14 := hfn.1
        have r_v_14 : RI v_14 0 1 := hp_v_14.1
        refine lv_istore (lv' := [(6, .int v_14), (0, .ref p0), (1, .ref p1), (2, .ref p2), (3, .int p3), (4, .int x4), (5, .int x5)]) hx hb dX5_readCond_47 hl (by decide) rfl (fun ls hl => ?_)
        refine lv_aload_n hx hb dX5_readCond_49 rfl (lv_at hl 2 rfl) ?_
        refine tk_v (va_runV (As := []) (rest := []) ⟨hx, hb, hml, hown, hts⟩ (c_X7_pass__6 l D cy z H.size Ps ws hw.1 p1 s1 h_p1 o_p1) (cwV 0 hts (gV tw_982 tw_425 tw_426 tw_2 tw_427) rfl rfl rfl (by decide +kernel) ⟨Nat.le_of_ble_eq_true rfl, Nat.le_of_ble_eq_true rfl⟩) (tg_preV hw hK hSD hA (ci := 7) (q := (RX7, TX7, 12)) rfl h_p1 rfl) rfl rfl hl.1 rfl (lv_room (Nat.le_of_ble_eq_true rfl)) dX5_readCond_50 ⟨Nat.le_of_ble_eq_true rfl, Nat.le_of_ble_eq_true rfl⟩) hw hA ⟨by decide, by decide⟩ (fun ws H locs hp_v_15 hw hF9 => ?_)
        obtain ⟨hfn, hp_v_15⟩ := hp_v_15
        have o_p0 := OV.over (V := vw_SENT) hF9 o_p0 (by decide)
        have o_p2 := OV.over (V := vw_POST) hF9 o_p2 (by decide)
        obtain ⟨sg_16, q_sg_16⟩ : ∃ q9 : OS, (f_X7_pass__6 s1) = q9 := ⟨_, rfl⟩
        have o_p1 : OV vw_TAPE Ps ws p1 sg_16 := by rw [← q_sg_16]; exact hfn.1
        refine lv_iload hx hb dX5_readCond_53 (lv_at hl 0 rfl) ?_
        refine lv_if_eq (tgt := 72) hx hb dX5_readCond_55 (by decide) (fun c_55 => ?_) (fun c_55 => ?_)
        · have r_v_14 : RI v_14 0 0 := rc_eq1 r_v_14 rl_0 (ti_eq c_55) (by decide)
          simp only [f_X5_readCond__10_40, ↓reduceIte, q_v_14, q_sg_16, eq_true c_55] at hE
          exact B72 x4 x5 v_14 s0 sg_16 s2 ws _ _ ls r_p3 r_x4 r_x5 (r_v_14.to (by decide)) o_p0 o_p1 o_p2 (by have q0 := r_x5.1; have u0 := r_x5.2; omega) hE hw (lv_sub hl [1, 2, 3, 4, 5, 6, 0] rfl)
        · have r_v_14 : RI v_14 1 1 := rc_neL r_v_14 rl_0 (ti_ne c_55) (by decide)
          refine lv_iload hx hb dX5_readCond_58 (lv_at hl 5 rfl) ?_
          refine lv_if_eq (tgt := 72) hx hb dX5_readCond_60 (by decide) (fun c_60 => ?_) (fun c_60 => ?_)
          · have r_x4 : RI x4 0 0 := rc_eq1 r_x4 rl_0 (ti_eq c_60) (by decide)
            simp only [f_X5_readCond__10_40, ↓reduceIte, q_v_14, q_sg_16, eq_false c_55, eq_true c_60] at hE
            exact B72 x4 x5 v_14 s0 sg_16 s2 ws _ _ ls r_p3 (r_x4.to (by decide)) r_x5 (r_v_14.to (by decide)) o_p0 o_p1 o_p2 (by have q0 := r_x5.1; have u0 := r_x5.2; omega) hE hw (lv_sub hl [1, 2, 3, 4, 5, 6, 0] rfl)
          · refine lv_aload_n hx hb dX5_readCond_63 rfl (lv_at hl 1 rfl) ?_
            refine lv_sipush (v := 144) hx hb dX5_readCond_64 (by decide) ?_
            refine lv_iconst (v := 0) hx hb dX5_readCond_67 (by decide) ?_
            refine lv_iconst (v := 0) hx hb dX5_readCond_68 (by decide) ?_
            refine tk_v (va_runV (As := [.int 144, .int 0, .int 0]) (rest := []) ⟨hx, hb, hml, hown, hts⟩ (c_X5_addStep__1 l D cy z H.size Ps ws hw.1 p0 144 0 0 s0 h_p0 (rl_144.to (by decide)) (rl_0.to (by decide)) (rl_0.to (by decide)) o_p0) (cwV 3 hts (gV tw_983 tw_985 ts_33 tw_23 tw_986) rfl rfl rfl (by decide +kernel) ⟨Nat.le_of_ble_eq_true rfl, Nat.le_of_ble_eq_true rfl⟩) (tg_preV hw hK hSD hA (ci := 5) (q := (RX5, TX5, 5)) rfl h_p0 rfl) rfl rfl hl.1 rfl (lv_room (Nat.le_of_ble_eq_true rfl)) dX5_readCond_69 ⟨Nat.le_of_ble_eq_true rfl, Nat.le_of_ble_eq_true rfl⟩) hw hA ⟨by decide, by decide⟩ (fun ws H locs hp_v_17 hw hF9 => ?_)
            obtain ⟨hfn, hp_v_17⟩ := hp_v_17
            have o_p1 := OV.over (V := vw_TAPE) hF9 o_p1 (by decide)
            have o_p2 := OV.over (V := vw_POST) hF9 o_p2 (by decide)
            obtain ⟨sg_18, q_sg_18⟩ : ∃ q9 : OS, (f_X5_addStep__1 (144 : Int32) (0 : Int32) (0 : Int32) s0) = q9 := ⟨_, rfl⟩
            have o_p0 : OV vw_SENT Ps ws p0 sg_18 := by rw [← q_sg_18]; exact hfn.1
            obtain ⟨v_19, m_v_19, r_v_19⟩ := (hp_v_17.1)
            simp only [f_X5_readCond__10_40, ↓reduceIte, q_v_14, q_sg_16, eq_false c_55, eq_false c_60, q_sg_18] at hE
            exact B72 x4 x5 v_14 sg_18 sg_16 s2 ws _ _ ls r_p3 r_x4 r_x5 (r_v_14.to (by decide)) o_p0 o_p1 o_p2 (by have q0 := r_x5.1; have u0 := r_x5.2; omega) hE hw (lv_sub hl [1, 2, 3, 4, 5, 6, 0] rfl)
      intro x4 x5 s0 s1 s2 ws H locs ls hn13 r_p3 r_x4 r_x5 o_p0 o_p1 o_p2 hE hw hl
      refine lv_iload hx hb dX5_readCond_13 (lv_at hl 5 rfl) ?_
      refine lv_bipush (v := 20) hx hb dX5_readCond_15 (by decide) ?_
      refine lv_icmp_ge (tgt := 106) hx hb dX5_readCond_17 (by decide) (fun c_17 => ?_) (fun c_17 => ?_)
      · have r_x5 : RI x5 20 20 := rc_le2 rl_20 r_x5 (ti_le c_17) (by decide)
        simp only [f_X5_readCond__10_13, ↓reduceIte, eq_true c_17] at hE
        exact B106 x4 x5 s0 s1 s2 ws _ _ ls r_p3 r_x4 (r_x5.to (by decide)) o_p0 o_p1 o_p2 hE hw hl
      · have r_x5 : RI x5 0 19 := rc_lt1 r_x5 rl_20 (ti_nle c_17) (by decide)
        refine lv_aload_n hx hb dX5_readCond_20 rfl (lv_at hl 1 rfl) ?_
        refine lv_sipush (v := 144) hx hb dX5_readCond_21 (by decide) ?_
        refine tk_ir (va_runV (As := [.int 144]) (rest := []) ⟨hx, hb, hml, hown, hts⟩ (c_X7_sees__1 l D cy z H.size Ps ws hw.1 p1 144 s1 h_p1 (rl_144.to (by decide)) o_p1) (cwV 1 hts (gV tw_994 tw_995 tw_996 tw_2 tw_997) rfl rfl rfl (by decide +kernel) ⟨Nat.le_of_ble_eq_true rfl, Nat.le_of_ble_eq_true rfl⟩) (tg_preV hw hK hSD hA (ci := 7) (q := (RX7, TX7, 12)) rfl h_p1 rfl) rfl rfl hl.1 rfl (lv_room (Nat.le_of_ble_eq_true rfl)) dX5_readCond_24 ⟨Nat.le_of_ble_eq_true rfl, Nat.le_of_ble_eq_true rfl⟩) hw hA (fun v_20  H locs hp_v_20 hw => ?_)
        obtain ⟨hfn, hp_v_20⟩ := hp_v_20
        have q_v_20 : (f_X7_sees__1 (144 : Int32) s1) = v_20 := hfn.1
        have r_v_20 : RI v_20 0 1 := hp_v_20.1
        refine lv_if_ne (tgt := 40) hx hb dX5_readCond_27 (by decide) (fun c_27 => ?_) (fun c_27 => ?_)
        · have r_v_20 : RI v_20 1 1 := rc_neL r_v_20 rl_0 (ti_ne c_27) (by decide)
          simp only [f_X5_readCond__10_13, ↓reduceIte, eq_false c_17, q_v_20, eq_false c_27] at hE
          exact B40 x4 x5 s0 s1 s2 ws _ _ ls r_p3 r_x4 r_x5 o_p0 o_p1 o_p2 (by have q0 := r_x5.1; have u0 := r_x5.2; omega) hE hw hl
        · have r_v_20 : RI v_20 0 0 := rc_eq1 r_v_20 rl_0 (ti_eq c_27) (by decide)
          refine lv_aload_n hx hb dX5_readCond_30 rfl (lv_at hl 1 rfl) ?_
          refine lv_sipush (v := 145) hx hb dX5_readCond_31 (by decide) ?_
          refine tk_ir (va_runV (As := [.int 145]) (rest := []) ⟨hx, hb, hml, hown, hts⟩ (c_X7_sees__1 l D cy z H.size Ps ws hw.1 p1 145 s1 h_p1 (rl_145.to (by decide)) o_p1) (cwV 1 hts (gV tw_994 tw_995 tw_996 tw_2 tw_997) rfl rfl rfl (by decide +kernel) ⟨Nat.le_of_ble_eq_true rfl, Nat.le_of_ble_eq_true rfl⟩) (tg_preV hw hK hSD hA (ci := 7) (q := (RX7, TX7, 12)) rfl h_p1 rfl) rfl rfl hl.1 rfl (lv_room (Nat.le_of_ble_eq_true rfl)) dX5_readCond_34 ⟨Nat.le_of_ble_eq_true rfl, Nat.le_of_ble_eq_true rfl⟩) hw hA (fun v_21  H locs hp_v_21 hw => ?_)
          obtain ⟨hfn, hp_v_21⟩ := hp_v_21
          have q_v_21 : (f_X7_sees__1 (145 : Int32) s1) = v_21 := hfn.1
          have r_v_21 : RI v_21 0 1 := hp_v_21.1
          refine lv_if_eq (tgt := 106) hx hb dX5_readCond_37 (by decide) (fun c_37 => ?_) (fun c_37 => ?_)
          · have r_v_21 : RI v_21 0 0 := rc_eq1 r_v_21 rl_0 (ti_eq c_37) (by decide)
            simp only [f_X5_readCond__10_13, ↓reduceIte, eq_false c_17, q_v_20, eq_true c_27, q_v_21, eq_true c_37] at hE
            exact B106 x4 x5 s0 s1 s2 ws _ _ ls r_p3 r_x4 (r_x5.to (by decide)) o_p0 o_p1 o_p2 hE hw hl
          · have r_v_21 : RI v_21 1 1 := rc_neL r_v_21 rl_0 (ti_ne c_37) (by decide)
            simp only [f_X5_readCond__10_13, ↓reduceIte, eq_false c_17, q_v_20, eq_true c_27, q_v_21, eq_false c_37] at hE
            exact B40 x4 x5 s0 s1 s2 ws _ _ ls r_p3 r_x4 r_x5 o_p0 o_p1 o_p2 (by have q0 := r_x5.1; have u0 := r_x5.2; omega) hE hw hl
  refine lv_iconst (v := 0) hx hb dX5_readCond_0 (by decide) ?_
  refine lv_istore (lv' := [(4, .int 0), (0, .ref p0), (1, .ref p1), (2, .ref p2), (3, .int p3)]) hx hb dX5_readCond_1 hl (by decide) rfl (fun ls hl => ?_)
  refine lv_aload_n hx hb dX5_readCond_3 rfl (lv_at hl 1 rfl) ?_
  refine lv_aload_n hx hb dX5_readCond_4 rfl (lv_at hl 2 rfl) ?_
  refine lv_aload_n hx hb dX5_readCond_5 rfl (lv_at hl 3 rfl) ?_
  refine lv_iload_n hx hb dX5_readCond_6 rfl (lv_at hl 4 rfl) ?_
  refine tk_v (va_runV (As := [.ref p1, .ref p2, .int p3]) (rest := []) ⟨hx, hb, hml, hown, hts⟩ (c_X5_readOne__10 l D cy z s.heap.size Ps w0 hw.1 p0 p1 p2 p3 s0 s1 s2 h_p0 h_p1 h_p2 r_p3 o_p0 o_p1 o_p2) (cwV 3 hts (gV tw_977 tw_979 ts_32 tw_23 tw_980) rfl rfl rfl (by decide +kernel) ⟨Nat.le_of_ble_eq_true rfl, Nat.le_of_ble_eq_true rfl⟩) (tg_preV hw hK hSD hA (ci := 5) (q := (RX5, TX5, 5)) rfl h_p0 rfl) rfl rfl hl.1 rfl (lv_room (Nat.le_of_ble_eq_true rfl)) dX5_readCond_7 ⟨Nat.le_of_ble_eq_true rfl, Nat.le_of_ble_eq_true rfl⟩) hw hA ⟨by decide, by decide⟩ (fun ws H locs hp_v_22 hw hF9 => ?_)
  obtain ⟨hfn, hp_v_22⟩ := hp_v_22
  obtain ⟨sg_23, q_sg_23⟩ : ∃ q9 : OS, (f_X5_readOne__10 p3 s0 s1 s2).1 = q9 := ⟨_, rfl⟩
  have o_p0 : OV vw_SENT Ps ws p0 sg_23 := by rw [← q_sg_23]; exact hfn.1
  obtain ⟨sg_24, q_sg_24⟩ : ∃ q9 : OS, (f_X5_readOne__10 p3 s0 s1 s2).2.1 = q9 := ⟨_, rfl⟩
  have o_p1 : OV vw_TAPE Ps ws p1 sg_24 := by rw [← q_sg_24]; exact hfn.2.1
  obtain ⟨sg_25, q_sg_25⟩ : ∃ q9 : OS, (f_X5_readOne__10 p3 s0 s1 s2).2.2 = q9 := ⟨_, rfl⟩
  have o_p2 : OV vw_POST Ps ws p2 sg_25 := by rw [← q_sg_25]; exact hfn.2.2.1
  refine lv_iconst (v := 0) hx hb dX5_readCond_10 (by decide) ?_
  refine lv_istore (lv' := [(5, .int 0), (4, .int 0), (0, .ref p0), (1, .ref p1), (2, .ref p2), (3, .int p3)]) hx hb dX5_readCond_11 hl (by decide) rfl (fun ls hl => ?_)
  simp only [f_X5_readCond__10, ↓reduceIte, q_sg_23, q_sg_24, q_sg_25] at hE
  exact B13 4294967298 0 0 sg_23 sg_24 sg_25 ws _ _ ls (by have q0 := rl_0.1; have u0 := rl_0.2; omega) r_p3 (rl_0.to (by decide)) (rl_0.to (by decide)) o_p0 o_p1 o_p2 hE hw (lv_sub hl [2, 3, 4, 5, 1, 0] rfl)
abbrev wr_X5_readOne__9 : List (Nat × Nat) := [(5, 3), (5, 4), (7, 5), (7, 6), (7, 7), (7, 8), (7, 9), (7, 10), (7, 11)]
abbrev wa_X5_readOne__9 : List Nat := [21]
set_option maxHeartbeats 4000000 in
set_option maxRecDepth 100000 in
theorem c_X5_readOne__9 (l : Launch) (D : va_G) (cy : Nat → ClassId) (z : Nat → Nat) (sz : Nat) (Ps : PSI) (w0 : va_W) (hT : HT cy GG Ps w0) (p0 : Nat) (p1 : Nat) (p2 : Nat) (p3 : Int32) (s0 : OS) (s1 : OS) (s2 : OS) (h_p0 : (p0, 32) ∈ Ps) (h_p1 : (p1, 26) ∈ Ps) (h_p2 : (p2, 25) ∈ Ps) (r_p3 : RI p3 1 1) (o_p0 : OV vw_SENT Ps w0 p0 s0) (o_p1 : OV vw_TAPE Ps w0 p1 s1) (o_p2 : OV vw_POST Ps w0 p2 s2) : Met l yX5_readOne (Cond.code yX5_readOne cX5_readOne 5 none :: gT) ({ frames := 19, cells := 0, slots := 0, locals := 3800 } : Room) (va_Pc [.ref p0, .ref p1, .ref p2, .int p3] (PRE D cy z w0 sz)) (va_Qv (fun (u : va_W) => ((OV vw_SENT Ps u p0 ((f_X5_readOne__9 p3 s0 s1 s2).1) ∧ OV vw_TAPE Ps u p1 ((f_X5_readOne__9 p3 s0 s1 s2).2.1) ∧ OV vw_POST Ps u p2 ((f_X5_readOne__9 p3 s0 s1 s2).2.2) ∧ True) ∧ (True)) ∧ HT cy GG Ps u ∧ FR wr_X5_readOne__9 wa_X5_readOne__9 Ps w0 u) (BB D cy (va_A w0 sz) (fun (u : va_W) => u)) (va_A w0 sz)) 0 0 (va_A w0 sz) := by
  refine Met.ofW (cc := cX5_readOne) (maxL := 5) (ret := none) (by decide) rfl ?_
  intro p e s m args below meth c s₁ B hml hv
  obtain ⟨rfl, hsz, hP, hK, hD0, hSD⟩ := hv
  have hx := B.exec
  have hb := B.bytes
  have hr := B.returns
  have hlocks := B.notSynchronized
  have hts : ∀ w ∈ gT, w.before _ s = true := fun w h => atoms_spec (ws := Cond.code yX5_readOne cX5_readOne 5 none :: gT) B.pre w (List.mem_cons_of_mem _ h)
  have hown : s.vm.findClass RX5 = some m.cls := findClass_of_methodNamed B.named
  subst hsz
  have hD := hD0.self (sz := s.heap.size)
  generalize hAe : va_A w0 s.heap.size = A at hD hSD ⊢
  have hA : ∀ q : Nat, s.heap.size ≤ q → A q := fun q h => by rw [← hAe]; exact Or.inr h
  have hl := lv_entry ([.ref p0, .ref p1, .ref p2, .int p3]) (n := 5) (Nat.le_of_ble_eq_true rfl)
  rw [lg_entry_eq]
  generalize (lg_sl ([.ref p0, .ref p1, .ref p2, .int p3]) ++ List.replicate (5 - (lg_sl ([.ref p0, .ref p1, .ref p2, .int p3])).length) Slot.unset).toArray = ls at hl ⊢
  have hl : lv_has ls 5 [(0, .ref p0), (1, .ref p1), (2, .ref p2), (3, .int p3)] := hl
  refine nameQ (fun Q hQ => ?_)
  have hw : WD D cy GG A s wr_X5_readOne__9 wa_X5_readOne__9 Ps w0 Ps w0 s.heap [] := ⟨hT, hP, hD, va_S.rf, FR.rf, hT.1, [], (List.append_nil _).symm⟩
  obtain ⟨R9, hR⟩ : ∃ q9 : OS × OS × OS, f_X5_readOne__9 p3 s0 s1 s2 = q9 := ⟨_, rfl⟩
  have hE := hR
  have B57 : ∀ (x4 : Int32) (s0 : OS) (s1 : OS) (s2 : OS) (ws : va_W) (H : Heap) (locs : List Loc) (ls : Array Slot), RI p3 1 1 → RI x4 (-2147483648) 2147483647 → OV vw_SENT Ps ws p0 s0 → OV vw_TAPE Ps ws p1 s1 → OV vw_POST Ps ws p2 s2 → f_X5_readOne__9_57 p3 x4 s0 s1 s2 = R9 → WD D cy GG A s wr_X5_readOne__9 wa_X5_readOne__9 Ps w0 Ps ws H locs → lv_has ls 5 [(0, .ref p0), (1, .ref p1), (2, .ref p2), (3, .int p3), (4, .int x4)] → W p l e (headSpec (Cond.code yX5_readOne cX5_readOne 5 none :: gT) ({ frames := 19, cells := 0, slots := 0, locals := 3800 } : Room)).room s m ([.ref p0, .ref p1, .ref p2, .int p3] : List Value).toArray below meth c H locs 0 0 Q (F0 m 57 ls []) := by
    intro x4 s0 s1 s2 ws H locs ls r_p3 r_x4 o_p0 o_p1 o_p2 hE hw hl
    refine lv_aload_n hx hb dX5_readOne_57 rfl (lv_at hl 1 rfl) ?_
    refine tg_getN (ci := 7) (ts := ty_TAPE) (C := RX7) (T := TX7) (N := 12) hx hb hts inX7 hown hK hw h_p1 rfl rfl 10 (by decide) (hSD.nest tn_103) (fun _ h9 => h9) (ft := vI 0 4) rfl dX5_readOne_58 (fun u_1 hv_u_1 m_u_1 => ?_)
    obtain ⟨vu_1, rfl, r_vu_1⟩ := hv_u_1
    have q_vu_1 : s1.1 10 = vu_1 := OV.eqI (V := vw_TAPE) hw.2.2.1 o_p1 m_u_1 (by decide)
    refine lv_if_eq (tgt := 65) hx hb dX5_readOne_61 (by decide) (fun c_61 => ?_) (fun c_61 => ?_)
    · have r_vu_1 : RI vu_1 0 0 := rc_eq1 r_vu_1 rl_0 (ti_eq c_61) (by decide)
      refine lv_aload_n hx hb dX5_readOne_65 rfl (lv_at hl 1 rfl) ?_
      refine tk_v (va_runV (As := []) (rest := []) ⟨hx, hb, hml, hown, hts⟩ (c_X7_pass__5 l D cy z H.size Ps ws hw.1 p1 vu_1 s1 h_p1 r_vu_1 m_u_1 o_p1) (cwV 0 hts (gV tw_982 tw_425 tw_426 tw_2 tw_427) rfl rfl rfl (by decide +kernel) ⟨Nat.le_of_ble_eq_true rfl, Nat.le_of_ble_eq_true rfl⟩) (tg_preV hw hK hSD hA (ci := 7) (q := (RX7, TX7, 12)) rfl h_p1 rfl) rfl rfl hl.1 rfl (lv_room (Nat.le_of_ble_eq_true rfl)) dX5_readOne_66 ⟨Nat.le_of_ble_eq_true rfl, Nat.le_of_ble_eq_true rfl⟩) hw hA ⟨by decide, by decide⟩ (fun ws H locs hp_v_2 hw hF9 => ?_)
      have m_u_1 := FLD.over hF9 m_u_1 (by decide)
      obtain ⟨hfn, hp_v_2⟩ := hp_v_2
      have o_p0 := OV.over (V := vw_SENT) hF9 o_p0 (by decide)
      have o_p2 := OV.over (V := vw_POST) hF9 o_p2 (by decide)
      obtain ⟨sg_3, q_sg_3⟩ : ∃ q9 : OS, (f_X7_pass__5 s1) = q9 := ⟨_, rfl⟩
      have o_p1 : OV vw_TAPE Ps ws p1 sg_3 := by rw [← q_sg_3]; exact hfn.1
      obtain ⟨v_4, m_v_4, r_v_4⟩ := (hp_v_2.1)
      refine lv_aload_n hx hb dX5_readOne_69 rfl (lv_at hl 0 rfl) ?_
      refine lv_dup hx hb dX5_readOne_70 rfl ?_
      refine tg_get (ci := 5) (ts := ty_SENT) (C := RX5) (T := TX5) (N := 5) hx hb hts inX5 hown hK hw h_p0 rfl rfl 4 (by decide) (hts _ tw_955) (fun _ h9 => h9) (ft := vI (-2147483648) 2147483647) rfl dX5_readOne_71 (fun u_5 hv_u_5 m_u_5 => ?_)
      obtain ⟨vu_5, rfl, r_vu_5⟩ := hv_u_5
      have q_vu_5 : s0.1 4 = vu_5 := OV.eqI (V := vw_SENT) hw.2.2.1 o_p0 m_u_5 (by decide)
      refine lv_iconst (v := 1) hx hb dX5_readOne_74 (by decide) ?_
      refine lv_iadd hx hb dX5_readOne_75 (lv_topi (fun v_6 e_v_6 => ?_))
      have r_v_6 := ri_any v_6
      have q_v_6 : vu_5 + (1 : Int32) = v_6 := e_v_6.symm
      refine tg_put (ci := 5) (ts := ty_SENT) (v := .int v_6) (ty := .int) (C := RX5) (T := TX5) (N := 5) hx hb hts inX5 tyX5 tyX5_ok nmX5 hown hK hw h_p0 rfl rfl 4 (by decide) (hts _ tw_955) (fun _ h9 => h9) rfl (by decide +kernel) rfl rfl (ft := vI (-2147483648) 2147483647) rfl ⟨_, rfl, r_v_6⟩ (by decide) dX5_readOne_76 (fun ws H locs hw n_k_7 hF9 => ?_)
      have m_v_4 := FLD.over hF9 m_v_4 (by decide)
      have o_p1 := OV.over (V := vw_TAPE) hF9 o_p1 (by decide)
      have o_p2 := OV.over (V := vw_POST) hF9 o_p2 (by decide)
      obtain ⟨sg_8, q_sg_8⟩ : ∃ q9 : OS, sI s0 4 v_6 = q9 := ⟨_, rfl⟩
      have o_p0 : OV vw_SENT Ps ws p0 sg_8 := by rw [← q_sg_8]; exact OV.putI (V := vw_SENT) hF9 n_k_7 o_p0 (by decide)
      refine lv_iload hx hb dX5_readOne_79 (lv_at hl 4 rfl) ?_
      refine lv_sipush (v := 146) hx hb dX5_readOne_81 (by decide) ?_
      refine lv_icmp_ne (tgt := 108) hx hb dX5_readOne_84 (by decide) (fun c_84 => ?_) (fun c_84 => ?_)
      · refine lv_iload hx hb dX5_readOne_108 (lv_at hl 4 rfl) ?_
        refine lv_bipush (v := 40) hx hb dX5_readOne_110 (by decide) ?_
        refine lv_icmp_ne (tgt := 133) hx hb dX5_readOne_112 (by decide) (fun c_112 => ?_) (fun c_112 => ?_)
        · refine lv_aload_n hx hb dX5_readOne_133 rfl (lv_at hl 0 rfl) ?_
          refine lv_aload_n hx hb dX5_readOne_134 rfl (lv_at hl 1 rfl) ?_
          refine lv_aload_n hx hb dX5_readOne_135 rfl (lv_at hl 2 rfl) ?_
          refine lv_iload hx hb dX5_readOne_136 (lv_at hl 4 rfl) ?_
          refine tk_v (va_runV (As := [.ref p1, .ref p2, .int x4]) (rest := []) ⟨hx, hb, hml, hown, hts⟩ (c_X5_readPlain__1 l D cy z H.size Ps ws hw.1 p0 p1 p2 x4 sg_8 sg_3 s2 h_p0 h_p1 h_p2 r_x4 o_p0 o_p1 o_p2) (cwV 3 hts (gV tw_988 tw_990 ts_34 tw_23 tw_991) rfl rfl rfl (by decide +kernel) ⟨Nat.le_of_ble_eq_true rfl, Nat.le_of_ble_eq_true rfl⟩) (tg_preV hw hK hSD hA (ci := 5) (q := (RX5, TX5, 5)) rfl h_p0 rfl) rfl rfl hl.1 rfl (lv_room (Nat.le_of_ble_eq_true rfl)) dX5_readOne_138 ⟨Nat.le_of_ble_eq_true rfl, Nat.le_of_ble_eq_true rfl⟩) hw hA ⟨by decide, by decide⟩ (fun ws H locs hp_v_9 hw hF9 => ?_)
          have n_k_7 := FLD.over hF9 n_k_7 (by decide)
          obtain ⟨hfn, hp_v_9⟩ := hp_v_9
          obtain ⟨sg_10, q_sg_10⟩ : ∃ q9 : OS, (f_X5_readPlain__1 x4 sg_8 sg_3 s2).1 = q9 := ⟨_, rfl⟩
          have o_p0 : OV vw_SENT Ps ws p0 sg_10 := by rw [← q_sg_10]; exact hfn.1
          obtain ⟨sg_11, q_sg_11⟩ : ∃ q9 : OS, (f_X5_readPlain__1 x4 sg_8 sg_3 s2).2.1 = q9 := ⟨_, rfl⟩
          have o_p1 : OV vw_TAPE Ps ws p1 sg_11 := by rw [← q_sg_11]; exact hfn.2.1
          obtain ⟨sg_12, q_sg_12⟩ : ∃ q9 : OS, (f_X5_readPlain__1 x4 sg_8 sg_3 s2).2.2 = q9 := ⟨_, rfl⟩
          have o_p2 : OV vw_POST Ps ws p2 sg_12 := by rw [← q_sg_12]; exact hfn.2.2.1
          obtain ⟨v_13, m_v_13, r_v_13⟩ := (hp_v_9.1)
          simp only [f_X5_readOne__9_57, ↓reduceIte, q_vu_1, eq_true c_61, q_sg_3, q_vu_5, q_v_6, q_sg_8, eq_false c_84, eq_false c_112, q_sg_10, q_sg_11, q_sg_12] at hE
          subst hQ
          exact W.vret hx hb hr (fun t ht hW => ⟨⟨ws, rfl, ⟨⟨⟨(by rw [hR, ← hE]; exact o_p0), (by rw [hR, ← hE]; exact o_p1), (by rw [hR, ← hE]; exact o_p2), trivial⟩, trivial⟩, hw.1, hw.2.2.2.2.1⟩, by rw [ht]; exact hw.2.1, va_K.moved hW.alike hK, hw.2.2.1⟩, hw.2.2.2.1.F ht⟩) hw.2.2.2.1.2.2 dX5_readOne_141
        · have r_x4 : RI x4 40 40 := rc_eq1 r_x4 rl_40 (ti_eq c_112) (by decide)
          refine lv_aload_n hx hb dX5_readOne_115 rfl (lv_at hl 0 rfl) ?_
          refine lv_aload_n hx hb dX5_readOne_116 rfl (lv_at hl 1 rfl) ?_
          refine lv_aload_n hx hb dX5_readOne_117 rfl (lv_at hl 2 rfl) ?_
          refine lv_iload_n hx hb dX5_readOne_118 rfl (lv_at hl 3 rfl) ?_
          refine lv_iconst (v := 1) hx hb dX5_readOne_119 (by decide) ?_
          refine lv_iadd hx hb dX5_readOne_120 (lv_topi (fun v_14 e_v_14 => ?_))
          obtain ⟨t_v_14, r_v_14⟩ := tq_add (lo := 2) (hi := 2) r_p3 rl_1 (by decide +kernel) e_v_14
          have t_v_14 : v_14.toInt = p3.toInt + 1 := t_v_14
          have q_v_14 : p3 + (1 : Int32) = v_14 := e_v_14.symm
          refine tk_v (va_runV (As := [.ref p1, .ref p2, .int v_14]) (rest := []) ⟨hx, hb, hml, hown, hts⟩ (c_X5_readCond__10 l D cy z H.size Ps ws hw.1 p0 p1 p2 v_14 sg_8 sg_3 s2 h_p0 h_p1 h_p2 r_v_14 o_p0 o_p1 o_p2) (cwV 3 hts (gV tw_973 tw_975 ts_31 tw_23 tw_976) rfl rfl rfl (by decide +kernel) ⟨Nat.le_of_ble_eq_true rfl, Nat.le_of_ble_eq_true rfl⟩) (tg_preV hw hK hSD hA (ci := 5) (q := (RX5, TX5, 5)) rfl h_p0 rfl) rfl rfl hl.1 rfl (lv_room (Nat.le_of_ble_eq_true rfl)) dX5_readOne_121 ⟨Nat.le_of_ble_eq_true rfl, Nat.le_of_ble_eq_true rfl⟩) hw hA ⟨by decide, by decide⟩ (fun ws H locs hp_v_15 hw hF9 => ?_)
          obtain ⟨hfn, hp_v_15⟩ := hp_v_15
          obtain ⟨sg_16, q_sg_16⟩ : ∃ q9 : OS, (f_X5_readCond__10 v_14 sg_8 sg_3 s2).1 = q9 := ⟨_, rfl⟩
          have o_p0 : OV vw_SENT Ps ws p0 sg_16 := by rw [← q_sg_16]; exact hfn.1
          obtain ⟨sg_17, q_sg_17⟩ : ∃ q9 : OS, (f_X5_readCond__10 v_14 sg_8 sg_3 s2).2.1 = q9 := ⟨_, rfl⟩
          have o_p1 : OV vw_TAPE Ps ws p1 sg_17 := by rw [← q_sg_17]; exact hfn.2.1
          obtain ⟨sg_18, q_sg_18⟩ : ∃ q9 : OS, (f_X5_readCond__10 v_14 sg_8 sg_3 s2).2.2 = q9 := ⟨_, rfl⟩
          have o_p2 : OV vw_POST Ps ws p2 sg_18 := by rw [← q_sg_18]; exact hfn.2.2.1
          refine lv_aload_n hx hb dX5_readOne_124 rfl (lv_at hl 1 rfl) ?_
          refine lv_bipush (v := 41) hx hb dX5_readOne_125 (by decide) ?_
          refine tk_v (va_runV (As := [.int 41]) (rest := []) ⟨hx, hb, hml, hown, hts⟩ (c_X7_passOnly__3 l D cy z H.size Ps ws hw.1 p1 41 sg_17 h_p1 (rl_41.to (by decide)) o_p1) (cwV 1 hts (gV tw_987 tw_514 tw_515 tw_2 tw_516) rfl rfl rfl (by decide +kernel) ⟨Nat.le_of_ble_eq_true rfl, Nat.le_of_ble_eq_true rfl⟩) (tg_preV hw hK hSD hA (ci := 7) (q := (RX7, TX7, 12)) rfl h_p1 rfl) rfl rfl hl.1 rfl (lv_room (Nat.le_of_ble_eq_true rfl)) dX5_readOne_127 ⟨Nat.le_of_ble_eq_true rfl, Nat.le_of_ble_eq_true rfl⟩) hw hA ⟨by decide, by decide⟩ (fun ws H locs hp_v_19 hw hF9 => ?_)
          obtain ⟨hfn, hp_v_19⟩ := hp_v_19
          have o_p0 := OV.over (V := vw_SENT) hF9 o_p0 (by decide)
          have o_p2 := OV.over (V := vw_POST) hF9 o_p2 (by decide)
          obtain ⟨sg_20, q_sg_20⟩ : ∃ q9 : OS, (f_X7_passOnly__3 (41 : Int32) sg_17) = q9 := ⟨_, rfl⟩
          have o_p1 : OV vw_TAPE Ps ws p1 sg_20 := by rw [← q_sg_20]; exact hfn.1
          refine lv_goto (tgt := 141) hx hb dX5_readOne_130 (by decide) ?_
          simp only [f_X5_readOne__9_57, ↓reduceIte, q_vu_1, eq_true c_61, q_sg_3, q_vu_5, q_v_6, q_sg_8, eq_false c_84, eq_true c_112, q_v_14, q_sg_16, q_sg_17, q_sg_18, q_sg_20] at hE
          subst hQ
          exact W.vret hx hb hr (fun t ht hW => ⟨⟨ws, rfl, ⟨⟨⟨(by rw [hR, ← hE]; exact o_p0), (by rw [hR, ← hE]; exact o_p1), (by rw [hR, ← hE]; exact o_p2), trivial⟩, trivial⟩, hw.1, hw.2.2.2.2.1⟩, by rw [ht]; exact hw.2.1, va_K.moved hW.alike hK, hw.2.2.1⟩, hw.2.2.2.1.F ht⟩) hw.2.2.2.1.2.2 dX5_readOne_141
      · have r_x4 : RI x4 146 146 := rc_eq1 r_x4 rl_146 (ti_eq c_84) (by decide)
        refine lv_aload_n hx hb dX5_readOne_87 rfl (lv_at hl 0 rfl) ?_
        refine lv_aload_n hx hb dX5_readOne_88 rfl (lv_at hl 1 rfl) ?_
        refine lv_aload_n hx hb dX5_readOne_89 rfl (lv_at hl 2 rfl) ?_
        refine lv_iload_n hx hb dX5_readOne_90 rfl (lv_at hl 3 rfl) ?_
        refine lv_iconst (v := 1) hx hb dX5_readOne_91 (by decide) ?_
        refine lv_iadd hx hb dX5_readOne_92 (lv_topi (fun v_21 e_v_21 => ?_))
        obtain ⟨t_v_21, r_v_21⟩ := tq_add (lo := 2) (hi := 2) r_p3 rl_1 (by decide +kernel) e_v_21
        have t_v_21 : v_21.toInt = p3.toInt + 1 := t_v_21
        have q_v_21 : p3 + (1 : Int32) = v_21 := e_v_21.symm
        refine tk_v (va_runV (As := [.ref p1, .ref p2, .int v_21]) (rest := []) ⟨hx, hb, hml, hown, hts⟩ (c_X5_readOne__10 l D cy z H.size Ps ws hw.1 p0 p1 p2 v_21 sg_8 sg_3 s2 h_p0 h_p1 h_p2 r_v_21 o_p0 o_p1 o_p2) (cwV 3 hts (gV tw_977 tw_979 ts_32 tw_23 tw_980) rfl rfl rfl (by decide +kernel) ⟨Nat.le_of_ble_eq_true rfl, Nat.le_of_ble_eq_true rfl⟩) (tg_preV hw hK hSD hA (ci := 5) (q := (RX5, TX5, 5)) rfl h_p0 rfl) rfl rfl hl.1 rfl (lv_room (Nat.le_of_ble_eq_true rfl)) dX5_readOne_93 ⟨Nat.le_of_ble_eq_true rfl, Nat.le_of_ble_eq_true rfl⟩) hw hA ⟨by decide, by decide⟩ (fun ws H locs hp_v_22 hw hF9 => ?_)
        obtain ⟨hfn, hp_v_22⟩ := hp_v_22
        obtain ⟨sg_23, q_sg_23⟩ : ∃ q9 : OS, (f_X5_readOne__10 v_21 sg_8 sg_3 s2).1 = q9 := ⟨_, rfl⟩
        have o_p0 : OV vw_SENT Ps ws p0 sg_23 := by rw [← q_sg_23]; exact hfn.1
        obtain ⟨sg_24, q_sg_24⟩ : ∃ q9 : OS, (f_X5_readOne__10 v_21 sg_8 sg_3 s2).2.1 = q9 := ⟨_, rfl⟩
        have o_p1 : OV vw_TAPE Ps ws p1 sg_24 := by rw [← q_sg_24]; exact hfn.2.1
        obtain ⟨sg_25, q_sg_25⟩ : ∃ q9 : OS, (f_X5_readOne__10 v_21 sg_8 sg_3 s2).2.2 = q9 := ⟨_, rfl⟩
        have o_p2 : OV vw_POST Ps ws p2 sg_25 := by rw [← q_sg_25]; exact hfn.2.2.1
        refine lv_aload_n hx hb dX5_readOne_96 rfl (lv_at hl 0 rfl) ?_
        refine lv_sipush (v := 146) hx hb dX5_readOne_97 (by decide) ?_
        refine lv_iconst (v := 0) hx hb dX5_readOne_100 (by decide) ?_
        refine lv_iconst (v := 0) hx hb dX5_readOne_101 (by decide) ?_
        refine tk_v (va_runV (As := [.int 146, .int 0, .int 0]) (rest := []) ⟨hx, hb, hml, hown, hts⟩ (c_X5_addStep__1 l D cy z H.size Ps ws hw.1 p0 146 0 0 sg_23 h_p0 (rl_146.to (by decide)) (rl_0.to (by decide)) (rl_0.to (by decide)) o_p0) (cwV 3 hts (gV tw_983 tw_985 ts_33 tw_23 tw_986) rfl rfl rfl (by decide +kernel) ⟨Nat.le_of_ble_eq_true rfl, Nat.le_of_ble_eq_true rfl⟩) (tg_preV hw hK hSD hA (ci := 5) (q := (RX5, TX5, 5)) rfl h_p0 rfl) rfl rfl hl.1 rfl (lv_room (Nat.le_of_ble_eq_true rfl)) dX5_readOne_102 ⟨Nat.le_of_ble_eq_true rfl, Nat.le_of_ble_eq_true rfl⟩) hw hA ⟨by decide, by decide⟩ (fun ws H locs hp_v_26 hw hF9 => ?_)
        obtain ⟨hfn, hp_v_26⟩ := hp_v_26
        have o_p1 := OV.over (V := vw_TAPE) hF9 o_p1 (by decide)
        have o_p2 := OV.over (V := vw_POST) hF9 o_p2 (by decide)
        obtain ⟨sg_27, q_sg_27⟩ : ∃ q9 : OS, (f_X5_addStep__1 (146 : Int32) (0 : Int32) (0 : Int32) sg_23) = q9 := ⟨_, rfl⟩
        have o_p0 : OV vw_SENT Ps ws p0 sg_27 := by rw [← q_sg_27]; exact hfn.1
        obtain ⟨v_28, m_v_28, r_v_28⟩ := (hp_v_26.1)
        refine lv_goto (tgt := 141) hx hb dX5_readOne_105 (by decide) ?_
        simp only [f_X5_readOne__9_57, ↓reduceIte, q_vu_1, eq_true c_61, q_sg_3, q_vu_5, q_v_6, q_sg_8, eq_true c_84, q_v_21, q_sg_23, q_sg_24, q_sg_25, q_sg_27] at hE
        subst hQ
        exact W.vret hx hb hr (fun t ht hW => ⟨⟨ws, rfl, ⟨⟨⟨(by rw [hR, ← hE]; exact o_p0), (by rw [hR, ← hE]; exact o_p1), (by rw [hR, ← hE]; exact o_p2), trivial⟩, trivial⟩, hw.1, hw.2.2.2.2.1⟩, by rw [ht]; exact hw.2.1, va_K.moved hW.alike hK, hw.2.2.1⟩, hw.2.2.2.1.F ht⟩) hw.2.2.2.1.2.2 dX5_readOne_141
    · have r_vu_1 : RI vu_1 1 4 := rc_neL r_vu_1 rl_0 (ti_ne c_61) (by decide)
      simp only [f_X5_readOne__9_57, ↓reduceIte, q_vu_1, eq_false c_61] at hE
      subst hQ
      exact W.vret hx hb hr (fun t ht hW => ⟨⟨ws, rfl, ⟨⟨⟨(by rw [hR, ← hE]; exact o_p0), (by rw [hR, ← hE]; exact o_p1), (by rw [hR, ← hE]; exact o_p2), trivial⟩, trivial⟩, hw.1, hw.2.2.2.2.1⟩, by rw [ht]; exact hw.2.1, va_K.moved hW.alike hK, hw.2.2.1⟩, hw.2.2.2.1.F ht⟩) hw.2.2.2.1.2.2 dX5_readOne_64
  have B52 : ∀ (x4 : Int32) (z0_4 : Int32) (z1_7 : Int32) (s0 : OS) (s1 : OS) (s2 : OS) (ws : va_W) (H : Heap) (locs : List Loc) (ls : Array Slot), RI p3 1 1 → RI x4 40 155 → RI z0_4 20 2147483647 → FLD ws p0 5 4 (.int z0_4) → RI z1_7 40 155 → FLD ws p1 7 7 (.int z1_7) → OV vw_SENT Ps ws p0 s0 → OV vw_TAPE Ps ws p1 s1 → OV vw_POST Ps ws p2 s2 → f_X5_readOne__9_52 p3 x4 s0 s1 s2 = R9 → WD D cy GG A s wr_X5_readOne__9 wa_X5_readOne__9 Ps w0 Ps ws H locs → lv_has ls 5 [(0, .ref p0), (1, .ref p1), (2, .ref p2), (3, .int p3), (4, .int x4)] → W p l e (headSpec (Cond.code yX5_readOne cX5_readOne 5 none :: gT) ({ frames := 19, cells := 0, slots := 0, locals := 3800 } : Room)).room s m ([.ref p0, .ref p1, .ref p2, .int p3] : List Value).toArray below meth c H locs 0 0 Q (F0 m 52 ls []) := by
    intro x4 z0_4 z1_7 s0 s1 s2 ws H locs ls r_p3 r_x4 r_z0_4 m_z0_4 r_z1_7 m_z1_7 o_p0 o_p1 o_p2 hE hw hl
    have q_z0_4 : s0.1 4 = z0_4 := OV.eqI (V := vw_SENT) hw.2.2.1 o_p0 m_z0_4 (by decide)
    have q_z1_7 : s1.1 7 = z1_7 := OV.eqI (V := vw_TAPE) hw.2.2.1 o_p1 m_z1_7 (by decide)
    refine lv_aload_n hx hb dX5_readOne_52 rfl (lv_at hl 1 rfl) ?_
    refine lv_iconst (v := 4) hx hb dX5_readOne_53 (by decide) ?_
    refine tk_v (va_runV (As := [.int 4]) (rest := []) ⟨hx, hb, hml, hown, hts⟩ (c_X7_refuse__4 l D cy z H.size Ps ws hw.1 p1 4 s1 h_p1 (rl_4.to (by decide)) o_p1) (cwV 1 hts (gV tw_981 tw_443 tw_444 tw_2 tw_445) rfl rfl rfl (by decide +kernel) ⟨Nat.le_of_ble_eq_true rfl, Nat.le_of_ble_eq_true rfl⟩) (tg_preV hw hK hSD hA (ci := 7) (q := (RX7, TX7, 12)) rfl h_p1 rfl) rfl rfl hl.1 rfl (lv_room (Nat.le_of_ble_eq_true rfl)) dX5_readOne_54 ⟨Nat.le_of_ble_eq_true rfl, Nat.le_of_ble_eq_true rfl⟩) hw hA ⟨by decide, by decide⟩ (fun ws H locs hp_v_29 hw hF9 => ?_)
    have m_z0_4 := FLD.over hF9 m_z0_4 (by decide)
    have m_z1_7 := FLD.over hF9 m_z1_7 (by decide)
    obtain ⟨hfn, hp_v_29⟩ := hp_v_29
    have o_p0 := OV.over (V := vw_SENT) hF9 o_p0 (by decide)
    have o_p2 := OV.over (V := vw_POST) hF9 o_p2 (by decide)
    obtain ⟨sg_30, q_sg_30⟩ : ∃ q9 : OS, (f_X7_refuse__4 (4 : Int32) s1) = q9 := ⟨_, rfl⟩
    have o_p1 : OV vw_TAPE Ps ws p1 sg_30 := by rw [← q_sg_30]; exact hfn.1
    obtain ⟨v_31, m_v_31, r_v_31⟩ := (hp_v_29.1)
    simp only [f_X5_readOne__9_52, ↓reduceIte, q_z0_4, q_z1_7, q_sg_30] at hE
    exact B57 x4 s0 sg_30 s2 ws _ _ ls r_p3 (r_x4.to (by decide)) o_p0 o_p1 o_p2 hE hw hl
  have B37 : ∀ (x4 : Int32) (z1_7 : Int32) (s0 : OS) (s1 : OS) (s2 : OS) (ws : va_W) (H : Heap) (locs : List Loc) (ls : Array Slot), RI p3 1 1 → RI x4 40 155 → RI z1_7 40 155 → FLD ws p1 7 7 (.int z1_7) → OV vw_SENT Ps ws p0 s0 → OV vw_TAPE Ps ws p1 s1 → OV vw_POST Ps ws p2 s2 → f_X5_readOne__9_37 p3 x4 s0 s1 s2 = R9 → WD D cy GG A s wr_X5_readOne__9 wa_X5_readOne__9 Ps w0 Ps ws H locs → lv_has ls 5 [(0, .ref p0), (1, .ref p1), (2, .ref p2), (3, .int p3), (4, .int x4)] → W p l e (headSpec (Cond.code yX5_readOne cX5_readOne 5 none :: gT) ({ frames := 19, cells := 0, slots := 0, locals := 3800 } : Room)).room s m ([.ref p0, .ref p1, .ref p2, .int p3] : List Value).toArray below meth c H locs 0 0 Q (F0 m 37 ls []) := by
    intro x4 z1_7 s0 s1 s2 ws H locs ls r_p3 r_x4 r_z1_7 m_z1_7 o_p0 o_p1 o_p2 hE hw hl
    have q_z1_7 : s1.1 7 = z1_7 := OV.eqI (V := vw_TAPE) hw.2.2.1 o_p1 m_z1_7 (by decide)
    refine lv_aload_n hx hb dX5_readOne_37 rfl (lv_at hl 0 rfl) ?_
    refine tg_get (ci := 5) (ts := ty_SENT) (C := RX5) (T := TX5) (N := 5) hx hb hts inX5 hown hK hw h_p0 rfl rfl 4 (by decide) (hts _ tw_955) (fun _ h9 => h9) (ft := vI (-2147483648) 2147483647) rfl dX5_readOne_38 (fun u_32 hv_u_32 m_u_32 => ?_)
    obtain ⟨vu_32, rfl, r_vu_32⟩ := hv_u_32
    have q_vu_32 : s0.1 4 = vu_32 := OV.eqI (V := vw_SENT) hw.2.2.1 o_p0 m_u_32 (by decide)
    refine lv_bipush (v := 20) hx hb dX5_readOne_41 (by decide) ?_
    refine lv_icmp_ge (tgt := 52) hx hb dX5_readOne_43 (by decide) (fun c_43 => ?_) (fun c_43 => ?_)
    · have r_vu_32 : RI vu_32 20 2147483647 := rc_le2 rl_20 r_vu_32 (ti_le c_43) (by decide)
      simp only [f_X5_readOne__9_37, ↓reduceIte, q_z1_7, q_vu_32, eq_true c_43] at hE
      exact B52 x4 vu_32 z1_7 s0 s1 s2 ws _ _ ls r_p3 r_x4 r_vu_32 m_u_32 r_z1_7 m_z1_7 o_p0 o_p1 o_p2 hE hw hl
    · have r_vu_32 : RI vu_32 (-2147483648) 19 := rc_lt1 r_vu_32 rl_20 (ti_nle c_43) (by decide)
      refine lv_iload_n hx hb dX5_readOne_46 rfl (lv_at hl 3 rfl) ?_
      refine lv_bipush (v := 8) hx hb dX5_readOne_47 (by decide) ?_
      refine lv_icmp_le (tgt := 57) hx hb dX5_readOne_49 (by decide) (fun c_49 => ?_) (fun c_49 => ?_)
      · simp only [f_X5_readOne__9_37, ↓reduceIte, q_z1_7, q_vu_32, eq_false c_43, eq_true c_49] at hE
        exact B57 x4 s0 s1 s2 ws _ _ ls r_p3 (r_x4.to (by decide)) o_p0 o_p1 o_p2 hE hw hl
      · have r_p3 : RI p3 9 1 := rc_lt2 rl_8 r_p3 (ti_nle c_49) (by decide)
        exact (r_p3.no (by decide)).elim
  have B29 : ∀ (x4 : Int32) (s0 : OS) (s1 : OS) (s2 : OS) (ws : va_W) (H : Heap) (locs : List Loc) (ls : Array Slot), RI p3 1 1 → RI x4 (-2147483648) 2147483647 → OV vw_SENT Ps ws p0 s0 → OV vw_TAPE Ps ws p1 s1 → OV vw_POST Ps ws p2 s2 → f_X5_readOne__9_29 p3 x4 s0 s1 s2 = R9 → WD D cy GG A s wr_X5_readOne__9 wa_X5_readOne__9 Ps w0 Ps ws H locs → lv_has ls 5 [(0, .ref p0), (1, .ref p1), (2, .ref p2), (3, .int p3), (4, .int x4)] → W p l e (headSpec (Cond.code yX5_readOne cX5_readOne 5 none :: gT) ({ frames := 19, cells := 0, slots := 0, locals := 3800 } : Room)).room s m ([.ref p0, .ref p1, .ref p2, .int p3] : List Value).toArray below meth c H locs 0 0 Q (F0 m 29 ls []) := by
    intro x4 s0 s1 s2 ws H locs ls r_p3 r_x4 o_p0 o_p1 o_p2 hE hw hl
    refine lv_aload_n hx hb dX5_readOne_29 rfl (lv_at hl 1 rfl) ?_
    refine lv_iconst (v := 1) hx hb dX5_readOne_30 (by decide) ?_
    refine tk_v (va_runV (As := [.int 1]) (rest := []) ⟨hx, hb, hml, hown, hts⟩ (c_X7_refuse__4 l D cy z H.size Ps ws hw.1 p1 1 s1 h_p1 (rl_1.to (by decide)) o_p1) (cwV 1 hts (gV tw_981 tw_443 tw_444 tw_2 tw_445) rfl rfl rfl (by decide +kernel) ⟨Nat.le_of_ble_eq_true rfl, Nat.le_of_ble_eq_true rfl⟩) (tg_preV hw hK hSD hA (ci := 7) (q := (RX7, TX7, 12)) rfl h_p1 rfl) rfl rfl hl.1 rfl (lv_room (Nat.le_of_ble_eq_true rfl)) dX5_readOne_31 ⟨Nat.le_of_ble_eq_true rfl, Nat.le_of_ble_eq_true rfl⟩) hw hA ⟨by decide, by decide⟩ (fun ws H locs hp_v_33 hw hF9 => ?_)
    obtain ⟨hfn, hp_v_33⟩ := hp_v_33
    have o_p0 := OV.over (V := vw_SENT) hF9 o_p0 (by decide)
    have o_p2 := OV.over (V := vw_POST) hF9 o_p2 (by decide)
    obtain ⟨sg_34, q_sg_34⟩ : ∃ q9 : OS, (f_X7_refuse__4 (1 : Int32) s1) = q9 := ⟨_, rfl⟩
    have o_p1 : OV vw_TAPE Ps ws p1 sg_34 := by rw [← q_sg_34]; exact hfn.1
    obtain ⟨v_35, m_v_35, r_v_35⟩ := (hp_v_33.1)
    refine lv_goto (tgt := 57) hx hb dX5_readOne_34 (by decide) ?_
    simp only [f_X5_readOne__9_29, ↓reduceIte, q_sg_34] at hE
    exact B57 x4 s0 sg_34 s2 ws _ _ ls r_p3 r_x4 o_p0 o_p1 o_p2 hE hw hl
  refine lv_aload_n hx hb dX5_readOne_0 rfl (lv_at hl 1 rfl) ?_
  refine tg_getN (ci := 7) (ts := ty_TAPE) (C := RX7) (T := TX7) (N := 12) hx hb hts inX7 hown hK hw h_p1 rfl rfl 7 (by decide) (hSD.nest tn_96) (fun _ h9 => h9) (ft := vI (-2147483648) 2147483647) rfl dX5_readOne_1 (fun u_36 hv_u_36 m_u_36 => ?_)
  obtain ⟨vu_36, rfl, r_vu_36⟩ := hv_u_36
  have q_vu_36 : s1.1 7 = vu_36 := OV.eqI (V := vw_TAPE) hw.2.2.1 o_p1 m_u_36 (by decide)
  refine lv_istore (lv' := [(4, .int vu_36), (0, .ref p0), (1, .ref p1), (2, .ref p2), (3, .int p3)]) hx hb dX5_readOne_4 hl (by decide) rfl (fun ls hl => ?_)
  refine lv_iload hx hb dX5_readOne_6 (lv_at hl 0 rfl) ?_
  refine lv_bipush (v := 40) hx hb dX5_readOne_8 (by decide) ?_
  refine lv_icmp_eq (tgt := 37) hx hb dX5_readOne_10 (by decide) (fun c_10 => ?_) (fun c_10 => ?_)
  · have r_vu_36 : RI vu_36 40 40 := rc_eq1 r_vu_36 rl_40 (ti_eq c_10) (by decide)
    simp only [f_X5_readOne__9, ↓reduceIte, q_vu_36, eq_true c_10] at hE
    exact B37 vu_36 vu_36 s0 s1 s2 w0 _ _ ls r_p3 (r_vu_36.to (by decide)) (r_vu_36.to (by decide)) m_u_36 o_p0 o_p1 o_p2 hE hw (lv_sub hl [1, 2, 3, 4, 0] rfl)
  · refine lv_iload hx hb dX5_readOne_13 (lv_at hl 0 rfl) ?_
    refine lv_sipush (v := 146) hx hb dX5_readOne_15 (by decide) ?_
    refine lv_icmp_lt (tgt := 29) hx hb dX5_readOne_18 (by decide) (fun c_18 => ?_) (fun c_18 => ?_)
    · have r_vu_36 : RI vu_36 (-2147483648) 145 := rc_lt1 r_vu_36 rl_146 (ti_lt c_18) (by decide)
      simp only [f_X5_readOne__9, ↓reduceIte, q_vu_36, eq_false c_10, eq_true c_18] at hE
      exact B29 vu_36 s0 s1 s2 w0 _ _ ls r_p3 (r_vu_36.to (by decide)) o_p0 o_p1 o_p2 hE hw (lv_sub hl [1, 2, 3, 4, 0] rfl)
    · have r_vu_36 : RI vu_36 146 2147483647 := rc_le2 rl_146 r_vu_36 (ti_nlt c_18) (by decide)
      refine lv_iload hx hb dX5_readOne_21 (lv_at hl 0 rfl) ?_
      refine lv_sipush (v := 155) hx hb dX5_readOne_23 (by decide) ?_
      refine lv_icmp_le (tgt := 37) hx hb dX5_readOne_26 (by decide) (fun c_26 => ?_) (fun c_26 => ?_)
      · have r_vu_36 : RI vu_36 146 155 := rc_le1 r_vu_36 rl_155 (ti_le c_26) (by decide)
        simp only [f_X5_readOne__9, ↓reduceIte, q_vu_36, eq_false c_10, eq_false c_18, eq_true c_26] at hE
        exact B37 vu_36 vu_36 s0 s1 s2 w0 _ _ ls r_p3 (r_vu_36.to (by decide)) (r_vu_36.to (by decide)) m_u_36 o_p0 o_p1 o_p2 hE hw (lv_sub hl [1, 2, 3, 4, 0] rfl)
      · have r_vu_36 : RI vu_36 156 2147483647 := rc_lt2 rl_155 r_vu_36 (ti_nle c_26) (by decide)
        simp only [f_X5_readOne__9, ↓reduceIte, q_vu_36, eq_false c_10, eq_false c_18, eq_false c_26] at hE
        exact B29 vu_36 s0 s1 s2 w0 _ _ ls r_p3 (r_vu_36.to (by decide)) o_p0 o_p1 o_p2 hE hw (lv_sub hl [1, 2, 3, 4, 0] rfl)
abbrev wr_X5_readCond__9 : List (Nat × Nat) := [(5, 3), (5, 4), (7, 5), (7, 6), (7, 7), (7, 8), (7, 9), (7, 10), (7, 11)]
abbrev wa_X5_readCond__9 : List Nat := [21]
set_option maxHeartbeats 4000000 in
set_option maxRecDepth 100000 in
theorem c_X5_readCond__9 (l : Launch) (D : va_G) (cy : Nat → ClassId) (z : Nat → Nat) (sz : Nat) (Ps : PSI) (w0 : va_W) (hT : HT cy GG Ps w0) (p0 : Nat) (p1 : Nat) (p2 : Nat) (p3 : Int32) (s0 : OS) (s1 : OS) (s2 : OS) (h_p0 : (p0, 32) ∈ Ps) (h_p1 : (p1, 26) ∈ Ps) (h_p2 : (p2, 25) ∈ Ps) (r_p3 : RI p3 1 1) (o_p0 : OV vw_SENT Ps w0 p0 s0) (o_p1 : OV vw_TAPE Ps w0 p1 s1) (o_p2 : OV vw_POST Ps w0 p2 s2) : Met l yX5_readCond (Cond.code yX5_readCond cX5_readCond 7 none :: gT) ({ frames := 20, cells := 0, slots := 0, locals := 4000 } : Room) (va_Pc [.ref p0, .ref p1, .ref p2, .int p3] (PRE D cy z w0 sz)) (va_Qv (fun (u : va_W) => ((OV vw_SENT Ps u p0 ((f_X5_readCond__9 p3 s0 s1 s2).1) ∧ OV vw_TAPE Ps u p1 ((f_X5_readCond__9 p3 s0 s1 s2).2.1) ∧ OV vw_POST Ps u p2 ((f_X5_readCond__9 p3 s0 s1 s2).2.2) ∧ True) ∧ (True)) ∧ HT cy GG Ps u ∧ FR wr_X5_readCond__9 wa_X5_readCond__9 Ps w0 u) (BB D cy (va_A w0 sz) (fun (u : va_W) => u)) (va_A w0 sz)) 0 0 (va_A w0 sz) := by
  refine Met.ofW (cc := cX5_readCond) (maxL := 7) (ret := none) (by decide) rfl ?_
  intro p e s m args below meth c s₁ B hml hv
  obtain ⟨rfl, hsz, hP, hK, hD0, hSD⟩ := hv
  have hx := B.exec
  have hb := B.bytes
  have hr := B.returns
  have hlocks := B.notSynchronized
  have hts : ∀ w ∈ gT, w.before _ s = true := fun w h => atoms_spec (ws := Cond.code yX5_readCond cX5_readCond 7 none :: gT) B.pre w (List.mem_cons_of_mem _ h)
  have hown : s.vm.findClass RX5 = some m.cls := findClass_of_methodNamed B.named
  subst hsz
  have hD := hD0.self (sz := s.heap.size)
  generalize hAe : va_A w0 s.heap.size = A at hD hSD ⊢
  have hA : ∀ q : Nat, s.heap.size ≤ q → A q := fun q h => by rw [← hAe]; exact Or.inr h
  have hl := lv_entry ([.ref p0, .ref p1, .ref p2, .int p3]) (n := 7) (Nat.le_of_ble_eq_true rfl)
  rw [lg_entry_eq]
  generalize (lg_sl ([.ref p0, .ref p1, .ref p2, .int p3]) ++ List.replicate (7 - (lg_sl ([.ref p0, .ref p1, .ref p2, .int p3])).length) Slot.unset).toArray = ls at hl ⊢
  have hl : lv_has ls 7 [(0, .ref p0), (1, .ref p1), (2, .ref p2), (3, .int p3)] := hl
  refine nameQ (fun Q hQ => ?_)
  have hw : WD D cy GG A s wr_X5_readCond__9 wa_X5_readCond__9 Ps w0 Ps w0 s.heap [] := ⟨hT, hP, hD, va_S.rf, FR.rf, hT.1, [], (List.append_nil _).symm⟩
  obtain ⟨R9, hR⟩ : ∃ q9 : OS × OS × OS, f_X5_readCond__9 p3 s0 s1 s2 = q9 := ⟨_, rfl⟩
  have hE := hR
  have B106 : ∀ (x4 : Int32) (x5 : Int32) (s0 : OS) (s1 : OS) (s2 : OS) (ws : va_W) (H : Heap) (locs : List Loc) (ls : Array Slot), RI p3 1 1 → RI x4 (-2147483648) 2147483647 → RI x5 0 21 → OV vw_SENT Ps ws p0 s0 → OV vw_TAPE Ps ws p1 s1 → OV vw_POST Ps ws p2 s2 → f_X5_readCond__9_106 p3 x4 x5 s0 s1 s2 = R9 → WD D cy GG A s wr_X5_readCond__9 wa_X5_readCond__9 Ps w0 Ps ws H locs → lv_has ls 7 [(0, .ref p0), (1, .ref p1), (2, .ref p2), (3, .int p3), (4, .int x4), (5, .int x5)] → W p l e (headSpec (Cond.code yX5_readCond cX5_readCond 7 none :: gT) ({ frames := 20, cells := 0, slots := 0, locals := 4000 } : Room)).room s m ([.ref p0, .ref p1, .ref p2, .int p3] : List Value).toArray below meth c H locs 0 0 Q (F0 m 106 ls []) := by
    intro x4 x5 s0 s1 s2 ws H locs ls r_p3 r_x4 r_x5 o_p0 o_p1 o_p2 hE hw hl
    refine lv_iload hx hb dX5_readCond_106 (lv_at hl 4 rfl) ?_
    refine lv_if_eq (tgt := 120) hx hb dX5_readCond_108 (by decide) (fun c_108 => ?_) (fun c_108 => ?_)
    · have r_x4 : RI x4 0 0 := rc_eq1 r_x4 rl_0 (ti_eq c_108) (by decide)
      simp only [f_X5_readCond__9_106, ↓reduceIte, eq_true c_108] at hE
      subst hQ
      exact W.vret hx hb hr (fun t ht hW => ⟨⟨ws, rfl, ⟨⟨⟨(by rw [hR, ← hE]; exact o_p0), (by rw [hR, ← hE]; exact o_p1), (by rw [hR, ← hE]; exact o_p2), trivial⟩, trivial⟩, hw.1, hw.2.2.2.2.1⟩, by rw [ht]; exact hw.2.1, va_K.moved hW.alike hK, hw.2.2.1⟩, hw.2.2.2.1.F ht⟩) hw.2.2.2.1.2.2 dX5_readCond_120
    · refine lv_aload_n hx hb dX5_readCond_111 rfl (lv_at hl 0 rfl) ?_
      refine lv_sipush (v := 144) hx hb dX5_readCond_112 (by decide) ?_
      refine lv_iconst (v := 0) hx hb dX5_readCond_115 (by decide) ?_
      refine lv_iconst (v := 0) hx hb dX5_readCond_116 (by decide) ?_
      refine tk_v (va_runV (As := [.int 144, .int 0, .int 0]) (rest := []) ⟨hx, hb, hml, hown, hts⟩ (c_X5_addStep__1 l D cy z H.size Ps ws hw.1 p0 144 0 0 s0 h_p0 (rl_144.to (by decide)) (rl_0.to (by decide)) (rl_0.to (by decide)) o_p0) (cwV 3 hts (gV tw_983 tw_985 ts_33 tw_23 tw_986) rfl rfl rfl (by decide +kernel) ⟨Nat.le_of_ble_eq_true rfl, Nat.le_of_ble_eq_true rfl⟩) (tg_preV hw hK hSD hA (ci := 5) (q := (RX5, TX5, 5)) rfl h_p0 rfl) rfl rfl hl.1 rfl (lv_room (Nat.le_of_ble_eq_true rfl)) dX5_readCond_117 ⟨Nat.le_of_ble_eq_true rfl, Nat.le_of_ble_eq_true rfl⟩) hw hA ⟨by decide, by decide⟩ (fun ws H locs hp_v_1 hw hF9 => ?_)
      obtain ⟨hfn, hp_v_1⟩ := hp_v_1
      have o_p1 := OV.over (V := vw_TAPE) hF9 o_p1 (by decide)
      have o_p2 := OV.over (V := vw_POST) hF9 o_p2 (by decide)
      obtain ⟨sg_2, q_sg_2⟩ : ∃ q9 : OS, (f_X5_addStep__1 (144 : Int32) (0 : Int32) (0 : Int32) s0) = q9 := ⟨_, rfl⟩
      have o_p0 : OV vw_SENT Ps ws p0 sg_2 := by rw [← q_sg_2]; exact hfn.1
      obtain ⟨v_3, m_v_3, r_v_3⟩ := (hp_v_1.1)
      simp only [f_X5_readCond__9_106, ↓reduceIte, eq_false c_108, q_sg_2] at hE
      subst hQ
      exact W.vret hx hb hr (fun t ht hW => ⟨⟨ws, rfl, ⟨⟨⟨(by rw [hR, ← hE]; exact o_p0), (by rw [hR, ← hE]; exact o_p1), (by rw [hR, ← hE]; exact o_p2), trivial⟩, trivial⟩, hw.1, hw.2.2.2.2.1⟩, by rw [ht]; exact hw.2.1, va_K.moved hW.alike hK, hw.2.2.1⟩, hw.2.2.2.1.F ht⟩) hw.2.2.2.1.2.2 dX5_readCond_120
  have B13 : ∀ (nf : Nat) (x4 : Int32) (x5 : Int32) (s0 : OS) (s1 : OS) (s2 : OS) (ws : va_W) (H : Heap) (locs : List Loc) (ls : Array Slot), 20 - x5.toInt < (nf : Int) → RI p3 1 1 → RI x4 (-2147483648) 2147483647 → RI x5 0 20 → OV vw_SENT Ps ws p0 s0 → OV vw_TAPE Ps ws p1 s1 → OV vw_POST Ps ws p2 s2 → f_X5_readCond__9_13 p3 nf x4 x5 s0 s1 s2 = R9 → WD D cy GG A s wr_X5_readCond__9 wa_X5_readCond__9 Ps w0 Ps ws H locs → lv_has ls 7 [(0, .ref p0), (1, .ref p1), (2, .ref p2), (3, .int p3), (4, .int x4), (5, .int x5)] → W p l e (headSpec (Cond.code yX5_readCond cX5_readCond 7 none :: gT) ({ frames := 20, cells := 0, slots := 0, locals := 4000 } : Room)).room s m ([.ref p0, .ref p1, .ref p2, .int p3] : List Value).toArray below meth c H locs 0 0 Q (F0 m 13 ls []) := by
    intro nf13
    induction nf13 with
    | zero =>
      intro x4 x5 s0 s1 s2 ws H locs ls hn13 r_p3 r_x4 r_x5 o_p0 o_p1 o_p2 hE hw hl
      exact absurd hn13 (by have q0 := r_x5.1; have u0 := r_x5.2; omega)
    | succ nf13 ih13 =>
      have B72 : ∀ (x4 : Int32) (x5 : Int32) (x6 : Int32) (s0 : OS) (s1 : OS) (s2 : OS) (ws : va_W) (H : Heap) (locs : List Loc) (ls : Array Slot), RI p3 1 1 → RI x4 (-2147483648) 2147483647 → RI x5 0 19 → RI x6 0 1 → OV vw_SENT Ps ws p0 s0 → OV vw_TAPE Ps ws p1 s1 → OV vw_POST Ps ws p2 s2 → 20 - x5.toInt < ((nf13 + 1 : Nat) : Int) → f_X5_readCond__9_72 (f_X5_readCond__9_13 p3 nf13) p3 x4 x5 x6 s0 s1 s2 = R9 → WD D cy GG A s wr_X5_readCond__9 wa_X5_readCond__9 Ps w0 Ps ws H locs → lv_has ls 7 [(0, .ref p0), (1, .ref p1), (2, .ref p2), (3, .int p3), (4, .int x4), (5, .int x5), (6, .int x6)] → W p l e (headSpec (Cond.code yX5_readCond cX5_readCond 7 none :: gT) ({ frames := 20, cells := 0, slots := 0, locals := 4000 } : Room)).room s m ([.ref p0, .ref p1, .ref p2, .int p3] : List Value).toArray below meth c H locs 0 0 Q (F0 m 72 ls []) := by
        intro x4 x5 x6 s0 s1 s2 ws H locs ls r_p3 r_x4 r_x5 r_x6 o_p0 o_p1 o_p2 hn13 hE hw hl
        refine lv_iload hx hb dX5_readCond_72 (lv_at hl 4 rfl) ?_
        refine lv_iload hx hb dX5_readCond_74 (lv_at hl 6 rfl) ?_
        refine lv_ior hx hb dX5_readCond_76 (lv_topi (fun v_4 e_v_4 => ?_))
        have r_v_4 := ri_any v_4
        have q_v_4 : x4 ||| x6 = v_4 := e_v_4.symm
        refine lv_istore (lv' := [(4, .int v_4), (0, .ref p0), (1, .ref p1), (2, .ref p2), (3, .int p3), (5, .int x5), (6, .int x6)]) hx hb dX5_readCond_77 hl (by decide) rfl (fun ls hl => ?_)
        refine lv_aload_n hx hb dX5_readCond_79 rfl (lv_at hl 1 rfl) ?_
        refine lv_aload_n hx hb dX5_readCond_80 rfl (lv_at hl 2 rfl) ?_
        refine lv_aload_n hx hb dX5_readCond_81 rfl (lv_at hl 3 rfl) ?_
        refine lv_iload_n hx hb dX5_readCond_82 rfl (lv_at hl 4 rfl) ?_
        refine tk_v (va_runV (As := [.ref p1, .ref p2, .int p3]) (rest := []) ⟨hx, hb, hml, hown, hts⟩ (c_X5_readOne__9 l D cy z H.size Ps ws hw.1 p0 p1 p2 p3 s0 s1 s2 h_p0 h_p1 h_p2 r_p3 o_p0 o_p1 o_p2) (cwV 3 hts (gV tw_977 tw_979 ts_32 tw_23 tw_980) rfl rfl rfl (by decide +kernel) ⟨Nat.le_of_ble_eq_true rfl, Nat.le_of_ble_eq_true rfl⟩) (tg_preV hw hK hSD hA (ci := 5) (q := (RX5, TX5, 5)) rfl h_p0 rfl) rfl rfl hl.1 rfl (lv_room (Nat.le_of_ble_eq_true rfl)) dX5_readCond_83 ⟨Nat.le_of_ble_eq_true rfl, Nat.le_of_ble_eq_true rfl⟩) hw hA ⟨by decide, by decide⟩ (fun ws H locs hp_v_5 hw hF9 => ?_)
        obtain ⟨hfn, hp_v_5⟩ := hp_v_5
        obtain ⟨sg_6, q_sg_6⟩ : ∃ q9 : OS, (f_X5_readOne__9 p3 s0 s1 s2).1 = q9 := ⟨_, rfl⟩
        have o_p0 : OV vw_SENT Ps ws p0 sg_6 := by rw [← q_sg_6]; exact hfn.1
        obtain ⟨sg_7, q_sg_7⟩ : ∃ q9 : OS, (f_X5_readOne__9 p3 s0 s1 s2).2.1 = q9 := ⟨_, rfl⟩
        have o_p1 : OV vw_TAPE Ps ws p1 sg_7 := by rw [← q_sg_7]; exact hfn.2.1
        obtain ⟨sg_8, q_sg_8⟩ : ∃ q9 : OS, (f_X5_readOne__9 p3 s0 s1 s2).2.2 = q9 := ⟨_, rfl⟩
        have o_p2 : OV vw_POST Ps ws p2 sg_8 := by rw [← q_sg_8]; exact hfn.2.2.1
        refine lv_iload hx hb dX5_readCond_86 (lv_at hl 6 rfl) ?_
        refine lv_if_ne (tgt := 100) hx hb dX5_readCond_88 (by decide) (fun c_88 => ?_) (fun c_88 => ?_)
        · have r_x6 : RI x6 1 1 := rc_neL r_x6 rl_0 (ti_ne c_88) (by decide)
          obtain ⟨v_9, e_v_9⟩ : ∃ q9 : Int32, q9 = x5 + Int32.ofInt 1 := ⟨_, rfl⟩
          obtain ⟨t_v_9, r_v_9⟩ := tq_add (lo := 1) (hi := 20) r_x5 (show RI (Int32.ofInt 1) 1 1 by unfold RI; decide +kernel) (by decide +kernel) e_v_9
          have t_v_9 : v_9.toInt = x5.toInt + 1 := t_v_9
          refine lv_iinc (v := v_9) (lv' := [(5, .int v_9), (4, .int v_4), (0, .ref p0), (1, .ref p1), (2, .ref p2), (3, .int p3), (6, .int x6)]) hx hb dX5_readCond_100 hl (k := 5) rfl e_v_9.symm (by decide) rfl (fun ls hl => ?_)
          have q_v_9 : x5 + (1 : Int32) = v_9 := by rw [e_v_9, show Int32.ofInt 1 = (1 : Int32) by decide]
          refine lv_goto (tgt := 13) hx hb dX5_readCond_103 (by decide) ?_
          simp only [f_X5_readCond__9_72, ↓reduceIte, q_v_4, q_sg_6, q_sg_7, q_sg_8, eq_false c_88, q_v_9] at hE
          exact ih13 v_4 v_9 sg_6 sg_7 sg_8 ws _ _ ls (by have q0 := r_v_9.1; have u0 := r_v_9.2; have o0 := r_x5.1; have p0 := r_x5.2; omega) r_p3 r_v_4 (r_v_9.to (by decide)) o_p0 o_p1 o_p2 hE hw (lv_sub hl [2, 3, 4, 5, 1, 0] rfl)
        · have r_x6 : RI x6 0 0 := rc_eq1 r_x6 rl_0 (ti_eq c_88) (by decide)
          refine lv_aload_n hx hb dX5_readCond_91 rfl (lv_at hl 1 rfl) ?_
          refine lv_sipush (v := 145) hx hb dX5_readCond_92 (by decide) ?_
          refine lv_iconst (v := 0) hx hb dX5_readCond_95 (by decide) ?_
          refine lv_iconst (v := 0) hx hb dX5_readCond_96 (by decide) ?_
          refine tk_v (va_runV (As := [.int 145, .int 0, .int 0]) (rest := []) ⟨hx, hb, hml, hown, hts⟩ (c_X5_addStep__1 l D cy z H.size Ps ws hw.1 p0 145 0 0 sg_6 h_p0 (rl_145.to (by decide)) (rl_0.to (by decide)) (rl_0.to (by decide)) o_p0) (cwV 3 hts (gV tw_983 tw_985 ts_33 tw_23 tw_986) rfl rfl rfl (by decide +kernel) ⟨Nat.le_of_ble_eq_true rfl, Nat.le_of_ble_eq_true rfl⟩) (tg_preV hw hK hSD hA (ci := 5) (q := (RX5, TX5, 5)) rfl h_p0 rfl) rfl rfl hl.1 rfl (lv_room (Nat.le_of_ble_eq_true rfl)) dX5_readCond_97 ⟨Nat.le_of_ble_eq_true rfl, Nat.le_of_ble_eq_true rfl⟩) hw hA ⟨by decide, by decide⟩ (fun ws H locs hp_v_10 hw hF9 => ?_)
          obtain ⟨hfn, hp_v_10⟩ := hp_v_10
          have o_p1 := OV.over (V := vw_TAPE) hF9 o_p1 (by decide)
          have o_p2 := OV.over (V := vw_POST) hF9 o_p2 (by decide)
          obtain ⟨sg_11, q_sg_11⟩ : ∃ q9 : OS, (f_X5_addStep__1 (145 : Int32) (0 : Int32) (0 : Int32) sg_6) = q9 := ⟨_, rfl⟩
          have o_p0 : OV vw_SENT Ps ws p0 sg_11 := by rw [← q_sg_11]; exact hfn.1
          obtain ⟨v_12, m_v_12, r_v_12⟩ := (hp_v_10.1)
          obtain ⟨v_13, e_v_13⟩ : ∃ q9 : Int32, q9 = x5 + Int32.ofInt 1 := ⟨_, rfl⟩
          obtain ⟨t_v_13, r_v_13⟩ := tq_add (lo := 1) (hi := 20) r_x5 (show RI (Int32.ofInt 1) 1 1 by unfold RI; decide +kernel) (by decide +kernel) e_v_13
          have t_v_13 : v_13.toInt = x5.toInt + 1 := t_v_13
          refine lv_iinc (v := v_13) (lv' := [(5, .int v_13), (4, .int v_4), (0, .ref p0), (1, .ref p1), (2, .ref p2), (3, .int p3), (6, .int x6)]) hx hb dX5_readCond_100 hl (k := 5) rfl e_v_13.symm (by decide) rfl (fun ls hl => ?_)
          have q_v_13 : x5 + (1 : Int32) = v_13 := by rw [e_v_13, show Int32.ofInt 1 = (1 : Int32) by decide]
          refine lv_goto (tgt := 13) hx hb dX5_readCond_103 (by decide) ?_
          simp only [f_X5_readCond__9_72, ↓reduceIte, q_v_4, q_sg_6, q_sg_7, q_sg_8, eq_true c_88, q_sg_11, q_v_13] at hE
          exact ih13 v_4 v_13 sg_11 sg_7 sg_8 ws _ _ ls (by have q0 := r_v_13.1; have u0 := r_v_13.2; have o0 := r_x5.1; have p0 := r_x5.2; omega) r_p3 r_v_4 (r_v_13.to (by decide)) o_p0 o_p1 o_p2 hE hw (lv_sub hl [2, 3, 4, 5, 1, 0] rfl)
      have B40 : ∀ (x4 : Int32) (x5 : Int32) (s0 : OS) (s1 : OS) (s2 : OS) (ws : va_W) (H : Heap) (locs : List Loc) (ls : Array Slot), RI p3 1 1 → RI x4 (-2147483648) 2147483647 → RI x5 0 19 → OV vw_SENT Ps ws p0 s0 → OV vw_TAPE Ps ws p1 s1 → OV vw_POST Ps ws p2 s2 → 20 - x5.toInt < ((nf13 + 1 : Nat) : Int) → f_X5_readCond__9_40 (f_X5_readCond__9_13 p3 nf13) p3 x4 x5 s0 s1 s2 = R9 → WD D cy GG A s wr_X5_readCond__9 wa_X5_readCond__9 Ps w0 Ps ws H locs → lv_has ls 7 [(0, .ref p0), (1, .ref p1), (2, .ref p2), (3, .int p3), (4, .int x4), (5, .int x5)] → W p l e (headSpec (Cond.code yX5_readCond cX5_readCond 7 none :: gT) ({ frames := 20, cells := 0, slots := 0, locals := 4000 } : Room)).room s m ([.ref p0, .ref p1, .ref p2, .int p3] : List Value).toArray below meth c H locs 0 0 Q (F0 m 40 ls []) := by
        intro x4 x5 s0 s1 s2 ws H locs ls r_p3 r_x4 r_x5 o_p0 o_p1 o_p2 hn13 hE hw hl
        refine lv_aload_n hx hb dX5_readCond_40 rfl (lv_at hl 1 rfl) ?_
        refine lv_sipush (v := 144) hx hb dX5_readCond_41 (by decide) ?_
        refine tk_ir (va_runV (As := [.int 144]) (rest := []) ⟨hx, hb, hml, hown, hts⟩ (c_X7_sees__1 l D cy z H.size Ps ws hw.1 p1 144 s1 h_p1 (rl_144.to (by decide)) o_p1) (cwV 1 hts (gV tw_994 tw_995 tw_996 tw_2 tw_997) rfl rfl rfl (by decide +kernel) ⟨Nat.le_of_ble_eq_true rfl, Nat.le_of_ble_eq_true rfl⟩) (tg_preV hw hK hSD hA (ci := 7) (q := (RX7, TX7, 12)) rfl h_p1 rfl) rfl rfl hl.1 rfl (lv_room (Nat.le_of_ble_eq_true rfl)) dX5_readCond_44 ⟨Nat.le_of_ble_eq_true rfl, Nat.le_of_ble_eq_true rfl⟩) hw hA (fun v_14  H locs hp_v_14 hw => ?_)
        obtain ⟨hfn, hp_v_14⟩ := hp_v_14
        have q_v_14 : (f_X7_sees__1 (144 : Int32) s1) = v_14 := hfn.1
        have r_v_14 : RI v_14 0 1 := hp_v_14.1
        refine lv_istore (lv' := [(6, .int v_14), (0, .ref p0), (1, .ref p1), (2, .ref p2), (3, .int p3), (4, .int x4), (5, .int x5)]) hx hb dX5_readCond_47 hl (by decide) rfl (fun ls hl => ?_)
        refine lv_aload_n hx hb dX5_readCond_49 rfl (lv_at hl 2 rfl) ?_
        refine tk_v (va_runV (As := []) (rest := []) ⟨hx, hb, hml, hown, hts⟩ (c_X7_pass__6 l D cy z H.size Ps ws hw.1 p1 s1 h_p1 o_p1) (cwV 0 hts (gV tw_982 tw_425 tw_426 tw_2 tw_427) rfl rfl rfl (by decide +kernel) ⟨Nat.le_of_ble_eq_true rfl, Nat.le_of_ble_eq_true rfl⟩) (tg_preV hw hK hSD hA (ci := 7) (q := (RX7, TX7, 12)) rfl h_p1 rfl) rfl rfl hl.1 rfl (lv_room (Nat.le_of_ble_eq_true rfl)) dX5_readCond_50 ⟨Nat.le_of_ble_eq_true rfl, Nat.le_of_ble_eq_true rfl⟩) hw hA ⟨by decide, by decide⟩ (fun ws H locs hp_v_15 hw hF9 => ?_)
        obtain ⟨hfn, hp_v_15⟩ := hp_v_15
        have o_p0 := OV.over (V := vw_SENT) hF9 o_p0 (by decide)
        have o_p2 := OV.over (V := vw_POST) hF9 o_p2 (by decide)
        obtain ⟨sg_16, q_sg_16⟩ : ∃ q9 : OS, (f_X7_pass__6 s1) = q9 := ⟨_, rfl⟩
        have o_p1 : OV vw_TAPE Ps ws p1 sg_16 := by rw [← q_sg_16]; exact hfn.1
        refine lv_iload hx hb dX5_readCond_53 (lv_at hl 0 rfl) ?_
        refine lv_if_eq (tgt := 72) hx hb dX5_readCond_55 (by decide) (fun c_55 => ?_) (fun c_55 => ?_)
        · have r_v_14 : RI v_14 0 0 := rc_eq1 r_v_14 rl_0 (ti_eq c_55) (by decide)
          simp only [f_X5_readCond__9_40, ↓reduceIte, q_v_14, q_sg_16, eq_true c_55] at hE
          exact B72 x4 x5 v_14 s0 sg_16 s2 ws _ _ ls r_p3 r_x4 r_x5 (r_v_14.to (by decide)) o_p0 o_p1 o_p2 (by have q0 := r_x5.1; have u0 := r_x5.2; omega) hE hw (lv_sub hl [1, 2, 3, 4, 5, 6, 0] rfl)
        · have r_v_14 : RI v_14 1 1 := rc_neL r_v_14 rl_0 (ti_ne c_55) (by decide)
          refine lv_iload hx hb dX5_readCond_58 (lv_at hl 5 rfl) ?_
          refine lv_if_eq (tgt := 72) hx hb dX5_readCond_60 (by decide) (fun c_60 => ?_) (fun c_60 => ?_)
          · have r_x4 : RI x4 0 0 := rc_eq1 r_x4 rl_0 (ti_eq c_60) (by decide)
            simp only [f_X5_readCond__9_40, ↓reduceIte, q_v_14, q_sg_16, eq_false c_55, eq_true c_60] at hE
            exact B72 x4 x5 v_14 s0 sg_16 s2 ws _ _ ls r_p3 (r_x4.to (by decide)) r_x5 (r_v_14.to (by decide)) o_p0 o_p1 o_p2 (by have q0 := r_x5.1; have u0 := r_x5.2; omega) hE hw (lv_sub hl [1, 2, 3, 4, 5, 6, 0] rfl)
          · refine lv_aload_n hx hb dX5_readCond_63 rfl (lv_at hl 1 rfl) ?_
            refine lv_sipush (v := 144) hx hb dX5_readCond_64 (by decide) ?_
            refine lv_iconst (v := 0) hx hb dX5_readCond_67 (by decide) ?_
            refine lv_iconst (v := 0) hx hb dX5_readCond_68 (by decide) ?_
            refine tk_v (va_runV (As := [.int 144, .int 0, .int 0]) (rest := []) ⟨hx, hb, hml, hown, hts⟩ (c_X5_addStep__1 l D cy z H.size Ps ws hw.1 p0 144 0 0 s0 h_p0 (rl_144.to (by decide)) (rl_0.to (by decide)) (rl_0.to (by decide)) o_p0) (cwV 3 hts (gV tw_983 tw_985 ts_33 tw_23 tw_986) rfl rfl rfl (by decide +kernel) ⟨Nat.le_of_ble_eq_true rfl, Nat.le_of_ble_eq_true rfl⟩) (tg_preV hw hK hSD hA (ci := 5) (q := (RX5, TX5, 5)) rfl h_p0 rfl) rfl rfl hl.1 rfl (lv_room (Nat.le_of_ble_eq_true rfl)) dX5_readCond_69 ⟨Nat.le_of_ble_eq_true rfl, Nat.le_of_ble_eq_true rfl⟩) hw hA ⟨by decide, by decide⟩ (fun ws H locs hp_v_17 hw hF9 => ?_)
            obtain ⟨hfn, hp_v_17⟩ := hp_v_17
            have o_p1 := OV.over (V := vw_TAPE) hF9 o_p1 (by decide)
            have o_p2 := OV.over (V := vw_POST) hF9 o_p2 (by decide)
            obtain ⟨sg_18, q_sg_18⟩ : ∃ q9 : OS, (f_X5_addStep__1 (144 : Int32) (0 : Int32) (0 : Int32) s0) = q9 := ⟨_, rfl⟩
            have o_p0 : OV vw_SENT Ps ws p0 sg_18 := by rw [← q_sg_18]; exact hfn.1
            obtain ⟨v_19, m_v_19, r_v_19⟩ := (hp_v_17.1)
            simp only [f_X5_readCond__9_40, ↓reduceIte, q_v_14, q_sg_16, eq_false c_55, eq_false c_60, q_sg_18] at hE
            exact B72 x4 x5 v_14 sg_18 sg_16 s2 ws _ _ ls r_p3 r_x4 r_x5 (r_v_14.to (by decide)) o_p0 o_p1 o_p2 (by have q0 := r_x5.1; have u0 := r_x5.2; omega) hE hw (lv_sub hl [1, 2, 3, 4, 5, 6, 0] rfl)
      intro x4 x5 s0 s1 s2 ws H locs ls hn13 r_p3 r_x4 r_x5 o_p0 o_p1 o_p2 hE hw hl
      refine lv_iload hx hb dX5_readCond_13 (lv_at hl 5 rfl) ?_
      refine lv_bipush (v := 20) hx hb dX5_readCond_15 (by decide) ?_
      refine lv_icmp_ge (tgt := 106) hx hb dX5_readCond_17 (by decide) (fun c_17 => ?_) (fun c_17 => ?_)
      · have r_x5 : RI x5 20 20 := rc_le2 rl_20 r_x5 (ti_le c_17) (by decide)
        simp only [f_X5_readCond__9_13, ↓reduceIte, eq_true c_17] at hE
        exact B106 x4 x5 s0 s1 s2 ws _ _ ls r_p3 r_x4 (r_x5.to (by decide)) o_p0 o_p1 o_p2 hE hw hl
      · have r_x5 : RI x5 0 19 := rc_lt1 r_x5 rl_20 (ti_nle c_17) (by decide)
        refine lv_aload_n hx hb dX5_readCond_20 rfl (lv_at hl 1 rfl) ?_
        refine lv_sipush (v := 144) hx hb dX5_readCond_21 (by decide) ?_
        refine tk_ir (va_runV (As := [.int 144]) (rest := []) ⟨hx, hb, hml, hown, hts⟩ (c_X7_sees__1 l D cy z H.size Ps ws hw.1 p1 144 s1 h_p1 (rl_144.to (by decide)) o_p1) (cwV 1 hts (gV tw_994 tw_995 tw_996 tw_2 tw_997) rfl rfl rfl (by decide +kernel) ⟨Nat.le_of_ble_eq_true rfl, Nat.le_of_ble_eq_true rfl⟩) (tg_preV hw hK hSD hA (ci := 7) (q := (RX7, TX7, 12)) rfl h_p1 rfl) rfl rfl hl.1 rfl (lv_room (Nat.le_of_ble_eq_true rfl)) dX5_readCond_24 ⟨Nat.le_of_ble_eq_true rfl, Nat.le_of_ble_eq_true rfl⟩) hw hA (fun v_20  H locs hp_v_20 hw => ?_)
        obtain ⟨hfn, hp_v_20⟩ := hp_v_20
        have q_v_20 : (f_X7_sees__1 (144 : Int32) s1) = v_20 := hfn.1
        have r_v_20 : RI v_20 0 1 := hp_v_20.1
        refine lv_if_ne (tgt := 40) hx hb dX5_readCond_27 (by decide) (fun c_27 => ?_) (fun c_27 => ?_)
        · have r_v_20 : RI v_20 1 1 := rc_neL r_v_20 rl_0 (ti_ne c_27) (by decide)
          simp only [f_X5_readCond__9_13, ↓reduceIte, eq_false c_17, q_v_20, eq_false c_27] at hE
          exact B40 x4 x5 s0 s1 s2 ws _ _ ls r_p3 r_x4 r_x5 o_p0 o_p1 o_p2 (by have q0 := r_x5.1; have u0 := r_x5.2; omega) hE hw hl
        · have r_v_20 : RI v_20 0 0 := rc_eq1 r_v_20 rl_0 (ti_eq c_27) (by decide)
          refine lv_aload_n hx hb dX5_readCond_30 rfl (lv_at hl 1 rfl) ?_
          refine lv_sipush (v := 145) hx hb dX5_readCond_31 (by decide) ?_
          refine tk_ir (va_runV (As := [.int 145]) (rest := []) ⟨hx, hb, hml, hown, hts⟩ (c_X7_sees__1 l D cy z H.size Ps ws hw.1 p1 145 s1 h_p1 (rl_145.to (by decide)) o_p1) (cwV 1 hts (gV tw_994 tw_995 tw_996 tw_2 tw_997) rfl rfl rfl (by decide +kernel) ⟨Nat.le_of_ble_eq_true rfl, Nat.le_of_ble_eq_true rfl⟩) (tg_preV hw hK hSD hA (ci := 7) (q := (RX7, TX7, 12)) rfl h_p1 rfl) rfl rfl hl.1 rfl (lv_room (Nat.le_of_ble_eq_true rfl)) dX5_readCond_34 ⟨Nat.le_of_ble_eq_true rfl, Nat.le_of_ble_eq_true rfl⟩) hw hA (fun v_21  H locs hp_v_21 hw => ?_)
          obtain ⟨hfn, hp_v_21⟩ := hp_v_21
          have q_v_21 : (f_X7_sees__1 (145 : Int32) s1) = v_21 := hfn.1
          have r_v_21 : RI v_21 0 1 := hp_v_21.1
          refine lv_if_eq (tgt := 106) hx hb dX5_readCond_37 (by decide) (fun c_37 => ?_) (fun c_37 => ?_)
          · have r_v_21 : RI v_21 0 0 := rc_eq1 r_v_21 rl_0 (ti_eq c_37) (by decide)
            simp only [f_X5_readCond__9_13, ↓reduceIte, eq_false c_17, q_v_20, eq_true c_27, q_v_21, eq_true c_37] at hE
            exact B106 x4 x5 s0 s1 s2 ws _ _ ls r_p3 r_x4 (r_x5.to (by decide)) o_p0 o_p1 o_p2 hE hw hl
          · have r_v_21 : RI v_21 1 1 := rc_neL r_v_21 rl_0 (ti_ne c_37) (by decide)
            simp only [f_X5_readCond__9_13, ↓reduceIte, eq_false c_17, q_v_20, eq_true c_27, q_v_21, eq_false c_37] at hE
            exact B40 x4 x5 s0 s1 s2 ws _ _ ls r_p3 r_x4 r_x5 o_p0 o_p1 o_p2 (by have q0 := r_x5.1; have u0 := r_x5.2; omega) hE hw hl
  refine lv_iconst (v := 0) hx hb dX5_readCond_0 (by decide) ?_
  refine lv_istore (lv' := [(4, .int 0), (0, .ref p0), (1, .ref p1), (2, .ref p2), (3, .int p3)]) hx hb dX5_readCond_1 hl (by decide) rfl (fun ls hl => ?_)
  refine lv_aload_n hx hb dX5_readCond_3 rfl (lv_at hl 1 rfl) ?_
  refine lv_aload_n hx hb dX5_readCond_4 rfl (lv_at hl 2 rfl) ?_
  refine lv_aload_n hx hb dX5_readCond_5 rfl (lv_at hl 3 rfl) ?_
  refine lv_iload_n hx hb dX5_readCond_6 rfl (lv_at hl 4 rfl) ?_
  refine tk_v (va_runV (As := [.ref p1, .ref p2, .int p3]) (rest := []) ⟨hx, hb, hml, hown, hts⟩ (c_X5_readOne__9 l D cy z s.heap.size Ps w0 hw.1 p0 p1 p2 p3 s0 s1 s2 h_p0 h_p1 h_p2 r_p3 o_p0 o_p1 o_p2) (cwV 3 hts (gV tw_977 tw_979 ts_32 tw_23 tw_980) rfl rfl rfl (by decide +kernel) ⟨Nat.le_of_ble_eq_true rfl, Nat.le_of_ble_eq_true rfl⟩) (tg_preV hw hK hSD hA (ci := 5) (q := (RX5, TX5, 5)) rfl h_p0 rfl) rfl rfl hl.1 rfl (lv_room (Nat.le_of_ble_eq_true rfl)) dX5_readCond_7 ⟨Nat.le_of_ble_eq_true rfl, Nat.le_of_ble_eq_true rfl⟩) hw hA ⟨by decide, by decide⟩ (fun ws H locs hp_v_22 hw hF9 => ?_)
  obtain ⟨hfn, hp_v_22⟩ := hp_v_22
  obtain ⟨sg_23, q_sg_23⟩ : ∃ q9 : OS, (f_X5_readOne__9 p3 s0 s1 s2).1 = q9 := ⟨_, rfl⟩
  have o_p0 : OV vw_SENT Ps ws p0 sg_23 := by rw [← q_sg_23]; exact hfn.1
  obtain ⟨sg_24, q_sg_24⟩ : ∃ q9 : OS, (f_X5_readOne__9 p3 s0 s1 s2).2.1 = q9 := ⟨_, rfl⟩
  have o_p1 : OV vw_TAPE Ps ws p1 sg_24 := by rw [← q_sg_24]; exact hfn.2.1
  obtain ⟨sg_25, q_sg_25⟩ : ∃ q9 : OS, (f_X5_readOne__9 p3 s0 s1 s2).2.2 = q9 := ⟨_, rfl⟩
  have o_p2 : OV vw_POST Ps ws p2 sg_25 := by rw [← q_sg_25]; exact hfn.2.2.1
  refine lv_iconst (v := 0) hx hb dX5_readCond_10 (by decide) ?_
  refine lv_istore (lv' := [(5, .int 0), (4, .int 0), (0, .ref p0), (1, .ref p1), (2, .ref p2), (3, .int p3)]) hx hb dX5_readCond_11 hl (by decide) rfl (fun ls hl => ?_)
  simp only [f_X5_readCond__9, ↓reduceIte, q_sg_23, q_sg_24, q_sg_25] at hE
  exact B13 4294967298 0 0 sg_23 sg_24 sg_25 ws _ _ ls (by have q0 := rl_0.1; have u0 := rl_0.2; omega) r_p3 (rl_0.to (by decide)) (rl_0.to (by decide)) o_p0 o_p1 o_p2 hE hw (lv_sub hl [2, 3, 4, 5, 1, 0] rfl)
abbrev wr_X5_read__1 : List (Nat × Nat) := [(5, 3), (5, 4), (7, 3), (7, 4), (7, 5), (7, 6), (7, 7), (7, 8), (7, 9), (7, 10), (7, 11)]
abbrev wa_X5_read__1 : List Nat := [21]
set_option maxHeartbeats 4000000 in
set_option maxRecDepth 100000 in
theorem c_X5_read__1 (l : Launch) (D : va_G) (cy : Nat → ClassId) (z : Nat → Nat) (sz : Nat) (Ps : PSI) (w0 : va_W) (hT : HT cy GG Ps w0) (p0 : Nat) (p1 : Nat) (p2 : Nat) (s0 : OS) (s1 : OS) (s2 : OS) (h_p0 : (p0, 32) ∈ Ps) (h_p1 : (p1, 26) ∈ Ps) (h_p2 : (p2, 25) ∈ Ps) (o_p0 : OV vw_SENT Ps w0 p0 s0) (o_p1 : OV vw_TAPE Ps w0 p1 s1) (o_p2 : OV vw_POST Ps w0 p2 s2) : Met l yX5_read (Cond.code yX5_read cX5_read 3 none :: gT) ({ frames := 21, cells := 0, slots := 0, locals := 4200 } : Room) (va_Pc [.ref p0, .ref p1, .ref p2] (PRE D cy z w0 sz)) (va_Qv (fun (u : va_W) => ((OV vw_SENT Ps u p0 ((f_X5_read__1 s0 s1 s2).1) ∧ OV vw_TAPE Ps u p1 ((f_X5_read__1 s0 s1 s2).2.1) ∧ OV vw_POST Ps u p2 ((f_X5_read__1 s0 s1 s2).2.2) ∧ True) ∧ (True)) ∧ HT cy GG Ps u ∧ FR wr_X5_read__1 wa_X5_read__1 Ps w0 u) (BB D cy (va_A w0 sz) (fun (u : va_W) => u)) (va_A w0 sz)) 0 0 (va_A w0 sz) := by
  refine Met.ofW (cc := cX5_read) (maxL := 3) (ret := none) (by decide) rfl ?_
  intro p e s m args below meth c s₁ B hml hv
  obtain ⟨rfl, hsz, hP, hK, hD0, hSD⟩ := hv
  have hx := B.exec
  have hb := B.bytes
  have hr := B.returns
  have hlocks := B.notSynchronized
  have hts : ∀ w ∈ gT, w.before _ s = true := fun w h => atoms_spec (ws := Cond.code yX5_read cX5_read 3 none :: gT) B.pre w (List.mem_cons_of_mem _ h)
  have hown : s.vm.findClass RX5 = some m.cls := findClass_of_methodNamed B.named
  subst hsz
  have hD := hD0.self (sz := s.heap.size)
  generalize hAe : va_A w0 s.heap.size = A at hD hSD ⊢
  have hA : ∀ q : Nat, s.heap.size ≤ q → A q := fun q h => by rw [← hAe]; exact Or.inr h
  have hl := lv_entry ([.ref p0, .ref p1, .ref p2]) (n := 3) (Nat.le_of_ble_eq_true rfl)
  rw [lg_entry_eq]
  generalize (lg_sl ([.ref p0, .ref p1, .ref p2]) ++ List.replicate (3 - (lg_sl ([.ref p0, .ref p1, .ref p2])).length) Slot.unset).toArray = ls at hl ⊢
  have hl : lv_has ls 3 [(0, .ref p0), (1, .ref p1), (2, .ref p2)] := hl
  refine nameQ (fun Q hQ => ?_)
  have hw : WD D cy GG A s wr_X5_read__1 wa_X5_read__1 Ps w0 Ps w0 s.heap [] := ⟨hT, hP, hD, va_S.rf, FR.rf, hT.1, [], (List.append_nil _).symm⟩
  obtain ⟨R9, hR⟩ : ∃ q9 : OS × OS × OS, f_X5_read__1 s0 s1 s2 = q9 := ⟨_, rfl⟩
  have hE := hR
  refine lv_aload_n hx hb dX5_read_0 rfl (lv_at hl 1 rfl) ?_
  refine lv_sipush (v := 200) hx hb dX5_read_1 (by decide) ?_
  refine tk_v (va_runV (As := [.int 200]) (rest := []) ⟨hx, hb, hml, hown, hts⟩ (c_X7_startText__4 l D cy z s.heap.size Ps w0 hw.1 p1 200 s1 h_p1 rl_200 o_p1) (cwV 1 hts (gV tw_972 tw_421 tw_422 tw_2 tw_423) rfl rfl rfl (by decide +kernel) ⟨Nat.le_of_ble_eq_true rfl, Nat.le_of_ble_eq_true rfl⟩) (tg_preV hw hK hSD hA (ci := 7) (q := (RX7, TX7, 12)) rfl h_p1 rfl) rfl rfl hl.1 rfl (lv_room (Nat.le_of_ble_eq_true rfl)) dX5_read_4 ⟨Nat.le_of_ble_eq_true rfl, Nat.le_of_ble_eq_true rfl⟩) hw hA ⟨by decide, by decide⟩ (fun ws H locs hp_v_1 hw hF9 => ?_)
  obtain ⟨hfn, hp_v_1⟩ := hp_v_1
  have o_p0 := OV.over (V := vw_SENT) hF9 o_p0 (by decide)
  have o_p2 := OV.over (V := vw_POST) hF9 o_p2 (by decide)
  obtain ⟨sg_2, q_sg_2⟩ : ∃ q9 : OS, (f_X7_startText__3 (200 : Int32) s1) = q9 := ⟨_, rfl⟩
  have o_p1 : OV vw_TAPE Ps ws p1 sg_2 := by rw [← q_sg_2]; exact hfn.1
  obtain ⟨v_3, m_v_3, r_v_3⟩ := (hp_v_1.1)
  refine lv_aload_n hx hb dX5_read_7 rfl (lv_at hl 0 rfl) ?_
  refine lv_aload_n hx hb dX5_read_8 rfl (lv_at hl 1 rfl) ?_
  refine lv_aload_n hx hb dX5_read_9 rfl (lv_at hl 2 rfl) ?_
  refine lv_iconst (v := 1) hx hb dX5_read_10 (by decide) ?_
  refine tk_v (va_runV (As := [.ref p1, .ref p2, .int 1]) (rest := []) ⟨hx, hb, hml, hown, hts⟩ (c_X5_readCond__9 l D cy z H.size Ps ws hw.1 p0 p1 p2 1 s0 sg_2 s2 h_p0 h_p1 h_p2 rl_1 o_p0 o_p1 o_p2) (cwV 3 hts (gV tw_973 tw_975 ts_31 tw_23 tw_976) rfl rfl rfl (by decide +kernel) ⟨Nat.le_of_ble_eq_true rfl, Nat.le_of_ble_eq_true rfl⟩) (tg_preV hw hK hSD hA (ci := 5) (q := (RX5, TX5, 5)) rfl h_p0 rfl) rfl rfl hl.1 rfl (lv_room (Nat.le_of_ble_eq_true rfl)) dX5_read_11 ⟨Nat.le_of_ble_eq_true rfl, Nat.le_of_ble_eq_true rfl⟩) hw hA ⟨by decide, by decide⟩ (fun ws H locs hp_v_4 hw hF9 => ?_)
  obtain ⟨hfn, hp_v_4⟩ := hp_v_4
  obtain ⟨sg_5, q_sg_5⟩ : ∃ q9 : OS, (f_X5_readCond__9 (1 : Int32) s0 sg_2 s2).1 = q9 := ⟨_, rfl⟩
  have o_p0 : OV vw_SENT Ps ws p0 sg_5 := by rw [← q_sg_5]; exact hfn.1
  obtain ⟨sg_6, q_sg_6⟩ : ∃ q9 : OS, (f_X5_readCond__9 (1 : Int32) s0 sg_2 s2).2.1 = q9 := ⟨_, rfl⟩
  have o_p1 : OV vw_TAPE Ps ws p1 sg_6 := by rw [← q_sg_6]; exact hfn.2.1
  obtain ⟨sg_7, q_sg_7⟩ : ∃ q9 : OS, (f_X5_readCond__9 (1 : Int32) s0 sg_2 s2).2.2 = q9 := ⟨_, rfl⟩
  have o_p2 : OV vw_POST Ps ws p2 sg_7 := by rw [← q_sg_7]; exact hfn.2.2.1
  refine lv_aload_n hx hb dX5_read_14 rfl (lv_at hl 1 rfl) ?_
  refine tk_i (va_runV (As := []) (rest := []) ⟨hx, hb, hml, hown, hts⟩ (c_X7_goesOn__3 l D cy z H.size Ps ws hw.1 p1 sg_6 h_p1 o_p1) (cwV 0 hts (gV tw_998 tw_439 tw_440 tw_2 tw_441) rfl rfl rfl (by decide +kernel) ⟨Nat.le_of_ble_eq_true rfl, Nat.le_of_ble_eq_true rfl⟩) (tg_preV hw hK hSD hA (ci := 7) (q := (RX7, TX7, 12)) rfl h_p1 rfl) rfl rfl hl.1 rfl (lv_room (Nat.le_of_ble_eq_true rfl)) dX5_read_15 ⟨Nat.le_of_ble_eq_true rfl, Nat.le_of_ble_eq_true rfl⟩) hw hA ⟨by decide, by decide⟩ (fun v_8 ws H locs hp_v_8 hw hF9 => ?_)
  obtain ⟨hfn, hp_v_8⟩ := hp_v_8
  have o_p0 := OV.over (V := vw_SENT) hF9 o_p0 (by decide)
  have o_p2 := OV.over (V := vw_POST) hF9 o_p2 (by decide)
  obtain ⟨sg_9, q_sg_9⟩ : ∃ q9 : OS, (f_X7_goesOn__3 sg_6).1 = q9 := ⟨_, rfl⟩
  have o_p1 : OV vw_TAPE Ps ws p1 sg_9 := by rw [← q_sg_9]; exact hfn.1
  have q_v_8 : (f_X7_goesOn__3 sg_6).2 = v_8 := hfn.2.1
  have r_v_8 : RI v_8 0 1 := hp_v_8.1
  by_cases c9_v_8 : v_8 = 0
  · have r_v_8 : RI v_8 0 0 := by rw [c9_v_8]; exact rl_0
    refine lv_if_eq (tgt := 26) hx hb dX5_read_18 (by decide) (fun c_18 => ?_) (fun c_18 => ?_)
    · simp only [f_X5_read__1, ↓reduceIte, q_sg_2, q_sg_5, q_sg_6, q_sg_7, q_sg_9, q_v_8, eq_true c9_v_8, eq_true c_18] at hE
      subst hQ
      exact W.vret hx hb hr (fun t ht hW => ⟨⟨ws, rfl, ⟨⟨⟨(by rw [hR, ← hE]; exact o_p0), (by rw [hR, ← hE]; exact o_p1), (by rw [hR, ← hE]; exact o_p2), trivial⟩, trivial⟩, hw.1, hw.2.2.2.2.1⟩, by rw [ht]; exact hw.2.1, va_K.moved hW.alike hK, hw.2.2.1⟩, hw.2.2.2.1.F ht⟩) hw.2.2.2.1.2.2 dX5_read_26
    · exact absurd (r_v_8.eq.trans rl_0.eq.symm) ((ti_ne c_18))
  · have r_v_8 : RI v_8 1 1 := rc_neL r_v_8 rl_0 (ti_ne c9_v_8) (by decide)
    obtain ⟨v_10, m_v_10, r_v_10⟩ := ((hp_v_8.2.2 c9_v_8).1)
    refine lv_if_eq (tgt := 26) hx hb dX5_read_18 (by decide) (fun c_18 => ?_) (fun c_18 => ?_)
    · have r_v_8 : RI v_8 1 0 := rc_eq1 r_v_8 rl_0 (ti_eq c_18) (by decide)
      exact (r_v_8.no (by decide)).elim
    · refine lv_aload_n hx hb dX5_read_21 rfl (lv_at hl 1 rfl) ?_
      refine lv_iconst (v := 1) hx hb dX5_read_22 (by decide) ?_
      refine tk_v (va_runV (As := [.int 1]) (rest := []) ⟨hx, hb, hml, hown, hts⟩ (c_X7_refuse__5 l D cy z H.size Ps ws hw.1 p1 1 v_10 sg_9 h_p1 (rl_1.to (by decide)) r_v_10 m_v_10 o_p1) (cwV 1 hts (gV tw_981 tw_443 tw_444 tw_2 tw_445) rfl rfl rfl (by decide +kernel) ⟨Nat.le_of_ble_eq_true rfl, Nat.le_of_ble_eq_true rfl⟩) (tg_preV hw hK hSD hA (ci := 7) (q := (RX7, TX7, 12)) rfl h_p1 rfl) rfl rfl hl.1 rfl (lv_room (Nat.le_of_ble_eq_true rfl)) dX5_read_23 ⟨Nat.le_of_ble_eq_true rfl, Nat.le_of_ble_eq_true rfl⟩) hw hA ⟨by decide, by decide⟩ (fun ws H locs hp_v_11 hw hF9 => ?_)
      obtain ⟨hfn, hp_v_11⟩ := hp_v_11
      have o_p0 := OV.over (V := vw_SENT) hF9 o_p0 (by decide)
      have o_p2 := OV.over (V := vw_POST) hF9 o_p2 (by decide)
      obtain ⟨sg_12, q_sg_12⟩ : ∃ q9 : OS, (f_X7_refuse__5 (1 : Int32) sg_9) = q9 := ⟨_, rfl⟩
      have o_p1 : OV vw_TAPE Ps ws p1 sg_12 := by rw [← q_sg_12]; exact hfn.1
      obtain ⟨v_13, m_v_13, r_v_13⟩ := (hp_v_11.1)
      simp only [f_X5_read__1, ↓reduceIte, q_sg_2, q_sg_5, q_sg_6, q_sg_7, q_sg_9, q_v_8, eq_false c9_v_8, eq_false c_18, q_sg_12] at hE
      subst hQ
      exact W.vret hx hb hr (fun t ht hW => ⟨⟨ws, rfl, ⟨⟨⟨(by rw [hR, ← hE]; exact o_p0), (by rw [hR, ← hE]; exact o_p1), (by rw [hR, ← hE]; exact o_p2), trivial⟩, trivial⟩, hw.1, hw.2.2.2.2.1⟩, by rw [ht]; exact hw.2.1, va_K.moved hW.alike hK, hw.2.2.1⟩, hw.2.2.2.1.F ht⟩) hw.2.2.2.1.2.2 dX5_read_26
abbrev wr_X10_take__4 : List (Nat × Nat) := [(10, 2)]
abbrev wa_X10_take__4 : List Nat := []
set_option maxHeartbeats 4000000 in
set_option maxRecDepth 100000 in
theorem c_X10_take__4 (l : Launch) (D : va_G) (cy : Nat → ClassId) (z : Nat → Nat) (sz : Nat) (Ps : PSI) (w0 : va_W) (hT : HT cy GG Ps w0) (p0 : Nat) (s0 : OS) (h_p0 : (p0, 55) ∈ Ps) (o_p0 : OV vw_M2 Ps w0 p0 s0) : Met l yX10_take (Cond.code yX10_take cX10_take 2 (some .int) :: gT) ({ frames := 0, cells := 0, slots := 0, locals := 200 } : Room) (va_Pc [.ref p0] (PRE D cy z w0 sz)) (va_Qi (fun (r : Int32) (u : va_W) => ((OV vw_M2 Ps u p0 ((f_X10_take__1 s0).1) ∧ (f_X10_take__1 s0).2 = r ∧ True) ∧ (RI r 0 940 ∧ (r = 0 → (∃ v9 : Int32, FLD u p0 10 2 (.int v9) ∧ RI v9 0 0) ∧ TLM u p0 (0) ∧ True) ∧ (¬ r = 0 → (∃ v9 : Int32, FLD u p0 10 2 (.int v9) ∧ RI v9 0 0) ∧ TLM u p0 (0) ∧ True))) ∧ HT cy GG Ps u ∧ FR wr_X10_take__4 wa_X10_take__4 Ps w0 u) (BB D cy (va_A w0 sz) (fun (u : va_W) => u)) (va_A w0 sz)) 0 0 (va_A w0 sz) := by
  refine Met.ofW (cc := cX10_take) (maxL := 2) (ret := (some .int)) (by decide) rfl ?_
  intro p e s m args below meth c s₁ B hml hv
  obtain ⟨rfl, hsz, hP, hK, hD0, hSD⟩ := hv
  have hx := B.exec
  have hb := B.bytes
  have hr := B.returns
  have hlocks := B.notSynchronized
  have hts : ∀ w ∈ gT, w.before _ s = true := fun w h => atoms_spec (ws := Cond.code yX10_take cX10_take 2 (some .int) :: gT) B.pre w (List.mem_cons_of_mem _ h)
  have hown : s.vm.findClass RX10 = some m.cls := findClass_of_methodNamed B.named
  subst hsz
  have hD := hD0.self (sz := s.heap.size)
  generalize hAe : va_A w0 s.heap.size = A at hD hSD ⊢
  have hA : ∀ q : Nat, s.heap.size ≤ q → A q := fun q h => by rw [← hAe]; exact Or.inr h
  have hl := lv_entry ([.ref p0]) (n := 2) (Nat.le_of_ble_eq_true rfl)
  rw [lg_entry_eq]
  generalize (lg_sl ([.ref p0]) ++ List.replicate (2 - (lg_sl ([.ref p0])).length) Slot.unset).toArray = ls at hl ⊢
  have hl : lv_has ls 2 [(0, .ref p0)] := hl
  refine nameQ (fun Q hQ => ?_)
  have hw : WD D cy GG A s wr_X10_take__4 wa_X10_take__4 Ps w0 Ps w0 s.heap [] := ⟨hT, hP, hD, va_S.rf, FR.rf, hT.1, [], (List.append_nil _).symm⟩
  obtain ⟨R9, hR⟩ : ∃ q9 : OS × Int32, f_X10_take__1 s0 = q9 := ⟨_, rfl⟩
  have hE := hR
  refine lv_aload_n hx hb dX10_take_0 rfl (lv_at hl 0 rfl) ?_
  refine tg_get (ci := 10) (ts := ty_MODEL) (C := RX10) (T := TX10) (N := 49) hx hb hts inX10 hown hK hw h_p0 rfl rfl 2 (by decide) (hts _ tw_1139) (fun _ h9 => h9) (ft := vI 0 940) rfl dX10_take_1 (fun u_1 hv_u_1 m_u_1 => ?_)
  obtain ⟨vu_1, rfl, r_vu_1⟩ := hv_u_1
  have q_vu_1 : s0.1 2 = vu_1 := OV.eqI (V := vw_M2) hw.2.2.1 o_p0 m_u_1 (by decide)
  refine lv_istore_n (lv' := [(1, .int vu_1), (0, .ref p0)]) hx hb dX10_take_4 rfl hl (by decide) rfl (fun ls hl => ?_)
  refine lv_aload_n hx hb dX10_take_5 rfl (lv_at hl 1 rfl) ?_
  refine lv_iconst (v := 0) hx hb dX10_take_6 (by decide) ?_
  refine tg_put (ci := 10) (ts := ty_MODEL) (v := .int 0) (ty := .int) (C := RX10) (T := TX10) (N := 49) hx hb hts inX10 tyX10 tyX10_ok nmX10 hown hK hw h_p0 rfl rfl 2 (by decide) (hts _ tw_1139) (fun _ h9 => h9) rfl (by decide +kernel) rfl rfl (ft := vI 0 940) rfl ⟨_, rfl, (rl_0.to (by decide))⟩ (by decide) dX10_take_7 (fun ws H locs hw n_k_2 hF9 => ?_)
  obtain ⟨sg_3, q_sg_3⟩ : ∃ q9 : OS, sI s0 2 (0 : Int32) = q9 := ⟨_, rfl⟩
  have o_p0 : OV vw_M2 Ps ws p0 sg_3 := by rw [← q_sg_3]; exact OV.putI (V := vw_M2) hF9 n_k_2 o_p0 (by decide)
  have x_TLM_p0_0 : TLM ws p0 (0) := ⟨_, n_k_2, (by decide)⟩
  refine lv_iload_n hx hb dX10_take_10 rfl (lv_at hl 0 rfl) ?_
  simp only [f_X10_take__1, ↓reduceIte, q_vu_1, q_sg_3] at hE
  subst hQ
  exact W.iret (v := vu_1) hx hb hr (fun t ht hW => ⟨⟨vu_1, ws, rfl, ⟨⟨⟨(by rw [hR, ← hE]; exact o_p0), (by rw [hR, ← hE]), trivial⟩, r_vu_1.to (by decide), (fun h0 => ⟨⟨_, n_k_2, rl_0⟩, x_TLM_p0_0, trivial⟩), (fun h0 => ⟨⟨_, n_k_2, rl_0⟩, x_TLM_p0_0, trivial⟩)⟩, hw.1, hw.2.2.2.2.1⟩, by rw [ht]; exact hw.2.1, va_K.moved hW.alike hK, hw.2.2.1⟩, hw.2.2.2.1.F ht⟩) hw.2.2.2.1.2.2 dX10_take_11
abbrev wr_X10_isLetter__4 : List (Nat × Nat) := []
abbrev wa_X10_isLetter__4 : List Nat := []
set_option maxHeartbeats 4000000 in
set_option maxRecDepth 100000 in
theorem c_X10_isLetter__4 (l : Launch) (D : va_G) (cy : Nat → ClassId) (z : Nat → Nat) (sz : Nat) (Ps : PSI) (w0 : va_W) (hT : HT cy GG Ps w0) (p0 : Int32) (r_p0 : RI p0 0 255) : Met l yX10_isLetter (Cond.code yX10_isLetter cX10_isLetter 1 (some .boolean) :: gT) ({ frames := 0, cells := 0, slots := 0, locals := 200 } : Room) (va_Pc [.int p0] (PRE D cy z w0 sz)) (va_Qi (fun (r : Int32) (u : Unit) => ((f_X10_isLetter__2 p0) = r ∧ True) ∧ (RI r 0 1 ∧ (r = 0 → True) ∧ (¬ r = 0 → RI p0 97 122 ∧ True))) (BB D cy (va_A w0 sz) (fun (u : Unit) => w0)) (va_A w0 sz)) 0 0 (va_A w0 sz) := by
  refine Met.ofW (cc := cX10_isLetter) (maxL := 1) (ret := (some .boolean)) (by decide) rfl ?_
  intro p e s m args below meth c s₁ B hml hv
  obtain ⟨rfl, hsz, hP, hK, hD0, hSD⟩ := hv
  have hx := B.exec
  have hb := B.bytes
  have hr := B.returns
  have hlocks := B.notSynchronized
  have hts : ∀ w ∈ gT, w.before _ s = true := fun w h => atoms_spec (ws := Cond.code yX10_isLetter cX10_isLetter 1 (some .boolean) :: gT) B.pre w (List.mem_cons_of_mem _ h)
  have hown : s.vm.findClass RX10 = some m.cls := findClass_of_methodNamed B.named
  subst hsz
  have hD := hD0.self (sz := s.heap.size)
  generalize hAe : va_A w0 s.heap.size = A at hD hSD ⊢
  have hA : ∀ q : Nat, s.heap.size ≤ q → A q := fun q h => by rw [← hAe]; exact Or.inr h
  have hl := lv_entry ([.int p0]) (n := 1) (Nat.le_of_ble_eq_true rfl)
  rw [lg_entry_eq]
  generalize (lg_sl ([.int p0]) ++ List.replicate (1 - (lg_sl ([.int p0])).length) Slot.unset).toArray = ls at hl ⊢
  have hl : lv_has ls 1 [(0, .int p0)] := hl
  refine nameQ (fun Q hQ => ?_)
  have hw : WD D cy GG A s wr_X10_isLetter__4 wa_X10_isLetter__4 Ps w0 Ps w0 s.heap [] := ⟨hT, hP, hD, va_S.rf, FR.rf, hT.1, [], (List.append_nil _).symm⟩
  obtain ⟨R9, hR⟩ : ∃ q9 : Int32, f_X10_isLetter__2 p0 = q9 := ⟨_, rfl⟩
  have hE := hR
  refine lv_iload_n hx hb dX10_isLetter_0 rfl (lv_at hl 0 rfl) ?_
  refine lv_bipush (v := 97) hx hb dX10_isLetter_1 (by decide) ?_
  refine lv_icmp_lt (tgt := 16) hx hb dX10_isLetter_3 (by decide) (fun c_3 => ?_) (fun c_3 => ?_)
  · have r_p0 : RI p0 0 96 := rc_lt1 r_p0 rl_97 (ti_lt c_3) (by decide)
    refine lv_iconst (v := 0) hx hb dX10_isLetter_16 (by decide) ?_
    simp only [f_X10_isLetter__2, ↓reduceIte, eq_true c_3] at hE
    subst hQ
    exact W.zret (v := 0) hx hb hr (rfl) (fun t ht hW => ⟨⟨0, (), rfl, ⟨⟨(by rw [hR, ← hE]), trivial⟩, rl_0.to (by decide), (fun h0 => trivial), (fun h0 => absurd rfl h0)⟩, by rw [ht]; exact hw.2.1, va_K.moved hW.alike hK, hw.2.2.1⟩, hw.2.2.2.1.F ht⟩) hw.2.2.2.1.2.2 dX10_isLetter_17
  · have r_p0 : RI p0 97 255 := rc_le2 rl_97 r_p0 (ti_nlt c_3) (by decide)
    refine lv_iload_n hx hb dX10_isLetter_6 rfl (lv_at hl 0 rfl) ?_
    refine lv_bipush (v := 122) hx hb dX10_isLetter_7 (by decide) ?_
    refine lv_icmp_gt (tgt := 16) hx hb dX10_isLetter_9 (by decide) (fun c_9 => ?_) (fun c_9 => ?_)
    · have r_p0 : RI p0 123 255 := rc_lt2 rl_122 r_p0 (ti_lt c_9) (by decide)
      refine lv_iconst (v := 0) hx hb dX10_isLetter_16 (by decide) ?_
      simp only [f_X10_isLetter__2, ↓reduceIte, eq_false c_3, eq_true c_9] at hE
      subst hQ
      exact W.zret (v := 0) hx hb hr (rfl) (fun t ht hW => ⟨⟨0, (), rfl, ⟨⟨(by rw [hR, ← hE]), trivial⟩, rl_0.to (by decide), (fun h0 => trivial), (fun h0 => absurd rfl h0)⟩, by rw [ht]; exact hw.2.1, va_K.moved hW.alike hK, hw.2.2.1⟩, hw.2.2.2.1.F ht⟩) hw.2.2.2.1.2.2 dX10_isLetter_17
    · have r_p0 : RI p0 97 122 := rc_le1 r_p0 rl_122 (ti_nlt c_9) (by decide)
      refine lv_iconst (v := 1) hx hb dX10_isLetter_12 (by decide) ?_
      refine lv_goto (tgt := 17) hx hb dX10_isLetter_13 (by decide) ?_
      simp only [f_X10_isLetter__2, ↓reduceIte, eq_false c_3, eq_false c_9] at hE
      subst hQ
      exact W.zret (v := 1) hx hb hr (rfl) (fun t ht hW => ⟨⟨1, (), rfl, ⟨⟨(by rw [hR, ← hE]), trivial⟩, rl_1.to (by decide), (fun _ => trivial), (fun h0 => ⟨r_p0, trivial⟩)⟩, by rw [ht]; exact hw.2.1, va_K.moved hW.alike hK, hw.2.2.1⟩, hw.2.2.2.1.F ht⟩) hw.2.2.2.1.2.2 dX10_isLetter_17
abbrev wr_X10_tapeAt__2 : List (Nat × Nat) := []
abbrev wa_X10_tapeAt__2 : List Nat := []
set_option maxHeartbeats 4000000 in
set_option maxRecDepth 100000 in
theorem c_X10_tapeAt__2 (l : Launch) (D : va_G) (cy : Nat → ClassId) (z : Nat → Nat) (sz : Nat) (Ps : PSI) (w0 : va_W) (hT : HT cy GG Ps w0) (p0 : Nat) (p1 : Int32) (s0 : OS) (h_p0 : (p0, 55) ∈ Ps) (r_p1 : RI p1 0 940) (o_p0 : OV vw_M2 Ps w0 p0 s0) : Met l yX10_tapeAt (Cond.code yX10_tapeAt cX10_tapeAt 2 (some .int) :: gT) ({ frames := 0, cells := 0, slots := 0, locals := 200 } : Room) (va_Pc [.ref p0, .int p1] (PRE D cy z w0 sz)) (va_Qi (fun (r : Int32) (u : Unit) => ((f_X10_tapeAt__1 p1 s0) = r ∧ True) ∧ (RI r 0 255 ∧ (r = 0 → True) ∧ (¬ r = 0 → RI p1 0 939 ∧ True))) (BB D cy (va_A w0 sz) (fun (u : Unit) => w0)) (va_A w0 sz)) 0 0 (va_A w0 sz) := by
  refine Met.ofW (cc := cX10_tapeAt) (maxL := 2) (ret := (some .int)) (by decide) rfl ?_
  intro p e s m args below meth c s₁ B hml hv
  obtain ⟨rfl, hsz, hP, hK, hD0, hSD⟩ := hv
  have hx := B.exec
  have hb := B.bytes
  have hr := B.returns
  have hlocks := B.notSynchronized
  have hts : ∀ w ∈ gT, w.before _ s = true := fun w h => atoms_spec (ws := Cond.code yX10_tapeAt cX10_tapeAt 2 (some .int) :: gT) B.pre w (List.mem_cons_of_mem _ h)
  have hown : s.vm.findClass RX10 = some m.cls := findClass_of_methodNamed B.named
  subst hsz
  have hD := hD0.self (sz := s.heap.size)
  generalize hAe : va_A w0 s.heap.size = A at hD hSD ⊢
  have hA : ∀ q : Nat, s.heap.size ≤ q → A q := fun q h => by rw [← hAe]; exact Or.inr h
  have hl := lv_entry ([.ref p0, .int p1]) (n := 2) (Nat.le_of_ble_eq_true rfl)
  rw [lg_entry_eq]
  generalize (lg_sl ([.ref p0, .int p1]) ++ List.replicate (2 - (lg_sl ([.ref p0, .int p1])).length) Slot.unset).toArray = ls at hl ⊢
  have hl : lv_has ls 2 [(0, .ref p0), (1, .int p1)] := hl
  refine nameQ (fun Q hQ => ?_)
  have hw : WD D cy GG A s wr_X10_tapeAt__2 wa_X10_tapeAt__2 Ps w0 Ps w0 s.heap [] := ⟨hT, hP, hD, va_S.rf, FR.rf, hT.1, [], (List.append_nil _).symm⟩
  obtain ⟨R9, hR⟩ : ∃ q9 : Int32, f_X10_tapeAt__1 p1 s0 = q9 := ⟨_, rfl⟩
  have hE := hR
  refine lv_iload_n hx hb dX10_tapeAt_0 rfl (lv_at hl 1 rfl) ?_
  refine lv_aload_n hx hb dX10_tapeAt_1 rfl (lv_at hl 0 rfl) ?_
  refine tg_get (ci := 10) (ts := ty_MODEL) (C := RX10) (T := TX10) (N := 49) hx hb hts inX10 hown hK hw h_p0 rfl rfl 3 (by decide) (hts _ tw_1140) (fun _ h9 => h9) (ft := vI 0 940) rfl dX10_tapeAt_2 (fun u_1 hv_u_1 m_u_1 => ?_)
  obtain ⟨vu_1, rfl, r_vu_1⟩ := hv_u_1
  have q_vu_1 : s0.1 3 = vu_1 := OV.eqI (V := vw_M2) hw.2.2.1 o_p0 m_u_1 (by decide)
  refine lv_icmp_ge (tgt := 17) hx hb dX10_tapeAt_5 (by decide) (fun c_5 => ?_) (fun c_5 => ?_)
  · refine lv_iconst (v := 0) hx hb dX10_tapeAt_17 (by decide) ?_
    simp only [f_X10_tapeAt__1, ↓reduceIte, q_vu_1, eq_true c_5] at hE
    subst hQ
    exact W.iret (v := 0) hx hb hr (fun t ht hW => ⟨⟨0, (), rfl, ⟨⟨(by rw [hR, ← hE]), trivial⟩, rl_0.to (by decide), (fun h0 => trivial), (fun h0 => absurd rfl h0)⟩, by rw [ht]; exact hw.2.1, va_K.moved hW.alike hK, hw.2.2.1⟩, hw.2.2.2.1.F ht⟩) hw.2.2.2.1.2.2 dX10_tapeAt_18
  · have r_p1 : RI p1 0 939 := rc_lt1 r_p1 r_vu_1 (ti_nle c_5) (by decide)
    have r_vu_1 : RI vu_1 1 940 := rc_lt2 r_p1 r_vu_1 (ti_nle c_5) (by decide)
    refine lv_aload_n hx hb dX10_tapeAt_8 rfl (lv_at hl 0 rfl) ?_
    refine tg_get (ci := 10) (ts := ty_MODEL) (C := RX10) (T := TX10) (N := 49) hx hb hts inX10 hown hK hw h_p0 rfl rfl 1 (by decide) (hts _ tw_1138) (fun _ h9 => h9) (ft := vR 40) rfl dX10_tapeAt_9 (fun u_2 hv_u_2 m_u_2 => ?_)
    obtain ⟨vu_2, rfl, h_vu_2⟩ := hv_u_2
    refine lv_iload_n hx hb dX10_tapeAt_12 rfl (lv_at hl 1 rfl) ?_
    refine tg_iald (lo := 0) (hi := 255) hx hb hK hw h_vu_2 rfl 0 939 r_p1 (by decide) (by exact fun _ _ _ => ⟨Int.le_refl _, Int.le_refl _⟩) dX10_tapeAt_13 (fun v_3 r_v_3 m_v_3 o_v_3 => ?_)
    have q_v_3 : s0.2.2.1 1 (Int32.toNatClampNeg p1) = v_3 := OV.eqA (V := vw_M2) (t := 40) hw.2.2.1 o_p0 m_u_2 m_v_3 (by decide)
    refine lv_goto (tgt := 18) hx hb dX10_tapeAt_14 (by decide) ?_
    simp only [f_X10_tapeAt__1, ↓reduceIte, q_vu_1, eq_false c_5, q_v_3] at hE
    subst hQ
    exact W.iret (v := v_3) hx hb hr (fun t ht hW => ⟨⟨v_3, (), rfl, ⟨⟨(by rw [hR, ← hE]), trivial⟩, r_v_3.to (by decide), (fun h0 => trivial), (fun h0 => ⟨r_p1, trivial⟩)⟩, by rw [ht]; exact hw.2.1, va_K.moved hW.alike hK, hw.2.2.1⟩, hw.2.2.2.1.F ht⟩) hw.2.2.2.1.2.2 dX10_tapeAt_18
abbrev wr_X10_isDigit__2 : List (Nat × Nat) := []
abbrev wa_X10_isDigit__2 : List Nat := []
set_option maxHeartbeats 4000000 in
set_option maxRecDepth 100000 in
theorem c_X10_isDigit__2 (l : Launch) (D : va_G) (cy : Nat → ClassId) (z : Nat → Nat) (sz : Nat) (Ps : PSI) (w0 : va_W) (hT : HT cy GG Ps w0) (p0 : Int32) (r_p0 : RI p0 0 255) : Met l yX10_isDigit (Cond.code yX10_isDigit cX10_isDigit 1 (some .boolean) :: gT) ({ frames := 0, cells := 0, slots := 0, locals := 200 } : Room) (va_Pc [.int p0] (PRE D cy z w0 sz)) (va_Qi (fun (r : Int32) (u : Unit) => ((f_X10_isDigit__1 p0) = r ∧ True) ∧ (RI r 0 1 ∧ (r = 0 → True) ∧ (¬ r = 0 → RI p0 48 57 ∧ True))) (BB D cy (va_A w0 sz) (fun (u : Unit) => w0)) (va_A w0 sz)) 0 0 (va_A w0 sz) := by
  refine Met.ofW (cc := cX10_isDigit) (maxL := 1) (ret := (some .boolean)) (by decide) rfl ?_
  intro p e s m args below meth c s₁ B hml hv
  obtain ⟨rfl, hsz, hP, hK, hD0, hSD⟩ := hv
  have hx := B.exec
  have hb := B.bytes
  have hr := B.returns
  have hlocks := B.notSynchronized
  have hts : ∀ w ∈ gT, w.before _ s = true := fun w h => atoms_spec (ws := Cond.code yX10_isDigit cX10_isDigit 1 (some .boolean) :: gT) B.pre w (List.mem_cons_of_mem _ h)
  have hown : s.vm.findClass RX10 = some m.cls := findClass_of_methodNamed B.named
  subst hsz
  have hD := hD0.self (sz := s.heap.size)
  generalize hAe : va_A w0 s.heap.size = A at hD hSD ⊢
  have hA : ∀ q : Nat, s.heap.size ≤ q → A q := fun q h => by rw [← hAe]; exact Or.inr h
  have hl := lv_entry ([.int p0]) (n := 1) (Nat.le_of_ble_eq_true rfl)
  rw [lg_entry_eq]
  generalize (lg_sl ([.int p0]) ++ List.replicate (1 - (lg_sl ([.int p0])).length) Slot.unset).toArray = ls at hl ⊢
  have hl : lv_has ls 1 [(0, .int p0)] := hl
  refine nameQ (fun Q hQ => ?_)
  have hw : WD D cy GG A s wr_X10_isDigit__2 wa_X10_isDigit__2 Ps w0 Ps w0 s.heap [] := ⟨hT, hP, hD, va_S.rf, FR.rf, hT.1, [], (List.append_nil _).symm⟩
  obtain ⟨R9, hR⟩ : ∃ q9 : Int32, f_X10_isDigit__1 p0 = q9 := ⟨_, rfl⟩
  have hE := hR
  refine lv_iload_n hx hb dX10_isDigit_0 rfl (lv_at hl 0 rfl) ?_
  refine lv_bipush (v := 48) hx hb dX10_isDigit_1 (by decide) ?_
  refine lv_icmp_lt (tgt := 16) hx hb dX10_isDigit_3 (by decide) (fun c_3 => ?_) (fun c_3 => ?_)
  · have r_p0 : RI p0 0 47 := rc_lt1 r_p0 rl_48 (ti_lt c_3) (by decide)
    refine lv_iconst (v := 0) hx hb dX10_isDigit_16 (by decide) ?_
    simp only [f_X10_isDigit__1, ↓reduceIte, eq_true c_3] at hE
    subst hQ
    exact W.zret (v := 0) hx hb hr (rfl) (fun t ht hW => ⟨⟨0, (), rfl, ⟨⟨(by rw [hR, ← hE]), trivial⟩, rl_0.to (by decide), (fun h0 => trivial), (fun h0 => absurd rfl h0)⟩, by rw [ht]; exact hw.2.1, va_K.moved hW.alike hK, hw.2.2.1⟩, hw.2.2.2.1.F ht⟩) hw.2.2.2.1.2.2 dX10_isDigit_17
  · have r_p0 : RI p0 48 255 := rc_le2 rl_48 r_p0 (ti_nlt c_3) (by decide)
    refine lv_iload_n hx hb dX10_isDigit_6 rfl (lv_at hl 0 rfl) ?_
    refine lv_bipush (v := 57) hx hb dX10_isDigit_7 (by decide) ?_
    refine lv_icmp_gt (tgt := 16) hx hb dX10_isDigit_9 (by decide) (fun c_9 => ?_) (fun c_9 => ?_)
    · have r_p0 : RI p0 58 255 := rc_lt2 rl_57 r_p0 (ti_lt c_9) (by decide)
      refine lv_iconst (v := 0) hx hb dX10_isDigit_16 (by decide) ?_
      simp only [f_X10_isDigit__1, ↓reduceIte, eq_false c_3, eq_true c_9] at hE
      subst hQ
      exact W.zret (v := 0) hx hb hr (rfl) (fun t ht hW => ⟨⟨0, (), rfl, ⟨⟨(by rw [hR, ← hE]), trivial⟩, rl_0.to (by decide), (fun h0 => trivial), (fun h0 => absurd rfl h0)⟩, by rw [ht]; exact hw.2.1, va_K.moved hW.alike hK, hw.2.2.1⟩, hw.2.2.2.1.F ht⟩) hw.2.2.2.1.2.2 dX10_isDigit_17
    · have r_p0 : RI p0 48 57 := rc_le1 r_p0 rl_57 (ti_nlt c_9) (by decide)
      refine lv_iconst (v := 1) hx hb dX10_isDigit_12 (by decide) ?_
      refine lv_goto (tgt := 17) hx hb dX10_isDigit_13 (by decide) ?_
      simp only [f_X10_isDigit__1, ↓reduceIte, eq_false c_3, eq_false c_9] at hE
      subst hQ
      exact W.zret (v := 1) hx hb hr (rfl) (fun t ht hW => ⟨⟨1, (), rfl, ⟨⟨(by rw [hR, ← hE]), trivial⟩, rl_1.to (by decide), (fun _ => trivial), (fun h0 => ⟨r_p0, trivial⟩)⟩, by rw [ht]; exact hw.2.1, va_K.moved hW.alike hK, hw.2.2.1⟩, hw.2.2.2.1.F ht⟩) hw.2.2.2.1.2.2 dX10_isDigit_17
abbrev wr_X10_isLetter__5 : List (Nat × Nat) := []
abbrev wa_X10_isLetter__5 : List Nat := []
set_option maxHeartbeats 4000000 in
set_option maxRecDepth 100000 in
theorem c_X10_isLetter__5 (l : Launch) (D : va_G) (cy : Nat → ClassId) (z : Nat → Nat) (sz : Nat) (Ps : PSI) (w0 : va_W) (hT : HT cy GG Ps w0) (p0 : Int32) (r_p0 : RI p0 48 122) : Met l yX10_isLetter (Cond.code yX10_isLetter cX10_isLetter 1 (some .boolean) :: gT) ({ frames := 0, cells := 0, slots := 0, locals := 200 } : Room) (va_Pc [.int p0] (PRE D cy z w0 sz)) (va_Qi (fun (r : Int32) (u : Unit) => ((f_X10_isLetter__3 p0) = r ∧ True) ∧ (RI r 0 1 ∧ (r = 0 → RI p0 48 96 ∧ True) ∧ (¬ r = 0 → RI p0 97 122 ∧ True))) (BB D cy (va_A w0 sz) (fun (u : Unit) => w0)) (va_A w0 sz)) 0 0 (va_A w0 sz) := by
  refine Met.ofW (cc := cX10_isLetter) (maxL := 1) (ret := (some .boolean)) (by decide) rfl ?_
  intro p e s m args below meth c s₁ B hml hv
  obtain ⟨rfl, hsz, hP, hK, hD0, hSD⟩ := hv
  have hx := B.exec
  have hb := B.bytes
  have hr := B.returns
  have hlocks := B.notSynchronized
  have hts : ∀ w ∈ gT, w.before _ s = true := fun w h => atoms_spec (ws := Cond.code yX10_isLetter cX10_isLetter 1 (some .boolean) :: gT) B.pre w (List.mem_cons_of_mem _ h)
  have hown : s.vm.findClass RX10 = some m.cls := findClass_of_methodNamed B.named
  subst hsz
  have hD := hD0.self (sz := s.heap.size)
  generalize hAe : va_A w0 s.heap.size = A at hD hSD ⊢
  have hA : ∀ q : Nat, s.heap.size ≤ q → A q := fun q h => by rw [← hAe]; exact Or.inr h
  have hl := lv_entry ([.int p0]) (n := 1) (Nat.le_of_ble_eq_true rfl)
  rw [lg_entry_eq]
  generalize (lg_sl ([.int p0]) ++ List.replicate (1 - (lg_sl ([.int p0])).length) Slot.unset).toArray = ls at hl ⊢
  have hl : lv_has ls 1 [(0, .int p0)] := hl
  refine nameQ (fun Q hQ => ?_)
  have hw : WD D cy GG A s wr_X10_isLetter__5 wa_X10_isLetter__5 Ps w0 Ps w0 s.heap [] := ⟨hT, hP, hD, va_S.rf, FR.rf, hT.1, [], (List.append_nil _).symm⟩
  obtain ⟨R9, hR⟩ : ∃ q9 : Int32, f_X10_isLetter__3 p0 = q9 := ⟨_, rfl⟩
  have hE := hR
  refine lv_iload_n hx hb dX10_isLetter_0 rfl (lv_at hl 0 rfl) ?_
  refine lv_bipush (v := 97) hx hb dX10_isLetter_1 (by decide) ?_
  refine lv_icmp_lt (tgt := 16) hx hb dX10_isLetter_3 (by decide) (fun c_3 => ?_) (fun c_3 => ?_)
  · have r_p0 : RI p0 48 96 := rc_lt1 r_p0 rl_97 (ti_lt c_3) (by decide)
    refine lv_iconst (v := 0) hx hb dX10_isLetter_16 (by decide) ?_
    simp only [f_X10_isLetter__3, ↓reduceIte, eq_true c_3] at hE
    subst hQ
    exact W.zret (v := 0) hx hb hr (rfl) (fun t ht hW => ⟨⟨0, (), rfl, ⟨⟨(by rw [hR, ← hE]), trivial⟩, rl_0.to (by decide), (fun h0 => ⟨r_p0, trivial⟩), (fun h0 => absurd rfl h0)⟩, by rw [ht]; exact hw.2.1, va_K.moved hW.alike hK, hw.2.2.1⟩, hw.2.2.2.1.F ht⟩) hw.2.2.2.1.2.2 dX10_isLetter_17
  · have r_p0 : RI p0 97 122 := rc_le2 rl_97 r_p0 (ti_nlt c_3) (by decide)
    refine lv_iload_n hx hb dX10_isLetter_6 rfl (lv_at hl 0 rfl) ?_
    refine lv_bipush (v := 122) hx hb dX10_isLetter_7 (by decide) ?_
    refine lv_icmp_gt (tgt := 16) hx hb dX10_isLetter_9 (by decide) (fun c_9 => ?_) (fun c_9 => ?_)
    · have r_p0 : RI p0 123 122 := rc_lt2 rl_122 r_p0 (ti_lt c_9) (by decide)
      exact (r_p0.no (by decide)).elim
    · refine lv_iconst (v := 1) hx hb dX10_isLetter_12 (by decide) ?_
      refine lv_goto (tgt := 17) hx hb dX10_isLetter_13 (by decide) ?_
      simp only [f_X10_isLetter__3, ↓reduceIte, eq_false c_3, eq_false c_9] at hE
      subst hQ
      exact W.zret (v := 1) hx hb hr (rfl) (fun t ht hW => ⟨⟨1, (), rfl, ⟨⟨(by rw [hR, ← hE]), trivial⟩, rl_1.to (by decide), (fun h0 => absurd h0 (by decide)), (fun h0 => ⟨r_p0, trivial⟩)⟩, by rw [ht]; exact hw.2.1, va_K.moved hW.alike hK, hw.2.2.1⟩, hw.2.2.2.1.F ht⟩) hw.2.2.2.1.2.2 dX10_isLetter_17
abbrev wr_X10_go__4 : List (Nat × Nat) := [(10, 5), (10, 6), (10, 7), (10, 8), (10, 9), (10, 12)]
abbrev wa_X10_go__4 : List Nat := []
set_option maxHeartbeats 4000000 in
set_option maxRecDepth 100000 in
theorem c_X10_go__4 (l : Launch) (D : va_G) (cy : Nat → ClassId) (z : Nat → Nat) (sz : Nat) (Ps : PSI) (w0 : va_W) (hT : HT cy GG Ps w0) (p0 : Nat) (s0 : OS) (h_p0 : (p0, 55) ∈ Ps) (o_p0 : OV vw_M2 Ps w0 p0 s0) : Met l yX10_go (Cond.code yX10_go cX10_go 5 none :: gT) ({ frames := 2, cells := 0, slots := 0, locals := 400 } : Room) (va_Pc [.ref p0] (PRE D cy z w0 sz)) (va_Qv (fun (u : va_W) => ((OV vw_M2 Ps u p0 ((f_X10_go__2 s0)) ∧ True) ∧ (True)) ∧ HT cy GG Ps u ∧ FR wr_X10_go__4 wa_X10_go__4 Ps w0 u) (BB D cy (va_A w0 sz) (fun (u : va_W) => u)) (va_A w0 sz)) 0 0 (va_A w0 sz) := by
  refine Met.ofW (cc := cX10_go) (maxL := 5) (ret := none) (by decide) rfl ?_
  intro p e s m args below meth c s₁ B hml hv
  obtain ⟨rfl, hsz, hP, hK, hD0, hSD⟩ := hv
  have hx := B.exec
  have hb := B.bytes
  have hr := B.returns
  have hlocks := B.notSynchronized
  have hts : ∀ w ∈ gT, w.before _ s = true := fun w h => atoms_spec (ws := Cond.code yX10_go cX10_go 5 none :: gT) B.pre w (List.mem_cons_of_mem _ h)
  have hown : s.vm.findClass RX10 = some m.cls := findClass_of_methodNamed B.named
  subst hsz
  have hD := hD0.self (sz := s.heap.size)
  generalize hAe : va_A w0 s.heap.size = A at hD hSD ⊢
  have hA : ∀ q : Nat, s.heap.size ≤ q → A q := fun q h => by rw [← hAe]; exact Or.inr h
  have hl := lv_entry ([.ref p0]) (n := 5) (Nat.le_of_ble_eq_true rfl)
  rw [lg_entry_eq]
  generalize (lg_sl ([.ref p0]) ++ List.replicate (5 - (lg_sl ([.ref p0])).length) Slot.unset).toArray = ls at hl ⊢
  have hl : lv_has ls 5 [(0, .ref p0)] := hl
  refine nameQ (fun Q hQ => ?_)
  have hw : WD D cy GG A s wr_X10_go__4 wa_X10_go__4 Ps w0 Ps w0 s.heap [] := ⟨hT, hP, hD, va_S.rf, FR.rf, hT.1, [], (List.append_nil _).symm⟩
  obtain ⟨R9, hR⟩ : ∃ q9 : OS, f_X10_go__2 s0 = q9 := ⟨_, rfl⟩
  have hE := hR
  have B390 : ∀ (x1 : Int32) (x2 : Int32) (x3 : Int32) (y0 : Int32) (z0_3 : Int32) (z0_4 : Int32) (z0_5 : Int32) (z0_6 : Int32) (s0 : OS) (ws : va_W) (H : Heap) (locs : List Loc) (ls : Array Slot), RI x1 48 122 → RI x2 0 1 → RI x3 0 1 → RI y0 1 3 → RI z0_3 1 940 → FLD ws p0 10 3 (.int z0_3) → RI z0_4 0 2147483647 → FLD ws p0 10 4 (.int z0_4) → RI z0_5 0 940 → FLD ws p0 10 5 (.int z0_5) → RI z0_6 0 940 → FLD ws p0 10 6 (.int z0_6) → OV vw_M2 Ps ws p0 s0 → f_X10_go__2_390 x1 x2 x3 y0 s0 = R9 → WD D cy GG A s wr_X10_go__4 wa_X10_go__4 Ps w0 Ps ws H locs → lv_has ls 5 [(0, .ref p0), (1, .int x1), (2, .int x2), (3, .int x3)] → W p l e (headSpec (Cond.code yX10_go cX10_go 5 none :: gT) ({ frames := 2, cells := 0, slots := 0, locals := 400 } : Room)).room s m ([.ref p0] : List Value).toArray below meth c H locs 0 0 Q (F0 m 390 ls [.int y0, .ref p0]) := by
    intro x1 x2 x3 y0 z0_3 z0_4 z0_5 z0_6 s0 ws H locs ls r_x1 r_x2 r_x3 r_y0 r_z0_3 m_z0_3 r_z0_4 m_z0_4 r_z0_5 m_z0_5 r_z0_6 m_z0_6 o_p0 hE hw hl
    have q_z0_3 : s0.1 3 = z0_3 := OV.eqI (V := vw_M2) hw.2.2.1 o_p0 m_z0_3 (by decide)
    have q_z0_4 : s0.1 4 = z0_4 := OV.eqI (V := vw_M2) hw.2.2.1 o_p0 m_z0_4 (by decide)
    have q_z0_5 : s0.1 5 = z0_5 := OV.eqI (V := vw_M2) hw.2.2.1 o_p0 m_z0_5 (by decide)
    have q_z0_6 : s0.1 6 = z0_6 := OV.eqI (V := vw_M2) hw.2.2.1 o_p0 m_z0_6 (by decide)
    refine tg_put (ci := 10) (ts := ty_MODEL) (v := .int y0) (ty := .int) (C := RX10) (T := TX10) (N := 49) hx hb hts inX10 tyX10 tyX10_ok nmX10 hown hK hw h_p0 rfl rfl 7 (by decide) (hts _ tw_1144) (fun _ h9 => h9) rfl (by decide +kernel) rfl rfl (ft := vI (-2147483648) 2147483647) rfl ⟨_, rfl, (r_y0.to (by decide))⟩ (by decide) dX10_go_390 (fun ws H locs hw n_k_1 hF9 => ?_)
    have m_z0_3 := FLD.over hF9 m_z0_3 (by decide)
    have m_z0_4 := FLD.over hF9 m_z0_4 (by decide)
    have m_z0_5 := FLD.over hF9 m_z0_5 (by decide)
    have m_z0_6 := FLD.over hF9 m_z0_6 (by decide)
    obtain ⟨sg_2, q_sg_2⟩ : ∃ q9 : OS, sI s0 7 y0 = q9 := ⟨_, rfl⟩
    have o_p0 : OV vw_M2 Ps ws p0 sg_2 := by rw [← q_sg_2]; exact OV.putI (V := vw_M2) hF9 n_k_1 o_p0 (by decide)
    simp only [f_X10_go__2_390, ↓reduceIte, q_z0_3, q_z0_4, q_z0_5, q_z0_6, q_sg_2] at hE
    subst hQ
    exact W.vret hx hb hr (fun t ht hW => ⟨⟨ws, rfl, ⟨⟨⟨(by rw [hR, ← hE]; exact o_p0), trivial⟩, trivial⟩, hw.1, hw.2.2.2.2.1⟩, by rw [ht]; exact hw.2.1, va_K.moved hW.alike hK, hw.2.2.1⟩, hw.2.2.2.1.F ht⟩) hw.2.2.2.1.2.2 dX10_go_393
  have B377 : ∀ (x1 : Int32) (x2 : Int32) (x3 : Int32) (z0_3 : Int32) (z0_4 : Int32) (z0_5 : Int32) (z0_6 : Int32) (s0 : OS) (ws : va_W) (H : Heap) (locs : List Loc) (ls : Array Slot), RI x1 48 122 → RI x2 0 1 → RI x3 0 1 → RI z0_3 1 940 → FLD ws p0 10 3 (.int z0_3) → RI z0_4 0 2147483647 → FLD ws p0 10 4 (.int z0_4) → RI z0_5 0 940 → FLD ws p0 10 5 (.int z0_5) → RI z0_6 0 940 → FLD ws p0 10 6 (.int z0_6) → OV vw_M2 Ps ws p0 s0 → f_X10_go__2_377 x1 x2 x3 s0 = R9 → WD D cy GG A s wr_X10_go__4 wa_X10_go__4 Ps w0 Ps ws H locs → lv_has ls 5 [(0, .ref p0), (1, .int x1), (2, .int x2), (3, .int x3)] → W p l e (headSpec (Cond.code yX10_go cX10_go 5 none :: gT) ({ frames := 2, cells := 0, slots := 0, locals := 400 } : Room)).room s m ([.ref p0] : List Value).toArray below meth c H locs 0 0 Q (F0 m 377 ls [.ref p0]) := by
    intro x1 x2 x3 z0_3 z0_4 z0_5 z0_6 s0 ws H locs ls r_x1 r_x2 r_x3 r_z0_3 m_z0_3 r_z0_4 m_z0_4 r_z0_5 m_z0_5 r_z0_6 m_z0_6 o_p0 hE hw hl
    have q_z0_3 : s0.1 3 = z0_3 := OV.eqI (V := vw_M2) hw.2.2.1 o_p0 m_z0_3 (by decide)
    have q_z0_4 : s0.1 4 = z0_4 := OV.eqI (V := vw_M2) hw.2.2.1 o_p0 m_z0_4 (by decide)
    have q_z0_5 : s0.1 5 = z0_5 := OV.eqI (V := vw_M2) hw.2.2.1 o_p0 m_z0_5 (by decide)
    have q_z0_6 : s0.1 6 = z0_6 := OV.eqI (V := vw_M2) hw.2.2.1 o_p0 m_z0_6 (by decide)
    refine lv_iconst (v := 1) hx hb dX10_go_377 (by decide) ?_
    refine lv_goto (tgt := 390) hx hb dX10_go_378 (by decide) ?_
    simp only [f_X10_go__2_377, ↓reduceIte, q_z0_3, q_z0_4, q_z0_5, q_z0_6] at hE
    exact B390 x1 x2 x3 1 z0_3 z0_4 z0_5 z0_6 s0 ws _ _ ls r_x1 r_x2 r_x3 (rl_1.to (by decide)) r_z0_3 m_z0_3 r_z0_4 m_z0_4 r_z0_5 m_z0_5 r_z0_6 m_z0_6 o_p0 hE hw hl
  have B374 : ∀ (x1 : Int32) (x2 : Int32) (x3 : Int32) (y0 : Int32) (y1 : Int32) (z0_3 : Int32) (z0_4 : Int32) (z0_5 : Int32) (z0_6 : Int32) (s0 : OS) (ws : va_W) (H : Heap) (locs : List Loc) (ls : Array Slot), RI x1 48 122 → RI x2 0 1 → RI x3 1 1 → RI y0 3 7 → RI y1 (-940) 940 → RI z0_3 1 940 → FLD ws p0 10 3 (.int z0_3) → RI z0_4 0 2147483647 → FLD ws p0 10 4 (.int z0_4) → RI z0_5 0 940 → FLD ws p0 10 5 (.int z0_5) → RI z0_6 0 940 → FLD ws p0 10 6 (.int z0_6) → OV vw_M2 Ps ws p0 s0 → f_X10_go__2_374 x1 x2 x3 y0 y1 s0 = R9 → WD D cy GG A s wr_X10_go__4 wa_X10_go__4 Ps w0 Ps ws H locs → lv_has ls 5 [(0, .ref p0), (1, .int x1), (2, .int x2), (3, .int x3)] → W p l e (headSpec (Cond.code yX10_go cX10_go 5 none :: gT) ({ frames := 2, cells := 0, slots := 0, locals := 400 } : Room)).room s m ([.ref p0] : List Value).toArray below meth c H locs 0 0 Q (F0 m 374 ls [.int y0, .int y1, .ref p0]) := by
    intro x1 x2 x3 y0 y1 z0_3 z0_4 z0_5 z0_6 s0 ws H locs ls r_x1 r_x2 r_x3 r_y0 r_y1 r_z0_3 m_z0_3 r_z0_4 m_z0_4 r_z0_5 m_z0_5 r_z0_6 m_z0_6 o_p0 hE hw hl
    have q_z0_3 : s0.1 3 = z0_3 := OV.eqI (V := vw_M2) hw.2.2.1 o_p0 m_z0_3 (by decide)
    have q_z0_4 : s0.1 4 = z0_4 := OV.eqI (V := vw_M2) hw.2.2.1 o_p0 m_z0_4 (by decide)
    have q_z0_5 : s0.1 5 = z0_5 := OV.eqI (V := vw_M2) hw.2.2.1 o_p0 m_z0_5 (by decide)
    have q_z0_6 : s0.1 6 = z0_6 := OV.eqI (V := vw_M2) hw.2.2.1 o_p0 m_z0_6 (by decide)
    refine lv_icmp_le (tgt := 381) hx hb dX10_go_374 (by decide) (fun c_374 => ?_) (fun c_374 => ?_)
    · have r_y1 : RI y1 (-940) 7 := rc_le1 r_y1 r_y0 (ti_le c_374) (by decide)
      refine lv_iload_n hx hb dX10_go_381 rfl (lv_at hl 2 rfl) ?_
      refine lv_if_eq (tgt := 389) hx hb dX10_go_382 (by decide) (fun c_382 => ?_) (fun c_382 => ?_)
      · have r_x2 : RI x2 0 0 := rc_eq1 r_x2 rl_0 (ti_eq c_382) (by decide)
        refine lv_iconst (v := 3) hx hb dX10_go_389 (by decide) ?_
        simp only [f_X10_go__2_374, ↓reduceIte, q_z0_3, q_z0_4, q_z0_5, q_z0_6, eq_true c_374, eq_true c_382] at hE
        exact B390 x1 x2 x3 3 z0_3 z0_4 z0_5 z0_6 s0 ws _ _ ls r_x1 (r_x2.to (by decide)) (r_x3.to (by decide)) (rl_3.to (by decide)) r_z0_3 m_z0_3 r_z0_4 m_z0_4 r_z0_5 m_z0_5 r_z0_6 m_z0_6 o_p0 hE hw hl
      · have r_x2 : RI x2 1 1 := rc_neL r_x2 rl_0 (ti_ne c_382) (by decide)
        refine lv_iconst (v := 2) hx hb dX10_go_385 (by decide) ?_
        refine lv_goto (tgt := 390) hx hb dX10_go_386 (by decide) ?_
        simp only [f_X10_go__2_374, ↓reduceIte, q_z0_3, q_z0_4, q_z0_5, q_z0_6, eq_true c_374, eq_false c_382] at hE
        exact B390 x1 x2 x3 2 z0_3 z0_4 z0_5 z0_6 s0 ws _ _ ls r_x1 (r_x2.to (by decide)) (r_x3.to (by decide)) (rl_2.to (by decide)) r_z0_3 m_z0_3 r_z0_4 m_z0_4 r_z0_5 m_z0_5 r_z0_6 m_z0_6 o_p0 hE hw hl
    · have r_y1 : RI y1 4 940 := rc_lt2 r_y0 r_y1 (ti_nle c_374) (by decide)
      simp only [f_X10_go__2_374, ↓reduceIte, q_z0_3, q_z0_4, q_z0_5, q_z0_6, eq_false c_374] at hE
      exact B377 x1 x2 x3 z0_3 z0_4 z0_5 z0_6 s0 ws _ _ ls r_x1 r_x2 (r_x3.to (by decide)) r_z0_3 m_z0_3 r_z0_4 m_z0_4 r_z0_5 m_z0_5 r_z0_6 m_z0_6 o_p0 hE hw hl
  have B215 : ∀ (nf : Nat) (x1 : Int32) (x2 : Int32) (x3 : Int32) (z0_3 : Int32) (z0_4 : Int32) (z0_5 : Int32) (z0_6 : Int32) (s0 : OS) (ws : va_W) (H : Heap) (locs : List Loc) (ls : Array Slot), 940 - z0_5.toInt < (nf : Int) → RI x1 48 122 → RI x2 0 1 → RI x3 0 1 → RI z0_3 1 940 → FLD ws p0 10 3 (.int z0_3) → RI z0_4 0 2147483647 → FLD ws p0 10 4 (.int z0_4) → RI z0_5 0 940 → FLD ws p0 10 5 (.int z0_5) → RI z0_6 0 940 → FLD ws p0 10 6 (.int z0_6) → OV vw_M2 Ps ws p0 s0 → f_X10_go__2_215 nf x1 x2 x3 s0 = R9 → WD D cy GG A s wr_X10_go__4 wa_X10_go__4 Ps w0 Ps ws H locs → lv_has ls 5 [(0, .ref p0), (1, .int x1), (2, .int x2), (3, .int x3)] → W p l e (headSpec (Cond.code yX10_go cX10_go 5 none :: gT) ({ frames := 2, cells := 0, slots := 0, locals := 400 } : Room)).room s m ([.ref p0] : List Value).toArray below meth c H locs 0 0 Q (F0 m 215 ls []) := by
    intro nf215
    induction nf215 with
    | zero =>
      intro x1 x2 x3 z0_3 z0_4 z0_5 z0_6 s0 ws H locs ls hn215 r_x1 r_x2 r_x3 r_z0_3 m_z0_3 r_z0_4 m_z0_4 r_z0_5 m_z0_5 r_z0_6 m_z0_6 o_p0 hE hw hl
      exact absurd hn215 (by have q0 := r_z0_5.1; have u0 := r_z0_5.2; omega)
    | succ nf215 ih215 =>
      have B337 : ∀ (x1 : Int32) (x2 : Int32) (x3 : Int32) (x4 : Int32) (z0_3 : Int32) (z0_4 : Int32) (z0_5 : Int32) (z0_6 : Int32) (s0 : OS) (ws : va_W) (H : Heap) (locs : List Loc) (ls : Array Slot), RI x1 48 122 → RI x2 0 1 → RI x3 0 1 → RI x4 0 255 → RI z0_3 1 940 → FLD ws p0 10 3 (.int z0_3) → RI z0_4 0 2147483647 → FLD ws p0 10 4 (.int z0_4) → RI z0_5 0 939 → FLD ws p0 10 5 (.int z0_5) → RI z0_6 0 940 → FLD ws p0 10 6 (.int z0_6) → OV vw_M2 Ps ws p0 s0 → 940 - z0_5.toInt < ((nf215 + 1 : Nat) : Int) → f_X10_go__2_337 (f_X10_go__2_215 nf215) x1 x2 x3 x4 s0 = R9 → WD D cy GG A s wr_X10_go__4 wa_X10_go__4 Ps w0 Ps ws H locs → lv_has ls 5 [(0, .ref p0), (1, .int x1), (2, .int x2), (3, .int x3), (4, .int x4)] → W p l e (headSpec (Cond.code yX10_go cX10_go 5 none :: gT) ({ frames := 2, cells := 0, slots := 0, locals := 400 } : Room)).room s m ([.ref p0] : List Value).toArray below meth c H locs 0 0 Q (F0 m 337 ls []) := by
        intro x1 x2 x3 x4 z0_3 z0_4 z0_5 z0_6 s0 ws H locs ls r_x1 r_x2 r_x3 r_x4 r_z0_3 m_z0_3 r_z0_4 m_z0_4 r_z0_5 m_z0_5 r_z0_6 m_z0_6 o_p0 hn215 hE hw hl
        have q_z0_3 : s0.1 3 = z0_3 := OV.eqI (V := vw_M2) hw.2.2.1 o_p0 m_z0_3 (by decide)
        have q_z0_4 : s0.1 4 = z0_4 := OV.eqI (V := vw_M2) hw.2.2.1 o_p0 m_z0_4 (by decide)
        have q_z0_5 : s0.1 5 = z0_5 := OV.eqI (V := vw_M2) hw.2.2.1 o_p0 m_z0_5 (by decide)
        have q_z0_6 : s0.1 6 = z0_6 := OV.eqI (V := vw_M2) hw.2.2.1 o_p0 m_z0_6 (by decide)
        refine lv_aload_n hx hb dX10_go_337 rfl (lv_at hl 0 rfl) ?_
        refine lv_dup hx hb dX10_go_338 rfl ?_
        refine tg_mem (ci := 10) (C := RX10) (T := TX10) (N := 49) hx hb hts inX10 hown hK hw 5 m_z0_5 rfl (by decide) (hts _ tw_1142) (fun _ h9 => h9) dX10_go_339 ?_
        refine lv_iconst (v := 1) hx hb dX10_go_342 (by decide) ?_
        refine lv_iadd hx hb dX10_go_343 (lv_topi (fun v_3 e_v_3 => ?_))
        obtain ⟨t_v_3, r_v_3⟩ := tq_add (lo := 1) (hi := 940) r_z0_5 rl_1 (by decide +kernel) e_v_3
        have t_v_3 : v_3.toInt = z0_5.toInt + 1 := t_v_3
        have q_v_3 : z0_5 + (1 : Int32) = v_3 := e_v_3.symm
        refine tg_put (ci := 10) (ts := ty_MODEL) (v := .int v_3) (ty := .int) (C := RX10) (T := TX10) (N := 49) hx hb hts inX10 tyX10 tyX10_ok nmX10 hown hK hw h_p0 rfl rfl 5 (by decide) (hts _ tw_1142) (fun _ h9 => h9) rfl (by decide +kernel) rfl rfl (ft := vI 0 940) rfl ⟨_, rfl, (r_v_3.to (by decide))⟩ (by decide) dX10_go_344 (fun ws H locs hw n_k_4 hF9 => ?_)
        have m_z0_3 := FLD.over hF9 m_z0_3 (by decide)
        have m_z0_4 := FLD.over hF9 m_z0_4 (by decide)
        have m_z0_6 := FLD.over hF9 m_z0_6 (by decide)
        obtain ⟨sg_5, q_sg_5⟩ : ∃ q9 : OS, sI s0 5 v_3 = q9 := ⟨_, rfl⟩
        have o_p0 : OV vw_M2 Ps ws p0 sg_5 := by rw [← q_sg_5]; exact OV.putI (V := vw_M2) hF9 n_k_4 o_p0 (by decide)
        refine lv_goto (tgt := 215) hx hb dX10_go_347 (by decide) ?_
        simp only [f_X10_go__2_337, ↓reduceIte, q_z0_3, q_z0_4, q_z0_5, q_z0_6, q_v_3, q_sg_5] at hE
        exact ih215 x1 x2 x3 z0_3 z0_4 v_3 z0_6 sg_5 ws _ _ ls (by have q0 := r_v_3.1; have u0 := r_v_3.2; have o0 := r_z0_5.1; have p0 := r_z0_5.2; omega) r_x1 r_x2 r_x3 r_z0_3 m_z0_3 r_z0_4 m_z0_4 (r_v_3.to (by decide)) n_k_4 r_z0_6 m_z0_6 o_p0 hE hw (lv_sub hl [0, 1, 2, 3] rfl)
      have B307 : ∀ (x1 : Int32) (x2 : Int32) (x3 : Int32) (x4 : Int32) (z0_3 : Int32) (z0_4 : Int32) (z0_5 : Int32) (z0_6 : Int32) (s0 : OS) (ws : va_W) (H : Heap) (locs : List Loc) (ls : Array Slot), RI x1 48 122 → RI x2 0 1 → RI x3 0 1 → RI x4 0 255 → RI z0_3 1 940 → FLD ws p0 10 3 (.int z0_3) → RI z0_4 0 2147483647 → FLD ws p0 10 4 (.int z0_4) → RI z0_5 0 939 → FLD ws p0 10 5 (.int z0_5) → RI z0_6 0 940 → FLD ws p0 10 6 (.int z0_6) → OV vw_M2 Ps ws p0 s0 → 940 - z0_5.toInt < ((nf215 + 1 : Nat) : Int) → f_X10_go__2_307 (f_X10_go__2_215 nf215) x1 x2 x3 x4 s0 = R9 → WD D cy GG A s wr_X10_go__4 wa_X10_go__4 Ps w0 Ps ws H locs → lv_has ls 5 [(0, .ref p0), (1, .int x1), (2, .int x2), (3, .int x3), (4, .int x4)] → W p l e (headSpec (Cond.code yX10_go cX10_go 5 none :: gT) ({ frames := 2, cells := 0, slots := 0, locals := 400 } : Room)).room s m ([.ref p0] : List Value).toArray below meth c H locs 0 0 Q (F0 m 307 ls []) := by
        intro x1 x2 x3 x4 z0_3 z0_4 z0_5 z0_6 s0 ws H locs ls r_x1 r_x2 r_x3 r_x4 r_z0_3 m_z0_3 r_z0_4 m_z0_4 r_z0_5 m_z0_5 r_z0_6 m_z0_6 o_p0 hn215 hE hw hl
        have q_z0_3 : s0.1 3 = z0_3 := OV.eqI (V := vw_M2) hw.2.2.1 o_p0 m_z0_3 (by decide)
        have q_z0_4 : s0.1 4 = z0_4 := OV.eqI (V := vw_M2) hw.2.2.1 o_p0 m_z0_4 (by decide)
        have q_z0_5 : s0.1 5 = z0_5 := OV.eqI (V := vw_M2) hw.2.2.1 o_p0 m_z0_5 (by decide)
        have q_z0_6 : s0.1 6 = z0_6 := OV.eqI (V := vw_M2) hw.2.2.1 o_p0 m_z0_6 (by decide)
        refine lv_aload_n hx hb dX10_go_307 rfl (lv_at hl 0 rfl) ?_
        refine tg_mem (ci := 10) (C := RX10) (T := TX10) (N := 49) hx hb hts inX10 hown hK hw 5 m_z0_5 rfl (by decide) (hts _ tw_1142) (fun _ h9 => h9) dX10_go_308 ?_
        refine lv_aload_n hx hb dX10_go_311 rfl (lv_at hl 0 rfl) ?_
        refine tg_mem (ci := 10) (C := RX10) (T := TX10) (N := 49) hx hb hts inX10 hown hK hw 6 m_z0_6 rfl (by decide) (hts _ tw_1143) (fun _ h9 => h9) dX10_go_312 ?_
        refine lv_isub hx hb dX10_go_315 (lv_topi (fun v_6 e_v_6 => ?_))
        obtain ⟨t_v_6, r_v_6⟩ := tq_sub (lo := (-940)) (hi := 939) r_z0_5 r_z0_6 (by decide +kernel) e_v_6
        have q_v_6 : z0_5 - z0_6 = v_6 := e_v_6.symm
        refine lv_iconst (v := 3) hx hb dX10_go_316 (by decide) ?_
        refine lv_icmp_ge (tgt := 337) hx hb dX10_go_317 (by decide) (fun c_317 => ?_) (fun c_317 => ?_)
        · have r_v_6 : RI v_6 3 939 := rc_le2 rl_3 r_v_6 (ti_le c_317) (by decide)
          simp only [f_X10_go__2_307, ↓reduceIte, q_z0_3, q_z0_4, q_z0_5, q_z0_6, q_v_6, eq_true c_317] at hE
          exact B337 x1 x2 x3 x4 z0_3 z0_4 z0_5 z0_6 s0 ws _ _ ls r_x1 r_x2 r_x3 r_x4 r_z0_3 m_z0_3 r_z0_4 m_z0_4 r_z0_5 m_z0_5 r_z0_6 m_z0_6 o_p0 (by have q0 := r_z0_5.1; have u0 := r_z0_5.2; omega) hE hw hl
        · have r_v_6 : RI v_6 (-940) 2 := rc_lt1 r_v_6 rl_3 (ti_nle c_317) (by decide)
          refine lv_aload_n hx hb dX10_go_320 rfl (lv_at hl 0 rfl) ?_
          refine lv_bipush (v := 10) hx hb dX10_go_321 (by decide) ?_
          refine lv_aload_n hx hb dX10_go_323 rfl (lv_at hl 0 rfl) ?_
          refine tg_get (ci := 10) (ts := ty_MODEL) (C := RX10) (T := TX10) (N := 49) hx hb hts inX10 hown hK hw h_p0 rfl rfl 8 (by decide) (hts _ tw_1145) (fun _ h9 => h9) (ft := vI (-2147483648) 2147483647) rfl dX10_go_324 (fun u_7 hv_u_7 m_u_7 => ?_)
          obtain ⟨vu_7, rfl, r_vu_7⟩ := hv_u_7
          have q_vu_7 : s0.1 8 = vu_7 := OV.eqI (V := vw_M2) hw.2.2.1 o_p0 m_u_7 (by decide)
          refine lv_imul hx hb dX10_go_327 (lv_topi (fun v_8 e_v_8 => ?_))
          have r_v_8 := ri_any v_8
          have q_v_8 : (10 : Int32) * vu_7 = v_8 := e_v_8.symm
          refine lv_iload hx hb dX10_go_328 (lv_at hl 4 rfl) ?_
          refine lv_iadd hx hb dX10_go_330 (lv_topi (fun v_9 e_v_9 => ?_))
          have r_v_9 := ri_any v_9
          have q_v_9 : v_8 + x4 = v_9 := e_v_9.symm
          refine lv_bipush (v := 48) hx hb dX10_go_331 (by decide) ?_
          refine lv_isub hx hb dX10_go_333 (lv_topi (fun v_10 e_v_10 => ?_))
          have r_v_10 := ri_any v_10
          have q_v_10 : v_9 - (48 : Int32) = v_10 := e_v_10.symm
          refine tg_put (ci := 10) (ts := ty_MODEL) (v := .int v_10) (ty := .int) (C := RX10) (T := TX10) (N := 49) hx hb hts inX10 tyX10 tyX10_ok nmX10 hown hK hw h_p0 rfl rfl 8 (by decide) (hts _ tw_1145) (fun _ h9 => h9) rfl (by decide +kernel) rfl rfl (ft := vI (-2147483648) 2147483647) rfl ⟨_, rfl, r_v_10⟩ (by decide) dX10_go_334 (fun ws H locs hw n_k_11 hF9 => ?_)
          have m_z0_3 := FLD.over hF9 m_z0_3 (by decide)
          have m_z0_4 := FLD.over hF9 m_z0_4 (by decide)
          have m_z0_5 := FLD.over hF9 m_z0_5 (by decide)
          have m_z0_6 := FLD.over hF9 m_z0_6 (by decide)
          obtain ⟨sg_12, q_sg_12⟩ : ∃ q9 : OS, sI s0 8 v_10 = q9 := ⟨_, rfl⟩
          have o_p0 : OV vw_M2 Ps ws p0 sg_12 := by rw [← q_sg_12]; exact OV.putI (V := vw_M2) hF9 n_k_11 o_p0 (by decide)
          simp only [f_X10_go__2_307, ↓reduceIte, q_z0_3, q_z0_4, q_z0_5, q_z0_6, q_v_6, eq_false c_317, q_vu_7, q_v_8, q_v_9, q_v_10, q_sg_12] at hE
          exact B337 x1 x2 x3 x4 z0_3 z0_4 z0_5 z0_6 sg_12 ws _ _ ls r_x1 r_x2 r_x3 r_x4 r_z0_3 m_z0_3 r_z0_4 m_z0_4 r_z0_5 m_z0_5 r_z0_6 m_z0_6 o_p0 (by have q0 := r_z0_5.1; have u0 := r_z0_5.2; omega) hE hw hl
      have B272 : ∀ (x1 : Int32) (x2 : Int32) (x3 : Int32) (x4 : Int32) (y0 : Int32) (z0_3 : Int32) (z0_4 : Int32) (z0_5 : Int32) (z0_6 : Int32) (s0 : OS) (ws : va_W) (H : Heap) (locs : List Loc) (ls : Array Slot), RI x1 48 122 → RI x2 0 1 → RI x3 0 1 → RI x4 0 255 → RI y0 0 1 → RI z0_3 1 940 → FLD ws p0 10 3 (.int z0_3) → RI z0_4 0 2147483647 → FLD ws p0 10 4 (.int z0_4) → RI z0_5 0 939 → FLD ws p0 10 5 (.int z0_5) → RI z0_6 0 940 → FLD ws p0 10 6 (.int z0_6) → OV vw_M2 Ps ws p0 s0 → 940 - z0_5.toInt < ((nf215 + 1 : Nat) : Int) → f_X10_go__2_272 (f_X10_go__2_215 nf215) x1 x2 x3 x4 y0 s0 = R9 → WD D cy GG A s wr_X10_go__4 wa_X10_go__4 Ps w0 Ps ws H locs → lv_has ls 5 [(0, .ref p0), (1, .int x1), (2, .int x2), (3, .int x3), (4, .int x4)] → W p l e (headSpec (Cond.code yX10_go cX10_go 5 none :: gT) ({ frames := 2, cells := 0, slots := 0, locals := 400 } : Room)).room s m ([.ref p0] : List Value).toArray below meth c H locs 0 0 Q (F0 m 272 ls [.int y0]) := by
        intro x1 x2 x3 x4 y0 z0_3 z0_4 z0_5 z0_6 s0 ws H locs ls r_x1 r_x2 r_x3 r_x4 r_y0 r_z0_3 m_z0_3 r_z0_4 m_z0_4 r_z0_5 m_z0_5 r_z0_6 m_z0_6 o_p0 hn215 hE hw hl
        have q_z0_3 : s0.1 3 = z0_3 := OV.eqI (V := vw_M2) hw.2.2.1 o_p0 m_z0_3 (by decide)
        have q_z0_4 : s0.1 4 = z0_4 := OV.eqI (V := vw_M2) hw.2.2.1 o_p0 m_z0_4 (by decide)
        have q_z0_5 : s0.1 5 = z0_5 := OV.eqI (V := vw_M2) hw.2.2.1 o_p0 m_z0_5 (by decide)
        have q_z0_6 : s0.1 6 = z0_6 := OV.eqI (V := vw_M2) hw.2.2.1 o_p0 m_z0_6 (by decide)
        refine lv_istore_n (lv' := [(3, .int y0), (0, .ref p0), (1, .int x1), (2, .int x2), (4, .int x4)]) hx hb dX10_go_272 rfl hl (by decide) rfl (fun ls hl => ?_)
        refine lv_aload_n hx hb dX10_go_273 rfl (lv_at hl 1 rfl) ?_
        refine tg_mem (ci := 10) (C := RX10) (T := TX10) (N := 49) hx hb hts inX10 hown hK hw 5 m_z0_5 rfl (by decide) (hts _ tw_1142) (fun _ h9 => h9) dX10_go_274 ?_
        refine lv_aload_n hx hb dX10_go_277 rfl (lv_at hl 1 rfl) ?_
        refine tg_mem (ci := 10) (C := RX10) (T := TX10) (N := 49) hx hb hts inX10 hown hK hw 6 m_z0_6 rfl (by decide) (hts _ tw_1143) (fun _ h9 => h9) dX10_go_278 ?_
        refine lv_isub hx hb dX10_go_281 (lv_topi (fun v_13 e_v_13 => ?_))
        obtain ⟨t_v_13, r_v_13⟩ := tq_sub (lo := (-940)) (hi := 939) r_z0_5 r_z0_6 (by decide +kernel) e_v_13
        have q_v_13 : z0_5 - z0_6 = v_13 := e_v_13.symm
        refine lv_bipush (v := 7) hx hb dX10_go_282 (by decide) ?_
        refine lv_icmp_ge (tgt := 307) hx hb dX10_go_284 (by decide) (fun c_284 => ?_) (fun c_284 => ?_)
        · have r_v_13 : RI v_13 7 939 := rc_le2 rl_7 r_v_13 (ti_le c_284) (by decide)
          simp only [f_X10_go__2_272, ↓reduceIte, q_z0_3, q_z0_4, q_z0_5, q_z0_6, q_v_13, eq_true c_284] at hE
          exact B307 x1 x2 y0 x4 z0_3 z0_4 z0_5 z0_6 s0 ws _ _ ls r_x1 r_x2 r_y0 r_x4 r_z0_3 m_z0_3 r_z0_4 m_z0_4 r_z0_5 m_z0_5 r_z0_6 m_z0_6 o_p0 (by have q0 := r_z0_5.1; have u0 := r_z0_5.2; omega) hE hw (lv_sub hl [1, 2, 3, 0, 4] rfl)
        · have r_v_13 : RI v_13 (-940) 6 := rc_lt1 r_v_13 rl_7 (ti_nle c_284) (by decide)
          refine lv_aload_n hx hb dX10_go_287 rfl (lv_at hl 1 rfl) ?_
          refine lv_ldc2 (v := 27) hx hb hown (hts _ tw_1312) dX10_go_288 ?_
          refine lv_aload_n hx hb dX10_go_291 rfl (lv_at hl 1 rfl) ?_
          refine tg_get (ci := 10) (ts := ty_MODEL) (C := RX10) (T := TX10) (N := 49) hx hb hts inX10 hown hK hw h_p0 rfl rfl 12 (by decide) (hts _ tw_1149) (fun _ h9 => h9) (ft := vJ (-9223372036854775808) 9223372036854775807) rfl dX10_go_292 (fun u_14 hv_u_14 m_u_14 => ?_)
          obtain ⟨vu_14, rfl, r_vu_14⟩ := hv_u_14
          have q_vu_14 : s0.2.1 12 = vu_14 := OV.eqL (V := vw_M2) hw.2.2.1 o_p0 m_u_14 (by decide)
          refine lv_lmul hx hb dX10_go_295 (lv_topl (fun w_15 e_w_15 => ?_))
          have r_w_15 := rj_any w_15
          have q_w_15 : (27 : Int64) * vu_14 = w_15 := e_w_15.symm
          refine lv_iload hx hb dX10_go_296 (lv_at hl 4 rfl) ?_
          obtain ⟨w_16, e_w_16⟩ : ∃ q9 : Int64, (x4 : Int32).toInt64 = q9 := ⟨_, rfl⟩
          refine lv_i2l (v := w_16) hx hb dX10_go_298 e_w_16 ?_
          have r_w_16 := tq_i2l r_x4 e_w_16
          have q_w_16 : Int32.toInt64 x4 = w_16 := e_w_16
          refine lv_ladd hx hb dX10_go_299 (lv_topl (fun w_17 e_w_17 => ?_))
          have r_w_17 := rj_any w_17
          have q_w_17 : w_15 + w_16 = w_17 := e_w_17.symm
          refine lv_ldc2 (v := 96) hx hb hown (hts _ tw_1313) dX10_go_300 ?_
          refine lv_lsub hx hb dX10_go_303 (lv_topl (fun w_18 e_w_18 => ?_))
          have r_w_18 := rj_any w_18
          have q_w_18 : w_17 - (96 : Int64) = w_18 := e_w_18.symm
          refine tg_put (ci := 10) (ts := ty_MODEL) (v := .long w_18) (ty := .long) (C := RX10) (T := TX10) (N := 49) hx hb hts inX10 tyX10 tyX10_ok nmX10 hown hK hw h_p0 rfl rfl 12 (by decide) (hts _ tw_1149) (fun _ h9 => h9) rfl (by decide +kernel) rfl rfl (ft := vJ (-9223372036854775808) 9223372036854775807) rfl ⟨_, rfl, r_w_18.to (by decide)⟩ (by decide) dX10_go_304 (fun ws H locs hw n_k_19 hF9 => ?_)
          have m_z0_3 := FLD.over hF9 m_z0_3 (by decide)
          have m_z0_4 := FLD.over hF9 m_z0_4 (by decide)
          have m_z0_5 := FLD.over hF9 m_z0_5 (by decide)
          have m_z0_6 := FLD.over hF9 m_z0_6 (by decide)
          obtain ⟨sg_20, q_sg_20⟩ : ∃ q9 : OS, sL s0 12 w_18 = q9 := ⟨_, rfl⟩
          have o_p0 : OV vw_M2 Ps ws p0 sg_20 := by rw [← q_sg_20]; exact OV.putL (V := vw_M2) hF9 n_k_19 o_p0 (by decide)
          simp only [f_X10_go__2_272, ↓reduceIte, q_z0_3, q_z0_4, q_z0_5, q_z0_6, q_v_13, eq_false c_284, q_vu_14, q_w_15, q_w_16, q_w_17, q_w_18, q_sg_20] at hE
          exact B307 x1 x2 y0 x4 z0_3 z0_4 z0_5 z0_6 sg_20 ws _ _ ls r_x1 r_x2 r_y0 r_x4 r_z0_3 m_z0_3 r_z0_4 m_z0_4 r_z0_5 m_z0_5 r_z0_6 m_z0_6 o_p0 (by have q0 := r_z0_5.1; have u0 := r_z0_5.2; omega) hE hw (lv_sub hl [1, 2, 3, 0, 4] rfl)
      have B271 : ∀ (x1 : Int32) (x2 : Int32) (x3 : Int32) (x4 : Int32) (z0_3 : Int32) (z0_4 : Int32) (z0_5 : Int32) (z0_6 : Int32) (s0 : OS) (ws : va_W) (H : Heap) (locs : List Loc) (ls : Array Slot), RI x1 48 122 → RI x2 0 1 → RI x3 0 1 → RI x4 0 255 → RI z0_3 1 940 → FLD ws p0 10 3 (.int z0_3) → RI z0_4 0 2147483647 → FLD ws p0 10 4 (.int z0_4) → RI z0_5 0 939 → FLD ws p0 10 5 (.int z0_5) → RI z0_6 0 940 → FLD ws p0 10 6 (.int z0_6) → OV vw_M2 Ps ws p0 s0 → 940 - z0_5.toInt < ((nf215 + 1 : Nat) : Int) → f_X10_go__2_271 (f_X10_go__2_215 nf215) x1 x2 x3 x4 s0 = R9 → WD D cy GG A s wr_X10_go__4 wa_X10_go__4 Ps w0 Ps ws H locs → lv_has ls 5 [(0, .ref p0), (1, .int x1), (2, .int x2), (3, .int x3), (4, .int x4)] → W p l e (headSpec (Cond.code yX10_go cX10_go 5 none :: gT) ({ frames := 2, cells := 0, slots := 0, locals := 400 } : Room)).room s m ([.ref p0] : List Value).toArray below meth c H locs 0 0 Q (F0 m 271 ls []) := by
        intro x1 x2 x3 x4 z0_3 z0_4 z0_5 z0_6 s0 ws H locs ls r_x1 r_x2 r_x3 r_x4 r_z0_3 m_z0_3 r_z0_4 m_z0_4 r_z0_5 m_z0_5 r_z0_6 m_z0_6 o_p0 hn215 hE hw hl
        have q_z0_3 : s0.1 3 = z0_3 := OV.eqI (V := vw_M2) hw.2.2.1 o_p0 m_z0_3 (by decide)
        have q_z0_4 : s0.1 4 = z0_4 := OV.eqI (V := vw_M2) hw.2.2.1 o_p0 m_z0_4 (by decide)
        have q_z0_5 : s0.1 5 = z0_5 := OV.eqI (V := vw_M2) hw.2.2.1 o_p0 m_z0_5 (by decide)
        have q_z0_6 : s0.1 6 = z0_6 := OV.eqI (V := vw_M2) hw.2.2.1 o_p0 m_z0_6 (by decide)
        refine lv_iconst (v := 0) hx hb dX10_go_271 (by decide) ?_
        simp only [f_X10_go__2_271, ↓reduceIte, q_z0_3, q_z0_4, q_z0_5, q_z0_6] at hE
        exact B272 x1 x2 x3 x4 0 z0_3 z0_4 z0_5 z0_6 s0 ws _ _ ls r_x1 r_x2 r_x3 r_x4 (rl_0.to (by decide)) r_z0_3 m_z0_3 r_z0_4 m_z0_4 r_z0_5 m_z0_5 r_z0_6 m_z0_6 o_p0 (by have q0 := r_z0_5.1; have u0 := r_z0_5.2; omega) hE hw hl
      have B243 : ∀ (x1 : Int32) (x2 : Int32) (x3 : Int32) (z0_3 : Int32) (z0_4 : Int32) (z0_5 : Int32) (z0_6 : Int32) (s0 : OS) (ws : va_W) (H : Heap) (locs : List Loc) (ls : Array Slot), RI x1 48 122 → RI x2 0 1 → RI x3 0 1 → RI z0_3 1 940 → FLD ws p0 10 3 (.int z0_3) → RI z0_4 0 2147483647 → FLD ws p0 10 4 (.int z0_4) → RI z0_5 0 939 → FLD ws p0 10 5 (.int z0_5) → RI z0_6 0 940 → FLD ws p0 10 6 (.int z0_6) → OV vw_M2 Ps ws p0 s0 → 940 - z0_5.toInt < ((nf215 + 1 : Nat) : Int) → f_X10_go__2_243 (f_X10_go__2_215 nf215) x1 x2 x3 s0 = R9 → WD D cy GG A s wr_X10_go__4 wa_X10_go__4 Ps w0 Ps ws H locs → lv_has ls 5 [(0, .ref p0), (1, .int x1), (2, .int x2), (3, .int x3)] → W p l e (headSpec (Cond.code yX10_go cX10_go 5 none :: gT) ({ frames := 2, cells := 0, slots := 0, locals := 400 } : Room)).room s m ([.ref p0] : List Value).toArray below meth c H locs 0 0 Q (F0 m 243 ls []) := by
        intro x1 x2 x3 z0_3 z0_4 z0_5 z0_6 s0 ws H locs ls r_x1 r_x2 r_x3 r_z0_3 m_z0_3 r_z0_4 m_z0_4 r_z0_5 m_z0_5 r_z0_6 m_z0_6 o_p0 hn215 hE hw hl
        have q_z0_3 : s0.1 3 = z0_3 := OV.eqI (V := vw_M2) hw.2.2.1 o_p0 m_z0_3 (by decide)
        have q_z0_4 : s0.1 4 = z0_4 := OV.eqI (V := vw_M2) hw.2.2.1 o_p0 m_z0_4 (by decide)
        have q_z0_5 : s0.1 5 = z0_5 := OV.eqI (V := vw_M2) hw.2.2.1 o_p0 m_z0_5 (by decide)
        have q_z0_6 : s0.1 6 = z0_6 := OV.eqI (V := vw_M2) hw.2.2.1 o_p0 m_z0_6 (by decide)
        refine lv_aload_n hx hb dX10_go_243 rfl (lv_at hl 0 rfl) ?_
        refine tg_get (ci := 10) (ts := ty_MODEL) (C := RX10) (T := TX10) (N := 49) hx hb hts inX10 hown hK hw h_p0 rfl rfl 1 (by decide) (hts _ tw_1138) (fun _ h9 => h9) (ft := vR 40) rfl dX10_go_244 (fun u_21 hv_u_21 m_u_21 => ?_)
        obtain ⟨vu_21, rfl, h_vu_21⟩ := hv_u_21
        refine lv_aload_n hx hb dX10_go_247 rfl (lv_at hl 0 rfl) ?_
        refine tg_mem (ci := 10) (C := RX10) (T := TX10) (N := 49) hx hb hts inX10 hown hK hw 5 m_z0_5 rfl (by decide) (hts _ tw_1142) (fun _ h9 => h9) dX10_go_248 ?_
        refine tg_iald (lo := 0) (hi := 255) hx hb hK hw h_vu_21 rfl 0 939 r_z0_5 (by decide) (by exact fun _ _ _ => ⟨Int.le_refl _, Int.le_refl _⟩) dX10_go_251 (fun v_22 r_v_22 m_v_22 o_v_22 => ?_)
        have q_v_22 : s0.2.2.1 1 (Int32.toNatClampNeg z0_5) = v_22 := OV.eqA (V := vw_M2) (t := 40) hw.2.2.1 o_p0 m_u_21 m_v_22 (by decide)
        refine lv_istore (lv' := [(4, .int v_22), (0, .ref p0), (1, .int x1), (2, .int x2), (3, .int x3)]) hx hb dX10_go_252 hl (by decide) rfl (fun ls hl => ?_)
        refine lv_iload_n hx hb dX10_go_254 rfl (lv_at hl 4 rfl) ?_
        refine lv_if_eq (tgt := 271) hx hb dX10_go_255 (by decide) (fun c_255 => ?_) (fun c_255 => ?_)
        · have r_x3 : RI x3 0 0 := rc_eq1 r_x3 rl_0 (ti_eq c_255) (by decide)
          simp only [f_X10_go__2_243, ↓reduceIte, q_z0_3, q_z0_4, q_z0_5, q_z0_6, q_v_22, eq_true c_255] at hE
          exact B271 x1 x2 x3 v_22 z0_3 z0_4 z0_5 z0_6 s0 ws _ _ ls r_x1 r_x2 (r_x3.to (by decide)) r_v_22 r_z0_3 m_z0_3 r_z0_4 m_z0_4 r_z0_5 m_z0_5 r_z0_6 m_z0_6 o_p0 (by have q0 := r_z0_5.1; have u0 := r_z0_5.2; omega) hE hw (lv_sub hl [1, 2, 3, 4, 0] rfl)
        · have r_x3 : RI x3 1 1 := rc_neL r_x3 rl_0 (ti_ne c_255) (by decide)
          refine lv_iload hx hb dX10_go_258 (lv_at hl 0 rfl) ?_
          refine tk_ir (va_runS (As := [.int v_22]) (rest := []) ⟨hx, hb, hml, hown, hts⟩ (c_X10_isLetter__4 l D cy z H.size Ps ws hw.1 v_22 r_v_22) (va_cwS 1 hts (gS tw_1302 tw_1303 tw_15 tw_1304) rfl rfl rfl (by decide +kernel) ⟨Nat.le_of_ble_eq_true rfl, Nat.le_of_ble_eq_true rfl⟩) (tg_preS hw hK hSD hA) rfl rfl hl.1 rfl (lv_room (Nat.le_of_ble_eq_true rfl)) dX10_go_260 ⟨Nat.le_of_ble_eq_true rfl, Nat.le_of_ble_eq_true rfl⟩) hw hA (fun v_23  H locs hp_v_23 hw => ?_)
          obtain ⟨hfn, hp_v_23⟩ := hp_v_23
          have q_v_23 : (f_X10_isLetter__2 v_22) = v_23 := hfn.1
          have r_v_23 : RI v_23 0 1 := hp_v_23.1
          refine lv_iload_n hx hb dX10_go_263 rfl (lv_at hl 3 rfl) ?_
          refine lv_icmp_ne (tgt := 271) hx hb dX10_go_264 (by decide) (fun c_264 => ?_) (fun c_264 => ?_)
          · simp only [f_X10_go__2_243, ↓reduceIte, q_z0_3, q_z0_4, q_z0_5, q_z0_6, q_v_22, eq_false c_255, q_v_23, eq_false c_264] at hE
            exact B271 x1 x2 x3 v_22 z0_3 z0_4 z0_5 z0_6 s0 ws _ _ ls r_x1 r_x2 (r_x3.to (by decide)) r_v_22 r_z0_3 m_z0_3 r_z0_4 m_z0_4 r_z0_5 m_z0_5 r_z0_6 m_z0_6 o_p0 (by have q0 := r_z0_5.1; have u0 := r_z0_5.2; omega) hE hw (lv_sub hl [1, 2, 3, 4, 0] rfl)
          · refine lv_iconst (v := 1) hx hb dX10_go_267 (by decide) ?_
            refine lv_goto (tgt := 272) hx hb dX10_go_268 (by decide) ?_
            simp only [f_X10_go__2_243, ↓reduceIte, q_z0_3, q_z0_4, q_z0_5, q_z0_6, q_v_22, eq_false c_255, q_v_23, eq_true c_264] at hE
            exact B272 x1 x2 x3 v_22 1 z0_3 z0_4 z0_5 z0_6 s0 ws _ _ ls r_x1 r_x2 (r_x3.to (by decide)) r_v_22 (rl_1.to (by decide)) r_z0_3 m_z0_3 r_z0_4 m_z0_4 r_z0_5 m_z0_5 r_z0_6 m_z0_6 o_p0 (by have q0 := r_z0_5.1; have u0 := r_z0_5.2; omega) hE hw (lv_sub hl [1, 2, 3, 4, 0] rfl)
      intro x1 x2 x3 z0_3 z0_4 z0_5 z0_6 s0 ws H locs ls hn215 r_x1 r_x2 r_x3 r_z0_3 m_z0_3 r_z0_4 m_z0_4 r_z0_5 m_z0_5 r_z0_6 m_z0_6 o_p0 hE hw hl
      have q_z0_3 : s0.1 3 = z0_3 := OV.eqI (V := vw_M2) hw.2.2.1 o_p0 m_z0_3 (by decide)
      have q_z0_4 : s0.1 4 = z0_4 := OV.eqI (V := vw_M2) hw.2.2.1 o_p0 m_z0_4 (by decide)
      have q_z0_5 : s0.1 5 = z0_5 := OV.eqI (V := vw_M2) hw.2.2.1 o_p0 m_z0_5 (by decide)
      have q_z0_6 : s0.1 6 = z0_6 := OV.eqI (V := vw_M2) hw.2.2.1 o_p0 m_z0_6 (by decide)
      refine lv_aload_n hx hb dX10_go_215 rfl (lv_at hl 0 rfl) ?_
      refine lv_aload_n hx hb dX10_go_216 rfl (lv_at hl 0 rfl) ?_
      refine tg_mem (ci := 10) (C := RX10) (T := TX10) (N := 49) hx hb hts inX10 hown hK hw 5 m_z0_5 rfl (by decide) (hts _ tw_1142) (fun _ h9 => h9) dX10_go_217 ?_
      refine tk_ir (va_runV (As := [.int z0_5]) (rest := []) ⟨hx, hb, hml, hown, hts⟩ (c_X10_tapeAt__2 l D cy z H.size Ps ws hw.1 p0 z0_5 s0 h_p0 r_z0_5 o_p0) (cwV 1 hts (gV tw_1308 tw_1310 ts_41 tw_15 tw_1311) rfl rfl rfl (by decide +kernel) ⟨Nat.le_of_ble_eq_true rfl, Nat.le_of_ble_eq_true rfl⟩) (tg_preV hw hK hSD hA (ci := 10) (q := (RX10, TX10, 49)) rfl h_p0 rfl) rfl rfl hl.1 rfl (lv_room (Nat.le_of_ble_eq_true rfl)) dX10_go_220 ⟨Nat.le_of_ble_eq_true rfl, Nat.le_of_ble_eq_true rfl⟩) hw hA (fun v_24  H locs hp_v_24 hw => ?_)
      obtain ⟨hfn, hp_v_24⟩ := hp_v_24
      have q_v_24 : (f_X10_tapeAt__1 z0_5 s0) = v_24 := hfn.1
      have r_v_24 : RI v_24 0 255 := hp_v_24.1
      refine tk_ir (va_runS (As := [.int v_24]) (rest := []) ⟨hx, hb, hml, hown, hts⟩ (c_X10_isLetter__4 l D cy z H.size Ps ws hw.1 v_24 r_v_24) (va_cwS 1 hts (gS tw_1302 tw_1303 tw_15 tw_1304) rfl rfl rfl (by decide +kernel) ⟨Nat.le_of_ble_eq_true rfl, Nat.le_of_ble_eq_true rfl⟩) (tg_preS hw hK hSD hA) rfl rfl hl.1 rfl (lv_room (Nat.le_of_ble_eq_true rfl)) dX10_go_223 ⟨Nat.le_of_ble_eq_true rfl, Nat.le_of_ble_eq_true rfl⟩) hw hA (fun v_25  H locs hp_v_25 hw => ?_)
      obtain ⟨hfn, hp_v_25⟩ := hp_v_25
      have q_v_25 : (f_X10_isLetter__2 v_24) = v_25 := hfn.1
      have r_v_25 : RI v_25 0 1 := hp_v_25.1
      refine lv_if_ne (tgt := 243) hx hb dX10_go_226 (by decide) (fun c_226 => ?_) (fun c_226 => ?_)
      · have r_v_25 : RI v_25 1 1 := rc_neL r_v_25 rl_0 (ti_ne c_226) (by decide)
        have r_v_24 : RI v_24 97 122 := ((hp_v_25.2.2 c_226).1)
        have r_z0_5 : RI z0_5 0 939 := ((hp_v_24.2.2 (ri_ne0 r_v_24 (by decide))).1)
        simp only [f_X10_go__2_215, ↓reduceIte, q_z0_3, q_z0_4, q_z0_5, q_z0_6, q_v_24, q_v_25, eq_false c_226] at hE
        exact B243 x1 x2 x3 z0_3 z0_4 z0_5 z0_6 s0 ws _ _ ls r_x1 r_x2 r_x3 r_z0_3 m_z0_3 r_z0_4 m_z0_4 r_z0_5 m_z0_5 r_z0_6 m_z0_6 o_p0 (by have q0 := r_z0_5.1; have u0 := r_z0_5.2; omega) hE hw hl
      · have r_v_25 : RI v_25 0 0 := rc_eq1 r_v_25 rl_0 (ti_eq c_226) (by decide)
        refine lv_aload_n hx hb dX10_go_229 rfl (lv_at hl 0 rfl) ?_
        refine lv_aload_n hx hb dX10_go_230 rfl (lv_at hl 0 rfl) ?_
        refine tg_mem (ci := 10) (C := RX10) (T := TX10) (N := 49) hx hb hts inX10 hown hK hw 5 m_z0_5 rfl (by decide) (hts _ tw_1142) (fun _ h9 => h9) dX10_go_231 ?_
        refine tk_ir (va_runV (As := [.int z0_5]) (rest := []) ⟨hx, hb, hml, hown, hts⟩ (c_X10_tapeAt__2 l D cy z H.size Ps ws hw.1 p0 z0_5 s0 h_p0 r_z0_5 o_p0) (cwV 1 hts (gV tw_1308 tw_1310 ts_41 tw_15 tw_1311) rfl rfl rfl (by decide +kernel) ⟨Nat.le_of_ble_eq_true rfl, Nat.le_of_ble_eq_true rfl⟩) (tg_preV hw hK hSD hA (ci := 10) (q := (RX10, TX10, 49)) rfl h_p0 rfl) rfl rfl hl.1 rfl (lv_room (Nat.le_of_ble_eq_true rfl)) dX10_go_234 ⟨Nat.le_of_ble_eq_true rfl, Nat.le_of_ble_eq_true rfl⟩) hw hA (fun v_26  H locs hp_v_26 hw => ?_)
        obtain ⟨hfn, hp_v_26⟩ := hp_v_26
        have z9 : v_24 = v_26 := q_v_24.symm.trans (hfn.1)
        subst z9
        have r_v_24 : RI v_24 0 255 := hp_v_26.1
        refine tk_ir (va_runS (As := [.int v_24]) (rest := []) ⟨hx, hb, hml, hown, hts⟩ (c_X10_isDigit__2 l D cy z H.size Ps ws hw.1 v_24 r_v_24) (va_cwS 1 hts (gS tw_1305 tw_1306 tw_15 tw_1307) rfl rfl rfl (by decide +kernel) ⟨Nat.le_of_ble_eq_true rfl, Nat.le_of_ble_eq_true rfl⟩) (tg_preS hw hK hSD hA) rfl rfl hl.1 rfl (lv_room (Nat.le_of_ble_eq_true rfl)) dX10_go_237 ⟨Nat.le_of_ble_eq_true rfl, Nat.le_of_ble_eq_true rfl⟩) hw hA (fun v_27  H locs hp_v_27 hw => ?_)
        obtain ⟨hfn, hp_v_27⟩ := hp_v_27
        have q_v_27 : (f_X10_isDigit__1 v_24) = v_27 := hfn.1
        have r_v_27 : RI v_27 0 1 := hp_v_27.1
        refine lv_if_eq (tgt := 350) hx hb dX10_go_240 (by decide) (fun c_240 => ?_) (fun c_240 => ?_)
        · have r_v_27 : RI v_27 0 0 := rc_eq1 r_v_27 rl_0 (ti_eq c_240) (by decide)
          refine lv_aload_n hx hb dX10_go_350 rfl (lv_at hl 0 rfl) ?_
          refine lv_iload_n hx hb dX10_go_351 rfl (lv_at hl 3 rfl) ?_
          refine lv_if_eq (tgt := 377) hx hb dX10_go_352 (by decide) (fun c_352 => ?_) (fun c_352 => ?_)
          · have r_x3 : RI x3 0 0 := rc_eq1 r_x3 rl_0 (ti_eq c_352) (by decide)
            simp only [f_X10_go__2_215, ↓reduceIte, q_z0_3, q_z0_4, q_z0_5, q_z0_6, q_v_24, q_v_25, eq_true c_226, q_v_27, eq_true c_240, eq_true c_352] at hE
            exact B377 x1 x2 x3 z0_3 z0_4 z0_5 z0_6 s0 ws _ _ ls r_x1 r_x2 (r_x3.to (by decide)) r_z0_3 m_z0_3 r_z0_4 m_z0_4 r_z0_5 m_z0_5 r_z0_6 m_z0_6 o_p0 hE hw hl
          · have r_x3 : RI x3 1 1 := rc_neL r_x3 rl_0 (ti_ne c_352) (by decide)
            refine lv_aload_n hx hb dX10_go_355 rfl (lv_at hl 0 rfl) ?_
            refine tg_mem (ci := 10) (C := RX10) (T := TX10) (N := 49) hx hb hts inX10 hown hK hw 5 m_z0_5 rfl (by decide) (hts _ tw_1142) (fun _ h9 => h9) dX10_go_356 ?_
            refine lv_aload_n hx hb dX10_go_359 rfl (lv_at hl 0 rfl) ?_
            refine tg_mem (ci := 10) (C := RX10) (T := TX10) (N := 49) hx hb hts inX10 hown hK hw 6 m_z0_6 rfl (by decide) (hts _ tw_1143) (fun _ h9 => h9) dX10_go_360 ?_
            refine lv_isub hx hb dX10_go_363 (lv_topi (fun v_28 e_v_28 => ?_))
            obtain ⟨t_v_28, r_v_28⟩ := tq_sub (lo := (-940)) (hi := 940) r_z0_5 r_z0_6 (by decide +kernel) e_v_28
            have q_v_28 : z0_5 - z0_6 = v_28 := e_v_28.symm
            refine lv_iload_n hx hb dX10_go_364 rfl (lv_at hl 2 rfl) ?_
            refine lv_if_eq (tgt := 373) hx hb dX10_go_365 (by decide) (fun c_365 => ?_) (fun c_365 => ?_)
            · have r_x2 : RI x2 0 0 := rc_eq1 r_x2 rl_0 (ti_eq c_365) (by decide)
              refine lv_iconst (v := 3) hx hb dX10_go_373 (by decide) ?_
              simp only [f_X10_go__2_215, ↓reduceIte, q_z0_3, q_z0_4, q_z0_5, q_z0_6, q_v_24, q_v_25, eq_true c_226, q_v_27, eq_true c_240, eq_false c_352, q_v_28, eq_true c_365] at hE
              exact B374 x1 x2 x3 3 v_28 z0_3 z0_4 z0_5 z0_6 s0 ws _ _ ls r_x1 (r_x2.to (by decide)) r_x3 (rl_3.to (by decide)) r_v_28 r_z0_3 m_z0_3 r_z0_4 m_z0_4 r_z0_5 m_z0_5 r_z0_6 m_z0_6 o_p0 hE hw hl
            · have r_x2 : RI x2 1 1 := rc_neL r_x2 rl_0 (ti_ne c_365) (by decide)
              refine lv_bipush (v := 7) hx hb dX10_go_368 (by decide) ?_
              refine lv_goto (tgt := 374) hx hb dX10_go_370 (by decide) ?_
              simp only [f_X10_go__2_215, ↓reduceIte, q_z0_3, q_z0_4, q_z0_5, q_z0_6, q_v_24, q_v_25, eq_true c_226, q_v_27, eq_true c_240, eq_false c_352, q_v_28, eq_false c_365] at hE
              exact B374 x1 x2 x3 7 v_28 z0_3 z0_4 z0_5 z0_6 s0 ws _ _ ls r_x1 (r_x2.to (by decide)) r_x3 (rl_7.to (by decide)) r_v_28 r_z0_3 m_z0_3 r_z0_4 m_z0_4 r_z0_5 m_z0_5 r_z0_6 m_z0_6 o_p0 hE hw hl
        · have r_v_27 : RI v_27 1 1 := rc_neL r_v_27 rl_0 (ti_ne c_240) (by decide)
          have r_v_24 : RI v_24 48 57 := ((hp_v_27.2.2 c_240).1)
          have r_z0_5 : RI z0_5 0 939 := ((hp_v_26.2.2 (ri_ne0 r_v_24 (by decide))).1)
          simp only [f_X10_go__2_215, ↓reduceIte, q_z0_3, q_z0_4, q_z0_5, q_z0_6, q_v_24, q_v_25, eq_true c_226, q_v_27, eq_false c_240] at hE
          exact B243 x1 x2 x3 z0_3 z0_4 z0_5 z0_6 s0 ws _ _ ls r_x1 r_x2 r_x3 r_z0_3 m_z0_3 r_z0_4 m_z0_4 r_z0_5 m_z0_5 r_z0_6 m_z0_6 o_p0 (by have q0 := r_z0_5.1; have u0 := r_z0_5.2; omega) hE hw hl
  have B198 : ∀ (x1 : Int32) (z0_3 : Int32) (z0_4 : Int32) (z0_5 : Int32) (z0_6 : Int32) (s0 : OS) (ws : va_W) (H : Heap) (locs : List Loc) (ls : Array Slot), RI x1 48 122 → RI z0_3 1 940 → FLD ws p0 10 3 (.int z0_3) → RI z0_4 0 2147483647 → FLD ws p0 10 4 (.int z0_4) → RI z0_5 0 939 → FLD ws p0 10 5 (.int z0_5) → RI z0_6 0 940 → FLD ws p0 10 6 (.int z0_6) → OV vw_M2 Ps ws p0 s0 → f_X10_go__2_198 x1 s0 = R9 → WD D cy GG A s wr_X10_go__4 wa_X10_go__4 Ps w0 Ps ws H locs → lv_has ls 5 [(0, .ref p0), (1, .int x1)] → W p l e (headSpec (Cond.code yX10_go cX10_go 5 none :: gT) ({ frames := 2, cells := 0, slots := 0, locals := 400 } : Room)).room s m ([.ref p0] : List Value).toArray below meth c H locs 0 0 Q (F0 m 198 ls []) := by
    intro x1 z0_3 z0_4 z0_5 z0_6 s0 ws H locs ls r_x1 r_z0_3 m_z0_3 r_z0_4 m_z0_4 r_z0_5 m_z0_5 r_z0_6 m_z0_6 o_p0 hE hw hl
    have q_z0_3 : s0.1 3 = z0_3 := OV.eqI (V := vw_M2) hw.2.2.1 o_p0 m_z0_3 (by decide)
    have q_z0_4 : s0.1 4 = z0_4 := OV.eqI (V := vw_M2) hw.2.2.1 o_p0 m_z0_4 (by decide)
    have q_z0_5 : s0.1 5 = z0_5 := OV.eqI (V := vw_M2) hw.2.2.1 o_p0 m_z0_5 (by decide)
    have q_z0_6 : s0.1 6 = z0_6 := OV.eqI (V := vw_M2) hw.2.2.1 o_p0 m_z0_6 (by decide)
    refine lv_iload_n hx hb dX10_go_198 rfl (lv_at hl 1 rfl) ?_
    refine tk_ir (va_runS (As := [.int x1]) (rest := []) ⟨hx, hb, hml, hown, hts⟩ (c_X10_isLetter__5 l D cy z H.size Ps ws hw.1 x1 r_x1) (va_cwS 1 hts (gS tw_1302 tw_1303 tw_15 tw_1304) rfl rfl rfl (by decide +kernel) ⟨Nat.le_of_ble_eq_true rfl, Nat.le_of_ble_eq_true rfl⟩) (tg_preS hw hK hSD hA) rfl rfl hl.1 rfl (lv_room (Nat.le_of_ble_eq_true rfl)) dX10_go_199 ⟨Nat.le_of_ble_eq_true rfl, Nat.le_of_ble_eq_true rfl⟩) hw hA (fun v_29  H locs hp_v_29 hw => ?_)
    obtain ⟨hfn, hp_v_29⟩ := hp_v_29
    have q_v_29 : (f_X10_isLetter__3 x1) = v_29 := hfn.1
    have r_v_29 : RI v_29 0 1 := hp_v_29.1
    refine lv_istore_n (lv' := [(2, .int v_29), (0, .ref p0), (1, .int x1)]) hx hb dX10_go_202 rfl hl (by decide) rfl (fun ls hl => ?_)
    refine lv_iconst (v := 1) hx hb dX10_go_203 (by decide) ?_
    refine lv_istore_n (lv' := [(3, .int 1), (2, .int v_29), (0, .ref p0), (1, .int x1)]) hx hb dX10_go_204 rfl hl (by decide) rfl (fun ls hl => ?_)
    refine lv_aload_n hx hb dX10_go_205 rfl (lv_at hl 2 rfl) ?_
    refine lv_lconst (v := 0) hx hb dX10_go_206 (by decide) ?_
    refine tg_put (ci := 10) (ts := ty_MODEL) (v := .long 0) (ty := .long) (C := RX10) (T := TX10) (N := 49) hx hb hts inX10 tyX10 tyX10_ok nmX10 hown hK hw h_p0 rfl rfl 12 (by decide) (hts _ tw_1149) (fun _ h9 => h9) rfl (by decide +kernel) rfl rfl (ft := vJ (-9223372036854775808) 9223372036854775807) rfl ⟨_, rfl, rk_0.to (by decide)⟩ (by decide) dX10_go_207 (fun ws H locs hw n_k_30 hF9 => ?_)
    have m_z0_3 := FLD.over hF9 m_z0_3 (by decide)
    have m_z0_4 := FLD.over hF9 m_z0_4 (by decide)
    have m_z0_5 := FLD.over hF9 m_z0_5 (by decide)
    have m_z0_6 := FLD.over hF9 m_z0_6 (by decide)
    obtain ⟨sg_31, q_sg_31⟩ : ∃ q9 : OS, sL s0 12 (0 : Int64) = q9 := ⟨_, rfl⟩
    have o_p0 : OV vw_M2 Ps ws p0 sg_31 := by rw [← q_sg_31]; exact OV.putL (V := vw_M2) hF9 n_k_30 o_p0 (by decide)
    refine lv_aload_n hx hb dX10_go_210 rfl (lv_at hl 2 rfl) ?_
    refine lv_iconst (v := 0) hx hb dX10_go_211 (by decide) ?_
    refine tg_put (ci := 10) (ts := ty_MODEL) (v := .int 0) (ty := .int) (C := RX10) (T := TX10) (N := 49) hx hb hts inX10 tyX10 tyX10_ok nmX10 hown hK hw h_p0 rfl rfl 8 (by decide) (hts _ tw_1145) (fun _ h9 => h9) rfl (by decide +kernel) rfl rfl (ft := vI (-2147483648) 2147483647) rfl ⟨_, rfl, (rl_0.to (by decide))⟩ (by decide) dX10_go_212 (fun ws H locs hw n_k_32 hF9 => ?_)
    have m_z0_3 := FLD.over hF9 m_z0_3 (by decide)
    have m_z0_4 := FLD.over hF9 m_z0_4 (by decide)
    have m_z0_5 := FLD.over hF9 m_z0_5 (by decide)
    have m_z0_6 := FLD.over hF9 m_z0_6 (by decide)
    obtain ⟨sg_33, q_sg_33⟩ : ∃ q9 : OS, sI sg_31 8 (0 : Int32) = q9 := ⟨_, rfl⟩
    have o_p0 : OV vw_M2 Ps ws p0 sg_33 := by rw [← q_sg_33]; exact OV.putI (V := vw_M2) hF9 n_k_32 o_p0 (by decide)
    simp only [f_X10_go__2_198, ↓reduceIte, q_z0_3, q_z0_4, q_z0_5, q_z0_6, q_v_29, q_sg_31, q_sg_33] at hE
    exact B215 4294967298 x1 v_29 1 z0_3 z0_4 z0_5 z0_6 sg_33 ws _ _ ls (by have q0 := r_z0_5.1; have u0 := r_z0_5.2; omega) r_x1 r_v_29 (rl_1.to (by decide)) r_z0_3 m_z0_3 r_z0_4 m_z0_4 (r_z0_5.to (by decide)) m_z0_5 r_z0_6 m_z0_6 o_p0 hE hw (lv_sub hl [2, 3, 1, 0] rfl)
  have B179 : ∀ (x1 : Int32) (y0 : Int32) (z0_3 : Int32) (z0_4 : Int32) (z0_5 : Int32) (z0_6 : Int32) (s0 : OS) (ws : va_W) (H : Heap) (locs : List Loc) (ls : Array Slot), RI x1 0 255 → RI y0 1 4 → RI z0_3 1 940 → FLD ws p0 10 3 (.int z0_3) → RI z0_4 0 2147483647 → FLD ws p0 10 4 (.int z0_4) → RI z0_5 0 939 → FLD ws p0 10 5 (.int z0_5) → RI z0_6 0 940 → FLD ws p0 10 6 (.int z0_6) → OV vw_M2 Ps ws p0 s0 → f_X10_go__2_179 x1 y0 s0 = R9 → WD D cy GG A s wr_X10_go__4 wa_X10_go__4 Ps w0 Ps ws H locs → lv_has ls 5 [(0, .ref p0), (1, .int x1)] → W p l e (headSpec (Cond.code yX10_go cX10_go 5 none :: gT) ({ frames := 2, cells := 0, slots := 0, locals := 400 } : Room)).room s m ([.ref p0] : List Value).toArray below meth c H locs 0 0 Q (F0 m 179 ls [.int y0, .ref p0]) := by
    intro x1 y0 z0_3 z0_4 z0_5 z0_6 s0 ws H locs ls r_x1 r_y0 r_z0_3 m_z0_3 r_z0_4 m_z0_4 r_z0_5 m_z0_5 r_z0_6 m_z0_6 o_p0 hE hw hl
    have q_z0_3 : s0.1 3 = z0_3 := OV.eqI (V := vw_M2) hw.2.2.1 o_p0 m_z0_3 (by decide)
    have q_z0_4 : s0.1 4 = z0_4 := OV.eqI (V := vw_M2) hw.2.2.1 o_p0 m_z0_4 (by decide)
    have q_z0_5 : s0.1 5 = z0_5 := OV.eqI (V := vw_M2) hw.2.2.1 o_p0 m_z0_5 (by decide)
    have q_z0_6 : s0.1 6 = z0_6 := OV.eqI (V := vw_M2) hw.2.2.1 o_p0 m_z0_6 (by decide)
    refine tg_put (ci := 10) (ts := ty_MODEL) (v := .int y0) (ty := .int) (C := RX10) (T := TX10) (N := 49) hx hb hts inX10 tyX10 tyX10_ok nmX10 hown hK hw h_p0 rfl rfl 7 (by decide) (hts _ tw_1144) (fun _ h9 => h9) rfl (by decide +kernel) rfl rfl (ft := vI (-2147483648) 2147483647) rfl ⟨_, rfl, (r_y0.to (by decide))⟩ (by decide) dX10_go_179 (fun ws H locs hw n_k_34 hF9 => ?_)
    have m_z0_3 := FLD.over hF9 m_z0_3 (by decide)
    have m_z0_4 := FLD.over hF9 m_z0_4 (by decide)
    have m_z0_5 := FLD.over hF9 m_z0_5 (by decide)
    have m_z0_6 := FLD.over hF9 m_z0_6 (by decide)
    obtain ⟨sg_35, q_sg_35⟩ : ∃ q9 : OS, sI s0 7 y0 = q9 := ⟨_, rfl⟩
    have o_p0 : OV vw_M2 Ps ws p0 sg_35 := by rw [← q_sg_35]; exact OV.putI (V := vw_M2) hF9 n_k_34 o_p0 (by decide)
    refine lv_aload_n hx hb dX10_go_182 rfl (lv_at hl 0 rfl) ?_
    refine lv_iload_n hx hb dX10_go_183 rfl (lv_at hl 1 rfl) ?_
    refine tg_put (ci := 10) (ts := ty_MODEL) (v := .int x1) (ty := .int) (C := RX10) (T := TX10) (N := 49) hx hb hts inX10 tyX10 tyX10_ok nmX10 hown hK hw h_p0 rfl rfl 9 (by decide) (hts _ tw_1146) (fun _ h9 => h9) rfl (by decide +kernel) rfl rfl (ft := vI (-2147483648) 2147483647) rfl ⟨_, rfl, (r_x1.to (by decide))⟩ (by decide) dX10_go_184 (fun ws H locs hw n_k_36 hF9 => ?_)
    have m_z0_3 := FLD.over hF9 m_z0_3 (by decide)
    have m_z0_4 := FLD.over hF9 m_z0_4 (by decide)
    have m_z0_5 := FLD.over hF9 m_z0_5 (by decide)
    have m_z0_6 := FLD.over hF9 m_z0_6 (by decide)
    have n_k_34 := FLD.over hF9 n_k_34 (by decide)
    obtain ⟨sg_37, q_sg_37⟩ : ∃ q9 : OS, sI sg_35 9 x1 = q9 := ⟨_, rfl⟩
    have o_p0 : OV vw_M2 Ps ws p0 sg_37 := by rw [← q_sg_37]; exact OV.putI (V := vw_M2) hF9 n_k_36 o_p0 (by decide)
    refine lv_aload_n hx hb dX10_go_187 rfl (lv_at hl 0 rfl) ?_
    refine lv_dup hx hb dX10_go_188 rfl ?_
    refine tg_mem (ci := 10) (C := RX10) (T := TX10) (N := 49) hx hb hts inX10 hown hK hw 5 m_z0_5 rfl (by decide) (hts _ tw_1142) (fun _ h9 => h9) dX10_go_189 ?_
    refine lv_iconst (v := 1) hx hb dX10_go_192 (by decide) ?_
    refine lv_iadd hx hb dX10_go_193 (lv_topi (fun v_38 e_v_38 => ?_))
    obtain ⟨t_v_38, r_v_38⟩ := tq_add (lo := 1) (hi := 940) r_z0_5 rl_1 (by decide +kernel) e_v_38
    have t_v_38 : v_38.toInt = z0_5.toInt + 1 := t_v_38
    have q_v_38 : z0_5 + (1 : Int32) = v_38 := e_v_38.symm
    refine tg_put (ci := 10) (ts := ty_MODEL) (v := .int v_38) (ty := .int) (C := RX10) (T := TX10) (N := 49) hx hb hts inX10 tyX10 tyX10_ok nmX10 hown hK hw h_p0 rfl rfl 5 (by decide) (hts _ tw_1142) (fun _ h9 => h9) rfl (by decide +kernel) rfl rfl (ft := vI 0 940) rfl ⟨_, rfl, (r_v_38.to (by decide))⟩ (by decide) dX10_go_194 (fun ws H locs hw n_k_39 hF9 => ?_)
    have m_z0_3 := FLD.over hF9 m_z0_3 (by decide)
    have m_z0_4 := FLD.over hF9 m_z0_4 (by decide)
    have m_z0_6 := FLD.over hF9 m_z0_6 (by decide)
    have n_k_34 := FLD.over hF9 n_k_34 (by decide)
    have n_k_36 := FLD.over hF9 n_k_36 (by decide)
    obtain ⟨sg_40, q_sg_40⟩ : ∃ q9 : OS, sI sg_37 5 v_38 = q9 := ⟨_, rfl⟩
    have o_p0 : OV vw_M2 Ps ws p0 sg_40 := by rw [← q_sg_40]; exact OV.putI (V := vw_M2) hF9 n_k_39 o_p0 (by decide)
    simp only [f_X10_go__2_179, ↓reduceIte, q_z0_3, q_z0_4, q_z0_5, q_z0_6, q_sg_35, q_sg_37, q_v_38, q_sg_40] at hE
    subst hQ
    exact W.vret hx hb hr (fun t ht hW => ⟨⟨ws, rfl, ⟨⟨⟨(by rw [hR, ← hE]; exact o_p0), trivial⟩, trivial⟩, hw.1, hw.2.2.2.2.1⟩, by rw [ht]; exact hw.2.1, va_K.moved hW.alike hK, hw.2.2.1⟩, hw.2.2.2.1.F ht⟩) hw.2.2.2.1.2.2 dX10_go_197
  have B174 : ∀ (x1 : Int32) (z0_3 : Int32) (z0_4 : Int32) (z0_5 : Int32) (z0_6 : Int32) (s0 : OS) (ws : va_W) (H : Heap) (locs : List Loc) (ls : Array Slot), RI x1 40 62 → RI z0_3 1 940 → FLD ws p0 10 3 (.int z0_3) → RI z0_4 0 2147483647 → FLD ws p0 10 4 (.int z0_4) → RI z0_5 0 939 → FLD ws p0 10 5 (.int z0_5) → RI z0_6 0 940 → FLD ws p0 10 6 (.int z0_6) → OV vw_M2 Ps ws p0 s0 → f_X10_go__2_174 x1 s0 = R9 → WD D cy GG A s wr_X10_go__4 wa_X10_go__4 Ps w0 Ps ws H locs → lv_has ls 5 [(0, .ref p0), (1, .int x1)] → W p l e (headSpec (Cond.code yX10_go cX10_go 5 none :: gT) ({ frames := 2, cells := 0, slots := 0, locals := 400 } : Room)).room s m ([.ref p0] : List Value).toArray below meth c H locs 0 0 Q (F0 m 174 ls [.ref p0]) := by
    intro x1 z0_3 z0_4 z0_5 z0_6 s0 ws H locs ls r_x1 r_z0_3 m_z0_3 r_z0_4 m_z0_4 r_z0_5 m_z0_5 r_z0_6 m_z0_6 o_p0 hE hw hl
    have q_z0_3 : s0.1 3 = z0_3 := OV.eqI (V := vw_M2) hw.2.2.1 o_p0 m_z0_3 (by decide)
    have q_z0_4 : s0.1 4 = z0_4 := OV.eqI (V := vw_M2) hw.2.2.1 o_p0 m_z0_4 (by decide)
    have q_z0_5 : s0.1 5 = z0_5 := OV.eqI (V := vw_M2) hw.2.2.1 o_p0 m_z0_5 (by decide)
    have q_z0_6 : s0.1 6 = z0_6 := OV.eqI (V := vw_M2) hw.2.2.1 o_p0 m_z0_6 (by decide)
    refine lv_iconst (v := 4) hx hb dX10_go_174 (by decide) ?_
    refine lv_goto (tgt := 179) hx hb dX10_go_175 (by decide) ?_
    simp only [f_X10_go__2_174, ↓reduceIte, q_z0_3, q_z0_4, q_z0_5, q_z0_6] at hE
    exact B179 x1 4 z0_3 z0_4 z0_5 z0_6 s0 ws _ _ ls (r_x1.to (by decide)) (rl_4.to (by decide)) r_z0_3 m_z0_3 r_z0_4 m_z0_4 r_z0_5 m_z0_5 r_z0_6 m_z0_6 o_p0 hE hw hl
  have B96 : ∀ (z0_4 : Int32) (z0_5 : Int32) (z0_6 : Int32) (s0 : OS) (ws : va_W) (H : Heap) (locs : List Loc) (ls : Array Slot), RI z0_4 0 2147483647 → FLD ws p0 10 4 (.int z0_4) → RI z0_5 0 940 → FLD ws p0 10 5 (.int z0_5) → RI z0_6 0 940 → FLD ws p0 10 6 (.int z0_6) → OV vw_M2 Ps ws p0 s0 → f_X10_go__2_96 s0 = R9 → WD D cy GG A s wr_X10_go__4 wa_X10_go__4 Ps w0 Ps ws H locs → lv_has ls 5 [(0, .ref p0)] → W p l e (headSpec (Cond.code yX10_go cX10_go 5 none :: gT) ({ frames := 2, cells := 0, slots := 0, locals := 400 } : Room)).room s m ([.ref p0] : List Value).toArray below meth c H locs 0 0 Q (F0 m 96 ls []) := by
    intro z0_4 z0_5 z0_6 s0 ws H locs ls r_z0_4 m_z0_4 r_z0_5 m_z0_5 r_z0_6 m_z0_6 o_p0 hE hw hl
    have q_z0_4 : s0.1 4 = z0_4 := OV.eqI (V := vw_M2) hw.2.2.1 o_p0 m_z0_4 (by decide)
    have q_z0_5 : s0.1 5 = z0_5 := OV.eqI (V := vw_M2) hw.2.2.1 o_p0 m_z0_5 (by decide)
    have q_z0_6 : s0.1 6 = z0_6 := OV.eqI (V := vw_M2) hw.2.2.1 o_p0 m_z0_6 (by decide)
    refine lv_aload_n hx hb dX10_go_96 rfl (lv_at hl 0 rfl) ?_
    refine tg_mem (ci := 10) (C := RX10) (T := TX10) (N := 49) hx hb hts inX10 hown hK hw 5 m_z0_5 rfl (by decide) (hts _ tw_1142) (fun _ h9 => h9) dX10_go_97 ?_
    refine lv_aload_n hx hb dX10_go_100 rfl (lv_at hl 0 rfl) ?_
    refine tg_get (ci := 10) (ts := ty_MODEL) (C := RX10) (T := TX10) (N := 49) hx hb hts inX10 hown hK hw h_p0 rfl rfl 3 (by decide) (hts _ tw_1140) (fun _ h9 => h9) (ft := vI 0 940) rfl dX10_go_101 (fun u_41 hv_u_41 m_u_41 => ?_)
    obtain ⟨vu_41, rfl, r_vu_41⟩ := hv_u_41
    have q_vu_41 : s0.1 3 = vu_41 := OV.eqI (V := vw_M2) hw.2.2.1 o_p0 m_u_41 (by decide)
    refine lv_icmp_lt (tgt := 113) hx hb dX10_go_104 (by decide) (fun c_104 => ?_) (fun c_104 => ?_)
    · have r_z0_5 : RI z0_5 0 939 := rc_lt1 r_z0_5 r_vu_41 (ti_lt c_104) (by decide)
      have r_vu_41 : RI vu_41 1 940 := rc_lt2 r_z0_5 r_vu_41 (ti_lt c_104) (by decide)
      refine lv_aload_n hx hb dX10_go_113 rfl (lv_at hl 0 rfl) ?_
      refine tg_get (ci := 10) (ts := ty_MODEL) (C := RX10) (T := TX10) (N := 49) hx hb hts inX10 hown hK hw h_p0 rfl rfl 1 (by decide) (hts _ tw_1138) (fun _ h9 => h9) (ft := vR 40) rfl dX10_go_114 (fun u_42 hv_u_42 m_u_42 => ?_)
      obtain ⟨vu_42, rfl, h_vu_42⟩ := hv_u_42
      refine lv_aload_n hx hb dX10_go_117 rfl (lv_at hl 0 rfl) ?_
      refine tg_mem (ci := 10) (C := RX10) (T := TX10) (N := 49) hx hb hts inX10 hown hK hw 5 m_z0_5 rfl (by decide) (hts _ tw_1142) (fun _ h9 => h9) dX10_go_118 ?_
      refine tg_iald (lo := 0) (hi := 255) hx hb hK hw h_vu_42 rfl 0 939 r_z0_5 (by decide) (by exact fun _ _ _ => ⟨Int.le_refl _, Int.le_refl _⟩) dX10_go_121 (fun v_43 r_v_43 m_v_43 o_v_43 => ?_)
      have q_v_43 : s0.2.2.1 1 (Int32.toNatClampNeg z0_5) = v_43 := OV.eqA (V := vw_M2) (t := 40) hw.2.2.1 o_p0 m_u_42 m_v_43 (by decide)
      refine lv_istore_n (lv' := [(1, .int v_43), (0, .ref p0)]) hx hb dX10_go_122 rfl hl (by decide) rfl (fun ls hl => ?_)
      refine lv_iload_n hx hb dX10_go_123 rfl (lv_at hl 0 rfl) ?_
      refine tk_ir (va_runS (As := [.int v_43]) (rest := []) ⟨hx, hb, hml, hown, hts⟩ (c_X10_isLetter__4 l D cy z H.size Ps ws hw.1 v_43 r_v_43) (va_cwS 1 hts (gS tw_1302 tw_1303 tw_15 tw_1304) rfl rfl rfl (by decide +kernel) ⟨Nat.le_of_ble_eq_true rfl, Nat.le_of_ble_eq_true rfl⟩) (tg_preS hw hK hSD hA) rfl rfl hl.1 rfl (lv_room (Nat.le_of_ble_eq_true rfl)) dX10_go_124 ⟨Nat.le_of_ble_eq_true rfl, Nat.le_of_ble_eq_true rfl⟩) hw hA (fun v_44  H locs hp_v_44 hw => ?_)
      obtain ⟨hfn, hp_v_44⟩ := hp_v_44
      have q_v_44 : (f_X10_isLetter__2 v_43) = v_44 := hfn.1
      have r_v_44 : RI v_44 0 1 := hp_v_44.1
      refine lv_if_ne (tgt := 198) hx hb dX10_go_127 (by decide) (fun c_127 => ?_) (fun c_127 => ?_)
      · have r_v_44 : RI v_44 1 1 := rc_neL r_v_44 rl_0 (ti_ne c_127) (by decide)
        have r_v_43 : RI v_43 97 122 := ((hp_v_44.2.2 c_127).1)
        simp only [f_X10_go__2_96, ↓reduceIte, q_z0_4, q_z0_5, q_z0_6, q_vu_41, eq_true c_104, q_v_43, q_v_44, eq_false c_127] at hE
        exact B198 v_43 vu_41 z0_4 z0_5 z0_6 s0 ws _ _ ls (r_v_43.to (by decide)) r_vu_41 m_u_41 r_z0_4 m_z0_4 r_z0_5 m_z0_5 r_z0_6 m_z0_6 o_p0 hE hw (lv_sub hl [1, 0] rfl)
      · have r_v_44 : RI v_44 0 0 := rc_eq1 r_v_44 rl_0 (ti_eq c_127) (by decide)
        refine lv_iload_n hx hb dX10_go_130 rfl (lv_at hl 0 rfl) ?_
        refine tk_ir (va_runS (As := [.int v_43]) (rest := []) ⟨hx, hb, hml, hown, hts⟩ (c_X10_isDigit__2 l D cy z H.size Ps ws hw.1 v_43 r_v_43) (va_cwS 1 hts (gS tw_1305 tw_1306 tw_15 tw_1307) rfl rfl rfl (by decide +kernel) ⟨Nat.le_of_ble_eq_true rfl, Nat.le_of_ble_eq_true rfl⟩) (tg_preS hw hK hSD hA) rfl rfl hl.1 rfl (lv_room (Nat.le_of_ble_eq_true rfl)) dX10_go_131 ⟨Nat.le_of_ble_eq_true rfl, Nat.le_of_ble_eq_true rfl⟩) hw hA (fun v_45  H locs hp_v_45 hw => ?_)
        obtain ⟨hfn, hp_v_45⟩ := hp_v_45
        have q_v_45 : (f_X10_isDigit__1 v_43) = v_45 := hfn.1
        have r_v_45 : RI v_45 0 1 := hp_v_45.1
        refine lv_if_ne (tgt := 198) hx hb dX10_go_134 (by decide) (fun c_134 => ?_) (fun c_134 => ?_)
        · have r_v_45 : RI v_45 1 1 := rc_neL r_v_45 rl_0 (ti_ne c_134) (by decide)
          have r_v_43 : RI v_43 48 57 := ((hp_v_45.2.2 c_134).1)
          simp only [f_X10_go__2_96, ↓reduceIte, q_z0_4, q_z0_5, q_z0_6, q_vu_41, eq_true c_104, q_v_43, q_v_44, eq_true c_127, q_v_45, eq_false c_134] at hE
          exact B198 v_43 vu_41 z0_4 z0_5 z0_6 s0 ws _ _ ls (r_v_43.to (by decide)) r_vu_41 m_u_41 r_z0_4 m_z0_4 r_z0_5 m_z0_5 r_z0_6 m_z0_6 o_p0 hE hw (lv_sub hl [1, 0] rfl)
        · have r_v_45 : RI v_45 0 0 := rc_eq1 r_v_45 rl_0 (ti_eq c_134) (by decide)
          refine lv_aload_n hx hb dX10_go_137 rfl (lv_at hl 1 rfl) ?_
          refine lv_iload_n hx hb dX10_go_138 rfl (lv_at hl 0 rfl) ?_
          refine lv_bipush (v := 59) hx hb dX10_go_139 (by decide) ?_
          refine lv_icmp_eq (tgt := 174) hx hb dX10_go_141 (by decide) (fun c_141 => ?_) (fun c_141 => ?_)
          · have r_v_43 : RI v_43 59 59 := rc_eq1 r_v_43 rl_59 (ti_eq c_141) (by decide)
            simp only [f_X10_go__2_96, ↓reduceIte, q_z0_4, q_z0_5, q_z0_6, q_vu_41, eq_true c_104, q_v_43, q_v_44, eq_true c_127, q_v_45, eq_true c_134, eq_true c_141] at hE
            exact B174 v_43 vu_41 z0_4 z0_5 z0_6 s0 ws _ _ ls (r_v_43.to (by decide)) r_vu_41 m_u_41 r_z0_4 m_z0_4 r_z0_5 m_z0_5 r_z0_6 m_z0_6 o_p0 hE hw (lv_sub hl [1, 0] rfl)
          · refine lv_iload_n hx hb dX10_go_144 rfl (lv_at hl 0 rfl) ?_
            refine lv_bipush (v := 60) hx hb dX10_go_145 (by decide) ?_
            refine lv_icmp_eq (tgt := 174) hx hb dX10_go_147 (by decide) (fun c_147 => ?_) (fun c_147 => ?_)
            · have r_v_43 : RI v_43 60 60 := rc_eq1 r_v_43 rl_60 (ti_eq c_147) (by decide)
              simp only [f_X10_go__2_96, ↓reduceIte, q_z0_4, q_z0_5, q_z0_6, q_vu_41, eq_true c_104, q_v_43, q_v_44, eq_true c_127, q_v_45, eq_true c_134, eq_false c_141, eq_true c_147] at hE
              exact B174 v_43 vu_41 z0_4 z0_5 z0_6 s0 ws _ _ ls (r_v_43.to (by decide)) r_vu_41 m_u_41 r_z0_4 m_z0_4 r_z0_5 m_z0_5 r_z0_6 m_z0_6 o_p0 hE hw (lv_sub hl [1, 0] rfl)
            · refine lv_iload_n hx hb dX10_go_150 rfl (lv_at hl 0 rfl) ?_
              refine lv_bipush (v := 61) hx hb dX10_go_151 (by decide) ?_
              refine lv_icmp_eq (tgt := 174) hx hb dX10_go_153 (by decide) (fun c_153 => ?_) (fun c_153 => ?_)
              · have r_v_43 : RI v_43 61 61 := rc_eq1 r_v_43 rl_61 (ti_eq c_153) (by decide)
                simp only [f_X10_go__2_96, ↓reduceIte, q_z0_4, q_z0_5, q_z0_6, q_vu_41, eq_true c_104, q_v_43, q_v_44, eq_true c_127, q_v_45, eq_true c_134, eq_false c_141, eq_false c_147, eq_true c_153] at hE
                exact B174 v_43 vu_41 z0_4 z0_5 z0_6 s0 ws _ _ ls (r_v_43.to (by decide)) r_vu_41 m_u_41 r_z0_4 m_z0_4 r_z0_5 m_z0_5 r_z0_6 m_z0_6 o_p0 hE hw (lv_sub hl [1, 0] rfl)
              · refine lv_iload_n hx hb dX10_go_156 rfl (lv_at hl 0 rfl) ?_
                refine lv_bipush (v := 62) hx hb dX10_go_157 (by decide) ?_
                refine lv_icmp_eq (tgt := 174) hx hb dX10_go_159 (by decide) (fun c_159 => ?_) (fun c_159 => ?_)
                · have r_v_43 : RI v_43 62 62 := rc_eq1 r_v_43 rl_62 (ti_eq c_159) (by decide)
                  simp only [f_X10_go__2_96, ↓reduceIte, q_z0_4, q_z0_5, q_z0_6, q_vu_41, eq_true c_104, q_v_43, q_v_44, eq_true c_127, q_v_45, eq_true c_134, eq_false c_141, eq_false c_147, eq_false c_153, eq_true c_159] at hE
                  exact B174 v_43 vu_41 z0_4 z0_5 z0_6 s0 ws _ _ ls (r_v_43.to (by decide)) r_vu_41 m_u_41 r_z0_4 m_z0_4 r_z0_5 m_z0_5 r_z0_6 m_z0_6 o_p0 hE hw (lv_sub hl [1, 0] rfl)
                · refine lv_iload_n hx hb dX10_go_162 rfl (lv_at hl 0 rfl) ?_
                  refine lv_bipush (v := 40) hx hb dX10_go_163 (by decide) ?_
                  refine lv_icmp_eq (tgt := 174) hx hb dX10_go_165 (by decide) (fun c_165 => ?_) (fun c_165 => ?_)
                  · have r_v_43 : RI v_43 40 40 := rc_eq1 r_v_43 rl_40 (ti_eq c_165) (by decide)
                    simp only [f_X10_go__2_96, ↓reduceIte, q_z0_4, q_z0_5, q_z0_6, q_vu_41, eq_true c_104, q_v_43, q_v_44, eq_true c_127, q_v_45, eq_true c_134, eq_false c_141, eq_false c_147, eq_false c_153, eq_false c_159, eq_true c_165] at hE
                    exact B174 v_43 vu_41 z0_4 z0_5 z0_6 s0 ws _ _ ls (r_v_43.to (by decide)) r_vu_41 m_u_41 r_z0_4 m_z0_4 r_z0_5 m_z0_5 r_z0_6 m_z0_6 o_p0 hE hw (lv_sub hl [1, 0] rfl)
                  · refine lv_iload_n hx hb dX10_go_168 rfl (lv_at hl 0 rfl) ?_
                    refine lv_bipush (v := 41) hx hb dX10_go_169 (by decide) ?_
                    refine lv_icmp_ne (tgt := 178) hx hb dX10_go_171 (by decide) (fun c_171 => ?_) (fun c_171 => ?_)
                    · refine lv_iconst (v := 1) hx hb dX10_go_178 (by decide) ?_
                      simp only [f_X10_go__2_96, ↓reduceIte, q_z0_4, q_z0_5, q_z0_6, q_vu_41, eq_true c_104, q_v_43, q_v_44, eq_true c_127, q_v_45, eq_true c_134, eq_false c_141, eq_false c_147, eq_false c_153, eq_false c_159, eq_false c_165, eq_false c_171] at hE
                      exact B179 v_43 1 vu_41 z0_4 z0_5 z0_6 s0 ws _ _ ls r_v_43 (rl_1.to (by decide)) r_vu_41 m_u_41 r_z0_4 m_z0_4 r_z0_5 m_z0_5 r_z0_6 m_z0_6 o_p0 hE hw (lv_sub hl [1, 0] rfl)
                    · have r_v_43 : RI v_43 41 41 := rc_eq1 r_v_43 rl_41 (ti_eq c_171) (by decide)
                      simp only [f_X10_go__2_96, ↓reduceIte, q_z0_4, q_z0_5, q_z0_6, q_vu_41, eq_true c_104, q_v_43, q_v_44, eq_true c_127, q_v_45, eq_true c_134, eq_false c_141, eq_false c_147, eq_false c_153, eq_false c_159, eq_false c_165, eq_true c_171] at hE
                      exact B174 v_43 vu_41 z0_4 z0_5 z0_6 s0 ws _ _ ls (r_v_43.to (by decide)) r_vu_41 m_u_41 r_z0_4 m_z0_4 r_z0_5 m_z0_5 r_z0_6 m_z0_6 o_p0 hE hw (lv_sub hl [1, 0] rfl)
    · refine lv_aload_n hx hb dX10_go_107 rfl (lv_at hl 0 rfl) ?_
      refine lv_iconst (v := 0) hx hb dX10_go_108 (by decide) ?_
      refine tg_put (ci := 10) (ts := ty_MODEL) (v := .int 0) (ty := .int) (C := RX10) (T := TX10) (N := 49) hx hb hts inX10 tyX10 tyX10_ok nmX10 hown hK hw h_p0 rfl rfl 7 (by decide) (hts _ tw_1144) (fun _ h9 => h9) rfl (by decide +kernel) rfl rfl (ft := vI (-2147483648) 2147483647) rfl ⟨_, rfl, (rl_0.to (by decide))⟩ (by decide) dX10_go_109 (fun ws H locs hw n_k_46 hF9 => ?_)
      have m_z0_4 := FLD.over hF9 m_z0_4 (by decide)
      have m_z0_5 := FLD.over hF9 m_z0_5 (by decide)
      have m_z0_6 := FLD.over hF9 m_z0_6 (by decide)
      have m_u_41 := FLD.over hF9 m_u_41 (by decide)
      obtain ⟨sg_47, q_sg_47⟩ : ∃ q9 : OS, sI s0 7 (0 : Int32) = q9 := ⟨_, rfl⟩
      have o_p0 : OV vw_M2 Ps ws p0 sg_47 := by rw [← q_sg_47]; exact OV.putI (V := vw_M2) hF9 n_k_46 o_p0 (by decide)
      simp only [f_X10_go__2_96, ↓reduceIte, q_z0_4, q_z0_5, q_z0_6, q_vu_41, eq_false c_104, q_sg_47] at hE
      subst hQ
      exact W.vret hx hb hr (fun t ht hW => ⟨⟨ws, rfl, ⟨⟨⟨(by rw [hR, ← hE]; exact o_p0), trivial⟩, trivial⟩, hw.1, hw.2.2.2.2.1⟩, by rw [ht]; exact hw.2.1, va_K.moved hW.alike hK, hw.2.2.1⟩, hw.2.2.2.1.F ht⟩) hw.2.2.2.1.2.2 dX10_go_112
  have B52 : ∀ (z0_5 : Int32) (s0 : OS) (ws : va_W) (H : Heap) (locs : List Loc) (ls : Array Slot), RI z0_5 0 940 → FLD ws p0 10 5 (.int z0_5) → OV vw_M2 Ps ws p0 s0 → f_X10_go__2_52 s0 = R9 → WD D cy GG A s wr_X10_go__4 wa_X10_go__4 Ps w0 Ps ws H locs → lv_has ls 5 [(0, .ref p0)] → W p l e (headSpec (Cond.code yX10_go cX10_go 5 none :: gT) ({ frames := 2, cells := 0, slots := 0, locals := 400 } : Room)).room s m ([.ref p0] : List Value).toArray below meth c H locs 0 0 Q (F0 m 52 ls []) := by
    intro z0_5 s0 ws H locs ls r_z0_5 m_z0_5 o_p0 hE hw hl
    have q_z0_5 : s0.1 5 = z0_5 := OV.eqI (V := vw_M2) hw.2.2.1 o_p0 m_z0_5 (by decide)
    refine lv_aload_n hx hb dX10_go_52 rfl (lv_at hl 0 rfl) ?_
    refine lv_aload_n hx hb dX10_go_53 rfl (lv_at hl 0 rfl) ?_
    refine tg_mem (ci := 10) (C := RX10) (T := TX10) (N := 49) hx hb hts inX10 hown hK hw 5 m_z0_5 rfl (by decide) (hts _ tw_1142) (fun _ h9 => h9) dX10_go_54 ?_
    refine tg_put (ci := 10) (ts := ty_MODEL) (v := .int z0_5) (ty := .int) (C := RX10) (T := TX10) (N := 49) hx hb hts inX10 tyX10 tyX10_ok nmX10 hown hK hw h_p0 rfl rfl 6 (by decide) (hts _ tw_1143) (fun _ h9 => h9) rfl (by decide +kernel) rfl rfl (ft := vI (-2147483648) 2147483647) rfl ⟨_, rfl, (r_z0_5.to (by decide))⟩ (by decide) dX10_go_57 (fun ws H locs hw n_k_48 hF9 => ?_)
    have m_z0_5 := FLD.over hF9 m_z0_5 (by decide)
    obtain ⟨sg_49, q_sg_49⟩ : ∃ q9 : OS, sI s0 6 z0_5 = q9 := ⟨_, rfl⟩
    have o_p0 : OV vw_M2 Ps ws p0 sg_49 := by rw [← q_sg_49]; exact OV.putI (V := vw_M2) hF9 n_k_48 o_p0 (by decide)
    refine lv_aload_n hx hb dX10_go_60 rfl (lv_at hl 0 rfl) ?_
    refine tg_get (ci := 10) (ts := ty_MODEL) (C := RX10) (T := TX10) (N := 49) hx hb hts inX10 hown hK hw h_p0 rfl rfl 3 (by decide) (hts _ tw_1140) (fun _ h9 => h9) (ft := vI 0 940) rfl dX10_go_61 (fun u_50 hv_u_50 m_u_50 => ?_)
    obtain ⟨vu_50, rfl, r_vu_50⟩ := hv_u_50
    have q_vu_50 : sg_49.1 3 = vu_50 := OV.eqI (V := vw_M2) hw.2.2.1 o_p0 m_u_50 (by decide)
    refine lv_aload_n hx hb dX10_go_64 rfl (lv_at hl 0 rfl) ?_
    refine tg_get (ci := 10) (ts := ty_MODEL) (C := RX10) (T := TX10) (N := 49) hx hb hts inX10 hown hK hw h_p0 rfl rfl 4 (by decide) (hts _ tw_1141) (fun _ h9 => h9) (ft := vI (-2147483648) 2147483647) rfl dX10_go_65 (fun u_51 hv_u_51 m_u_51 => ?_)
    obtain ⟨vu_51, rfl, r_vu_51⟩ := hv_u_51
    have q_vu_51 : sg_49.1 4 = vu_51 := OV.eqI (V := vw_M2) hw.2.2.1 o_p0 m_u_51 (by decide)
    refine lv_icmp_le (tgt := 96) hx hb dX10_go_68 (by decide) (fun c_68 => ?_) (fun c_68 => ?_)
    · have r_vu_51 : RI vu_51 0 2147483647 := rc_le2 r_vu_50 r_vu_51 (ti_le c_68) (by decide)
      simp only [f_X10_go__2_52, ↓reduceIte, q_z0_5, q_sg_49, q_vu_50, q_vu_51, eq_true c_68] at hE
      exact B96 vu_51 z0_5 z0_5 sg_49 ws _ _ ls r_vu_51 m_u_51 r_z0_5 m_z0_5 r_z0_5 n_k_48 o_p0 hE hw hl
    · have r_vu_51 : RI vu_51 (-2147483648) 939 := rc_lt1 r_vu_51 r_vu_50 (ti_nle c_68) (by decide)
      refine lv_aload_n hx hb dX10_go_71 rfl (lv_at hl 0 rfl) ?_
      refine tg_mem (ci := 10) (C := RX10) (T := TX10) (N := 49) hx hb hts inX10 hown hK hw 6 n_k_48 rfl (by decide) (hts _ tw_1143) (fun _ h9 => h9) dX10_go_72 ?_
      refine lv_aload_n hx hb dX10_go_75 rfl (lv_at hl 0 rfl) ?_
      refine tg_mem (ci := 10) (C := RX10) (T := TX10) (N := 49) hx hb hts inX10 hown hK hw 4 m_u_51 rfl (by decide) (hts _ tw_1141) (fun _ h9 => h9) dX10_go_76 ?_
      refine lv_icmp_lt (tgt := 96) hx hb dX10_go_79 (by decide) (fun c_79 => ?_) (fun c_79 => ?_)
      · have r_z0_5 : RI z0_5 0 938 := rc_lt1 r_z0_5 r_vu_51 (ti_lt c_79) (by decide)
        have r_vu_51 : RI vu_51 1 939 := rc_lt2 r_z0_5 r_vu_51 (ti_lt c_79) (by decide)
        simp only [f_X10_go__2_52, ↓reduceIte, q_z0_5, q_sg_49, q_vu_50, q_vu_51, eq_false c_68, eq_true c_79] at hE
        exact B96 vu_51 z0_5 z0_5 sg_49 ws _ _ ls (r_vu_51.to (by decide)) m_u_51 (r_z0_5.to (by decide)) m_z0_5 (r_z0_5.to (by decide)) n_k_48 o_p0 hE hw hl
      · refine lv_aload_n hx hb dX10_go_82 rfl (lv_at hl 0 rfl) ?_
        refine lv_aload_n hx hb dX10_go_83 rfl (lv_at hl 0 rfl) ?_
        refine tg_mem (ci := 10) (C := RX10) (T := TX10) (N := 49) hx hb hts inX10 hown hK hw 4 m_u_51 rfl (by decide) (hts _ tw_1141) (fun _ h9 => h9) dX10_go_84 ?_
        refine tg_put (ci := 10) (ts := ty_MODEL) (v := .int vu_51) (ty := .int) (C := RX10) (T := TX10) (N := 49) hx hb hts inX10 tyX10 tyX10_ok nmX10 hown hK hw h_p0 rfl rfl 6 (by decide) (hts _ tw_1143) (fun _ h9 => h9) rfl (by decide +kernel) rfl rfl (ft := vI (-2147483648) 2147483647) rfl ⟨_, rfl, (r_vu_51.to (by decide))⟩ (by decide) dX10_go_87 (fun ws H locs hw n_k_52 hF9 => ?_)
        have m_z0_5 := FLD.over hF9 m_z0_5 (by decide)
        have m_u_50 := FLD.over hF9 m_u_50 (by decide)
        have m_u_51 := FLD.over hF9 m_u_51 (by decide)
        obtain ⟨sg_53, q_sg_53⟩ : ∃ q9 : OS, sI sg_49 6 vu_51 = q9 := ⟨_, rfl⟩
        have o_p0 : OV vw_M2 Ps ws p0 sg_53 := by rw [← q_sg_53]; exact OV.putI (V := vw_M2) hF9 n_k_52 o_p0 (by decide)
        refine lv_aload_n hx hb dX10_go_90 rfl (lv_at hl 0 rfl) ?_
        refine lv_iconst (v := 1) hx hb dX10_go_91 (by decide) ?_
        refine tg_put (ci := 10) (ts := ty_MODEL) (v := .int 1) (ty := .int) (C := RX10) (T := TX10) (N := 49) hx hb hts inX10 tyX10 tyX10_ok nmX10 hown hK hw h_p0 rfl rfl 7 (by decide) (hts _ tw_1144) (fun _ h9 => h9) rfl (by decide +kernel) rfl rfl (ft := vI (-2147483648) 2147483647) rfl ⟨_, rfl, (rl_1.to (by decide))⟩ (by decide) dX10_go_92 (fun ws H locs hw n_k_54 hF9 => ?_)
        have m_z0_5 := FLD.over hF9 m_z0_5 (by decide)
        have m_u_50 := FLD.over hF9 m_u_50 (by decide)
        have m_u_51 := FLD.over hF9 m_u_51 (by decide)
        have n_k_52 := FLD.over hF9 n_k_52 (by decide)
        obtain ⟨sg_55, q_sg_55⟩ : ∃ q9 : OS, sI sg_53 7 (1 : Int32) = q9 := ⟨_, rfl⟩
        have o_p0 : OV vw_M2 Ps ws p0 sg_55 := by rw [← q_sg_55]; exact OV.putI (V := vw_M2) hF9 n_k_54 o_p0 (by decide)
        simp only [f_X10_go__2_52, ↓reduceIte, q_z0_5, q_sg_49, q_vu_50, q_vu_51, eq_false c_68, eq_false c_79, q_sg_53, q_sg_55] at hE
        subst hQ
        exact W.vret hx hb hr (fun t ht hW => ⟨⟨ws, rfl, ⟨⟨⟨(by rw [hR, ← hE]; exact o_p0), trivial⟩, trivial⟩, hw.1, hw.2.2.2.2.1⟩, by rw [ht]; exact hw.2.1, va_K.moved hW.alike hK, hw.2.2.1⟩, hw.2.2.2.1.F ht⟩) hw.2.2.2.1.2.2 dX10_go_95
  have B0 : ∀ (nf : Nat) (z0_5 : Int32) (s0 : OS) (ws : va_W) (H : Heap) (locs : List Loc) (ls : Array Slot), 940 - z0_5.toInt < (nf : Int) → RI z0_5 0 940 → FLD ws p0 10 5 (.int z0_5) → OV vw_M2 Ps ws p0 s0 → f_X10_go__2_0 nf s0 = R9 → WD D cy GG A s wr_X10_go__4 wa_X10_go__4 Ps w0 Ps ws H locs → lv_has ls 5 [(0, .ref p0)] → W p l e (headSpec (Cond.code yX10_go cX10_go 5 none :: gT) ({ frames := 2, cells := 0, slots := 0, locals := 400 } : Room)).room s m ([.ref p0] : List Value).toArray below meth c H locs 0 0 Q (F0 m 0 ls []) := by
    intro nf0
    induction nf0 with
    | zero =>
      intro z0_5 s0 ws H locs ls hn0 r_z0_5 m_z0_5 o_p0 hE hw hl
      exact absurd hn0 (by have q0 := r_z0_5.1; have u0 := r_z0_5.2; omega)
    | succ nf0 ih0 =>
      have B39 : ∀ (z0_3 : Int32) (z0_5 : Int32) (s0 : OS) (ws : va_W) (H : Heap) (locs : List Loc) (ls : Array Slot), RI z0_3 1 940 → FLD ws p0 10 3 (.int z0_3) → RI z0_5 0 939 → FLD ws p0 10 5 (.int z0_5) → OV vw_M2 Ps ws p0 s0 → 940 - z0_5.toInt < ((nf0 + 1 : Nat) : Int) → f_X10_go__2_39 (f_X10_go__2_0 nf0) s0 = R9 → WD D cy GG A s wr_X10_go__4 wa_X10_go__4 Ps w0 Ps ws H locs → lv_has ls 5 [(0, .ref p0)] → W p l e (headSpec (Cond.code yX10_go cX10_go 5 none :: gT) ({ frames := 2, cells := 0, slots := 0, locals := 400 } : Room)).room s m ([.ref p0] : List Value).toArray below meth c H locs 0 0 Q (F0 m 39 ls []) := by
        intro z0_3 z0_5 s0 ws H locs ls r_z0_3 m_z0_3 r_z0_5 m_z0_5 o_p0 hn0 hE hw hl
        have q_z0_3 : s0.1 3 = z0_3 := OV.eqI (V := vw_M2) hw.2.2.1 o_p0 m_z0_3 (by decide)
        have q_z0_5 : s0.1 5 = z0_5 := OV.eqI (V := vw_M2) hw.2.2.1 o_p0 m_z0_5 (by decide)
        refine lv_aload_n hx hb dX10_go_39 rfl (lv_at hl 0 rfl) ?_
        refine lv_dup hx hb dX10_go_40 rfl ?_
        refine tg_mem (ci := 10) (C := RX10) (T := TX10) (N := 49) hx hb hts inX10 hown hK hw 5 m_z0_5 rfl (by decide) (hts _ tw_1142) (fun _ h9 => h9) dX10_go_41 ?_
        refine lv_iconst (v := 1) hx hb dX10_go_44 (by decide) ?_
        refine lv_iadd hx hb dX10_go_45 (lv_topi (fun v_56 e_v_56 => ?_))
        obtain ⟨t_v_56, r_v_56⟩ := tq_add (lo := 1) (hi := 940) r_z0_5 rl_1 (by decide +kernel) e_v_56
        have t_v_56 : v_56.toInt = z0_5.toInt + 1 := t_v_56
        have q_v_56 : z0_5 + (1 : Int32) = v_56 := e_v_56.symm
        refine tg_put (ci := 10) (ts := ty_MODEL) (v := .int v_56) (ty := .int) (C := RX10) (T := TX10) (N := 49) hx hb hts inX10 tyX10 tyX10_ok nmX10 hown hK hw h_p0 rfl rfl 5 (by decide) (hts _ tw_1142) (fun _ h9 => h9) rfl (by decide +kernel) rfl rfl (ft := vI 0 940) rfl ⟨_, rfl, (r_v_56.to (by decide))⟩ (by decide) dX10_go_46 (fun ws H locs hw n_k_57 hF9 => ?_)
        have m_z0_3 := FLD.over hF9 m_z0_3 (by decide)
        obtain ⟨sg_58, q_sg_58⟩ : ∃ q9 : OS, sI s0 5 v_56 = q9 := ⟨_, rfl⟩
        have o_p0 : OV vw_M2 Ps ws p0 sg_58 := by rw [← q_sg_58]; exact OV.putI (V := vw_M2) hF9 n_k_57 o_p0 (by decide)
        refine lv_goto (tgt := 0) hx hb dX10_go_49 (by decide) ?_
        simp only [f_X10_go__2_39, ↓reduceIte, q_z0_3, q_z0_5, q_v_56, q_sg_58] at hE
        exact ih0 v_56 sg_58 ws _ _ ls (by have q0 := r_v_56.1; have u0 := r_v_56.2; have o0 := r_z0_5.1; have p0 := r_z0_5.2; omega) (r_v_56.to (by decide)) n_k_57 o_p0 hE hw hl
      intro z0_5 s0 ws H locs ls hn0 r_z0_5 m_z0_5 o_p0 hE hw hl
      have q_z0_5 : s0.1 5 = z0_5 := OV.eqI (V := vw_M2) hw.2.2.1 o_p0 m_z0_5 (by decide)
      refine lv_aload_n hx hb dX10_go_0 rfl (lv_at hl 0 rfl) ?_
      refine tg_mem (ci := 10) (C := RX10) (T := TX10) (N := 49) hx hb hts inX10 hown hK hw 5 m_z0_5 rfl (by decide) (hts _ tw_1142) (fun _ h9 => h9) dX10_go_1 ?_
      refine lv_aload_n hx hb dX10_go_4 rfl (lv_at hl 0 rfl) ?_
      refine tg_get (ci := 10) (ts := ty_MODEL) (C := RX10) (T := TX10) (N := 49) hx hb hts inX10 hown hK hw h_p0 rfl rfl 3 (by decide) (hts _ tw_1140) (fun _ h9 => h9) (ft := vI 0 940) rfl dX10_go_5 (fun u_59 hv_u_59 m_u_59 => ?_)
      obtain ⟨vu_59, rfl, r_vu_59⟩ := hv_u_59
      have q_vu_59 : s0.1 3 = vu_59 := OV.eqI (V := vw_M2) hw.2.2.1 o_p0 m_u_59 (by decide)
      refine lv_icmp_ge (tgt := 52) hx hb dX10_go_8 (by decide) (fun c_8 => ?_) (fun c_8 => ?_)
      · simp only [f_X10_go__2_0, ↓reduceIte, q_z0_5, q_vu_59, eq_true c_8] at hE
        exact B52 z0_5 s0 ws _ _ ls r_z0_5 m_z0_5 o_p0 hE hw hl
      · have r_z0_5 : RI z0_5 0 939 := rc_lt1 r_z0_5 r_vu_59 (ti_nle c_8) (by decide)
        have r_vu_59 : RI vu_59 1 940 := rc_lt2 r_z0_5 r_vu_59 (ti_nle c_8) (by decide)
        refine lv_aload_n hx hb dX10_go_11 rfl (lv_at hl 0 rfl) ?_
        refine tg_get (ci := 10) (ts := ty_MODEL) (C := RX10) (T := TX10) (N := 49) hx hb hts inX10 hown hK hw h_p0 rfl rfl 1 (by decide) (hts _ tw_1138) (fun _ h9 => h9) (ft := vR 40) rfl dX10_go_12 (fun u_60 hv_u_60 m_u_60 => ?_)
        obtain ⟨vu_60, rfl, h_vu_60⟩ := hv_u_60
        refine lv_aload_n hx hb dX10_go_15 rfl (lv_at hl 0 rfl) ?_
        refine tg_mem (ci := 10) (C := RX10) (T := TX10) (N := 49) hx hb hts inX10 hown hK hw 5 m_z0_5 rfl (by decide) (hts _ tw_1142) (fun _ h9 => h9) dX10_go_16 ?_
        refine tg_iald (lo := 0) (hi := 255) hx hb hK hw h_vu_60 rfl 0 939 r_z0_5 (by decide) (by exact fun _ _ _ => ⟨Int.le_refl _, Int.le_refl _⟩) dX10_go_19 (fun v_61 r_v_61 m_v_61 o_v_61 => ?_)
        have q_v_61 : s0.2.2.1 1 (Int32.toNatClampNeg z0_5) = v_61 := OV.eqA (V := vw_M2) (t := 40) hw.2.2.1 o_p0 m_u_60 m_v_61 (by decide)
        refine lv_bipush (v := 32) hx hb dX10_go_20 (by decide) ?_
        refine lv_icmp_eq (tgt := 39) hx hb dX10_go_22 (by decide) (fun c_22 => ?_) (fun c_22 => ?_)
        · have r_v_61 : RI v_61 32 32 := rc_eq1 r_v_61 rl_32 (ti_eq c_22) (by decide)
          simp only [f_X10_go__2_0, ↓reduceIte, q_z0_5, q_vu_59, eq_false c_8, q_v_61, eq_true c_22] at hE
          exact B39 vu_59 z0_5 s0 ws _ _ ls r_vu_59 m_u_59 r_z0_5 m_z0_5 o_p0 (by have q0 := r_z0_5.1; have u0 := r_z0_5.2; omega) hE hw hl
        · refine lv_aload_n hx hb dX10_go_25 rfl (lv_at hl 0 rfl) ?_
          refine tg_mem (ci := 10) (C := RX10) (T := TX10) (N := 49) hx hb hts inX10 hown hK hw 1 m_u_60 rfl (by decide) (hts _ tw_1138) (fun _ h9 => h9) dX10_go_26 ?_
          refine lv_aload_n hx hb dX10_go_29 rfl (lv_at hl 0 rfl) ?_
          refine tg_mem (ci := 10) (C := RX10) (T := TX10) (N := 49) hx hb hts inX10 hown hK hw 5 m_z0_5 rfl (by decide) (hts _ tw_1142) (fun _ h9 => h9) dX10_go_30 ?_
          refine tg_imem hx hb hK hw h_vu_60 rfl r_z0_5 (by decide) m_v_61 dX10_go_33 ?_
          refine lv_bipush (v := 10) hx hb dX10_go_34 (by decide) ?_
          refine lv_icmp_ne (tgt := 52) hx hb dX10_go_36 (by decide) (fun c_36 => ?_) (fun c_36 => ?_)
          · simp only [f_X10_go__2_0, ↓reduceIte, q_z0_5, q_vu_59, eq_false c_8, q_v_61, eq_false c_22, eq_false c_36] at hE
            exact B52 z0_5 s0 ws _ _ ls (r_z0_5.to (by decide)) m_z0_5 o_p0 hE hw hl
          · have r_v_61 : RI v_61 10 10 := rc_eq1 r_v_61 rl_10 (ti_eq c_36) (by decide)
            simp only [f_X10_go__2_0, ↓reduceIte, q_z0_5, q_vu_59, eq_false c_8, q_v_61, eq_false c_22, eq_true c_36] at hE
            exact B39 vu_59 z0_5 s0 ws _ _ ls r_vu_59 m_u_59 r_z0_5 m_z0_5 o_p0 (by have q0 := r_z0_5.1; have u0 := r_z0_5.2; omega) hE hw hl
  simp only [f_X10_go__2, ↓reduceIte] at hE
  obtain ⟨v_63, m_v_63, r_v_63⟩ := tg_fld (k := 5) (ci := 10) (ts := ty_MODEL) (lo := 0) (hi := 940) hw h_p0 rfl rfl
  exact B0 4294967298 v_63 s0 w0 _ _ ls (by have q0 := r_v_63.1; have u0 := r_v_63.2; omega) r_v_63 m_v_63 o_p0 hE hw hl
abbrev wr_X10_begin__9 : List (Nat × Nat) := [(10, 0), (10, 2), (10, 3), (10, 4), (10, 5), (10, 6), (10, 7), (10, 8), (10, 9), (10, 10), (10, 12)]
abbrev wa_X10_begin__9 : List Nat := []
set_option maxHeartbeats 4000000 in
set_option maxRecDepth 100000 in
theorem c_X10_begin__9 (l : Launch) (D : va_G) (cy : Nat → ClassId) (z : Nat → Nat) (sz : Nat) (Ps : PSI) (w0 : va_W) (hT : HT cy GG Ps w0) (p0 : Nat) (p1 : Int32) (s0 : OS) (h_p0 : (p0, 55) ∈ Ps) (r_p1 : RI p1 200 200) (o_p0 : OV vw_M2 Ps w0 p0 s0) : Met l yX10_begin (Cond.code yX10_begin cX10_begin 2 none :: gT) ({ frames := 3, cells := 0, slots := 0, locals := 600 } : Room) (va_Pc [.ref p0, .int p1] (PRE D cy z w0 sz)) (va_Qv (fun (u : va_W) => ((OV vw_M2 Ps u p0 ((f_X10_begin__4 p1 s0)) ∧ True) ∧ ((∃ v9 : Int32, FLD u p0 10 2 (.int v9) ∧ RI v9 0 0) ∧ TLM u p0 (0) ∧ True)) ∧ HT cy GG Ps u ∧ FR wr_X10_begin__9 wa_X10_begin__9 Ps w0 u) (BB D cy (va_A w0 sz) (fun (u : va_W) => u)) (va_A w0 sz)) 0 0 (va_A w0 sz) := by
  refine Met.ofW (cc := cX10_begin) (maxL := 2) (ret := none) (by decide) rfl ?_
  intro p e s m args below meth c s₁ B hml hv
  obtain ⟨rfl, hsz, hP, hK, hD0, hSD⟩ := hv
  have hx := B.exec
  have hb := B.bytes
  have hr := B.returns
  have hlocks := B.notSynchronized
  have hts : ∀ w ∈ gT, w.before _ s = true := fun w h => atoms_spec (ws := Cond.code yX10_begin cX10_begin 2 none :: gT) B.pre w (List.mem_cons_of_mem _ h)
  have hown : s.vm.findClass RX10 = some m.cls := findClass_of_methodNamed B.named
  subst hsz
  have hD := hD0.self (sz := s.heap.size)
  generalize hAe : va_A w0 s.heap.size = A at hD hSD ⊢
  have hA : ∀ q : Nat, s.heap.size ≤ q → A q := fun q h => by rw [← hAe]; exact Or.inr h
  have hl := lv_entry ([.ref p0, .int p1]) (n := 2) (Nat.le_of_ble_eq_true rfl)
  rw [lg_entry_eq]
  generalize (lg_sl ([.ref p0, .int p1]) ++ List.replicate (2 - (lg_sl ([.ref p0, .int p1])).length) Slot.unset).toArray = ls at hl ⊢
  have hl : lv_has ls 2 [(0, .ref p0), (1, .int p1)] := hl
  refine nameQ (fun Q hQ => ?_)
  have hw : WD D cy GG A s wr_X10_begin__9 wa_X10_begin__9 Ps w0 Ps w0 s.heap [] := ⟨hT, hP, hD, va_S.rf, FR.rf, hT.1, [], (List.append_nil _).symm⟩
  obtain ⟨R9, hR⟩ : ∃ q9 : OS, f_X10_begin__4 p1 s0 = q9 := ⟨_, rfl⟩
  have hE := hR
  refine lv_aload_n hx hb dX10_begin_0 rfl (lv_at hl 0 rfl) ?_
  refine lv_iconst (v := 0) hx hb dX10_begin_1 (by decide) ?_
  refine tg_put (ci := 10) (ts := ty_MODEL) (v := .int 0) (ty := .int) (C := RX10) (T := TX10) (N := 49) hx hb hts inX10 tyX10 tyX10_ok nmX10 hown hK hw h_p0 rfl rfl 0 (by decide) (hts _ tw_1137) (fun _ h9 => h9) rfl (by decide +kernel) rfl rfl (ft := vI (-2147483648) 2147483647) rfl ⟨_, rfl, (rl_0.to (by decide))⟩ (by decide) dX10_begin_2 (fun ws H locs hw n_k_1 hF9 => ?_)
  obtain ⟨sg_2, q_sg_2⟩ : ∃ q9 : OS, sI s0 0 (0 : Int32) = q9 := ⟨_, rfl⟩
  have o_p0 : OV vw_M2 Ps ws p0 sg_2 := by rw [← q_sg_2]; exact OV.putI (V := vw_M2) hF9 n_k_1 o_p0 (by decide)
  refine lv_aload_n hx hb dX10_begin_5 rfl (lv_at hl 0 rfl) ?_
  refine lv_aload_n hx hb dX10_begin_6 rfl (lv_at hl 0 rfl) ?_
  refine tk_i (va_runV (As := []) (rest := [.ref p0]) ⟨hx, hb, hml, hown, hts⟩ (c_X10_take__4 l D cy z H.size Ps ws hw.1 p0 sg_2 h_p0 o_p0) (cwV 0 hts (gV tw_1294 tw_1296 ts_39 tw_15 tw_1297) rfl rfl rfl (by decide +kernel) ⟨Nat.le_of_ble_eq_true rfl, Nat.le_of_ble_eq_true rfl⟩) (tg_preV hw hK hSD hA (ci := 10) (q := (RX10, TX10, 49)) rfl h_p0 rfl) rfl rfl hl.1 rfl (lv_room (Nat.le_of_ble_eq_true rfl)) dX10_begin_7 ⟨Nat.le_of_ble_eq_true rfl, Nat.le_of_ble_eq_true rfl⟩) hw hA ⟨by decide, by decide⟩ (fun v_3 ws H locs hp_v_3 hw hF9 => ?_)
  have n_k_1 := FLD.over hF9 n_k_1 (by decide)
  obtain ⟨hfn, hp_v_3⟩ := hp_v_3
  obtain ⟨sg_4, q_sg_4⟩ : ∃ q9 : OS, (f_X10_take__1 sg_2).1 = q9 := ⟨_, rfl⟩
  have o_p0 : OV vw_M2 Ps ws p0 sg_4 := by rw [← q_sg_4]; exact hfn.1
  have q_v_3 : (f_X10_take__1 sg_2).2 = v_3 := hfn.2.1
  have r_v_3 : RI v_3 0 940 := hp_v_3.1
  by_cases c9_v_3 : v_3 = 0
  · have r_v_3 : RI v_3 0 0 := by rw [c9_v_3]; exact rl_0
    obtain ⟨v_5, m_v_5, r_v_5⟩ := ((hp_v_3.2.1 c9_v_3).1)
    have x_TLM_p0_0 := ((hp_v_3.2.1 c9_v_3).2.1)
    refine tg_put (ci := 10) (ts := ty_MODEL) (v := .int v_3) (ty := .int) (C := RX10) (T := TX10) (N := 49) hx hb hts inX10 tyX10 tyX10_ok nmX10 hown hK hw h_p0 rfl rfl 3 (by decide) (hts _ tw_1140) (fun _ h9 => h9) rfl (by decide +kernel) rfl rfl (ft := vI 0 940) rfl ⟨_, rfl, (r_v_3.to (by decide))⟩ (by decide) dX10_begin_10 (fun ws H locs hw n_k_6 hF9 => ?_)
    have n_k_1 := FLD.over hF9 n_k_1 (by decide)
    have m_v_5 := FLD.over hF9 m_v_5 (by decide)
    have x_TLM_p0_0 := TLM.over hF9 x_TLM_p0_0 (by decide)
    obtain ⟨sg_7, q_sg_7⟩ : ∃ q9 : OS, sI sg_4 3 v_3 = q9 := ⟨_, rfl⟩
    have o_p0 : OV vw_M2 Ps ws p0 sg_7 := by rw [← q_sg_7]; exact OV.putI (V := vw_M2) hF9 n_k_6 o_p0 (by decide)
    refine lv_aload_n hx hb dX10_begin_13 rfl (lv_at hl 0 rfl) ?_
    refine lv_iload_n hx hb dX10_begin_14 rfl (lv_at hl 1 rfl) ?_
    refine tg_put (ci := 10) (ts := ty_MODEL) (v := .int p1) (ty := .int) (C := RX10) (T := TX10) (N := 49) hx hb hts inX10 tyX10 tyX10_ok nmX10 hown hK hw h_p0 rfl rfl 4 (by decide) (hts _ tw_1141) (fun _ h9 => h9) rfl (by decide +kernel) rfl rfl (ft := vI (-2147483648) 2147483647) rfl ⟨_, rfl, (r_p1.to (by decide))⟩ (by decide) dX10_begin_15 (fun ws H locs hw n_k_8 hF9 => ?_)
    have n_k_1 := FLD.over hF9 n_k_1 (by decide)
    have m_v_5 := FLD.over hF9 m_v_5 (by decide)
    have n_k_6 := FLD.over hF9 n_k_6 (by decide)
    have x_TLM_p0_0 := TLM.over hF9 x_TLM_p0_0 (by decide)
    obtain ⟨sg_9, q_sg_9⟩ : ∃ q9 : OS, sI sg_7 4 p1 = q9 := ⟨_, rfl⟩
    have o_p0 : OV vw_M2 Ps ws p0 sg_9 := by rw [← q_sg_9]; exact OV.putI (V := vw_M2) hF9 n_k_8 o_p0 (by decide)
    refine lv_aload_n hx hb dX10_begin_18 rfl (lv_at hl 0 rfl) ?_
    refine lv_iconst (v := 0) hx hb dX10_begin_19 (by decide) ?_
    refine tg_put (ci := 10) (ts := ty_MODEL) (v := .int 0) (ty := .int) (C := RX10) (T := TX10) (N := 49) hx hb hts inX10 tyX10 tyX10_ok nmX10 hown hK hw h_p0 rfl rfl 10 (by decide) (hts _ tw_1147) (fun _ h9 => h9) rfl (by decide +kernel) rfl rfl (ft := vI (-2147483648) 2147483647) rfl ⟨_, rfl, (rl_0.to (by decide))⟩ (by decide) dX10_begin_20 (fun ws H locs hw n_k_10 hF9 => ?_)
    have n_k_1 := FLD.over hF9 n_k_1 (by decide)
    have m_v_5 := FLD.over hF9 m_v_5 (by decide)
    have n_k_6 := FLD.over hF9 n_k_6 (by decide)
    have n_k_8 := FLD.over hF9 n_k_8 (by decide)
    have x_TLM_p0_0 := TLM.over hF9 x_TLM_p0_0 (by decide)
    obtain ⟨sg_11, q_sg_11⟩ : ∃ q9 : OS, sI sg_9 10 (0 : Int32) = q9 := ⟨_, rfl⟩
    have o_p0 : OV vw_M2 Ps ws p0 sg_11 := by rw [← q_sg_11]; exact OV.putI (V := vw_M2) hF9 n_k_10 o_p0 (by decide)
    refine lv_aload_n hx hb dX10_begin_23 rfl (lv_at hl 0 rfl) ?_
    refine lv_iconst (v := 0) hx hb dX10_begin_24 (by decide) ?_
    refine tg_put (ci := 10) (ts := ty_MODEL) (v := .int 0) (ty := .int) (C := RX10) (T := TX10) (N := 49) hx hb hts inX10 tyX10 tyX10_ok nmX10 hown hK hw h_p0 rfl rfl 5 (by decide) (hts _ tw_1142) (fun _ h9 => h9) rfl (by decide +kernel) rfl rfl (ft := vI 0 940) rfl ⟨_, rfl, (rl_0.to (by decide))⟩ (by decide) dX10_begin_25 (fun ws H locs hw n_k_12 hF9 => ?_)
    have n_k_1 := FLD.over hF9 n_k_1 (by decide)
    have m_v_5 := FLD.over hF9 m_v_5 (by decide)
    have n_k_6 := FLD.over hF9 n_k_6 (by decide)
    have n_k_8 := FLD.over hF9 n_k_8 (by decide)
    have n_k_10 := FLD.over hF9 n_k_10 (by decide)
    have x_TLM_p0_0 := TLM.over hF9 x_TLM_p0_0 (by decide)
    obtain ⟨sg_13, q_sg_13⟩ : ∃ q9 : OS, sI sg_11 5 (0 : Int32) = q9 := ⟨_, rfl⟩
    have o_p0 : OV vw_M2 Ps ws p0 sg_13 := by rw [← q_sg_13]; exact OV.putI (V := vw_M2) hF9 n_k_12 o_p0 (by decide)
    refine lv_aload_n hx hb dX10_begin_28 rfl (lv_at hl 0 rfl) ?_
    refine tk_v (va_runV (As := []) (rest := []) ⟨hx, hb, hml, hown, hts⟩ (c_X10_go__4 l D cy z H.size Ps ws hw.1 p0 sg_13 h_p0 o_p0) (cwV 0 hts (gV tw_1298 tw_1300 ts_40 tw_15 tw_1301) rfl rfl rfl (by decide +kernel) ⟨Nat.le_of_ble_eq_true rfl, Nat.le_of_ble_eq_true rfl⟩) (tg_preV hw hK hSD hA (ci := 10) (q := (RX10, TX10, 49)) rfl h_p0 rfl) rfl rfl hl.1 rfl (lv_room (Nat.le_of_ble_eq_true rfl)) dX10_begin_29 ⟨Nat.le_of_ble_eq_true rfl, Nat.le_of_ble_eq_true rfl⟩) hw hA ⟨by decide, by decide⟩ (fun ws H locs hp_v_14 hw hF9 => ?_)
    have n_k_1 := FLD.over hF9 n_k_1 (by decide)
    have m_v_5 := FLD.over hF9 m_v_5 (by decide)
    have n_k_6 := FLD.over hF9 n_k_6 (by decide)
    have n_k_8 := FLD.over hF9 n_k_8 (by decide)
    have n_k_10 := FLD.over hF9 n_k_10 (by decide)
    have x_TLM_p0_0 := TLM.over hF9 x_TLM_p0_0 (by decide)
    obtain ⟨hfn, hp_v_14⟩ := hp_v_14
    obtain ⟨sg_15, q_sg_15⟩ : ∃ q9 : OS, (f_X10_go__2 sg_13) = q9 := ⟨_, rfl⟩
    have o_p0 : OV vw_M2 Ps ws p0 sg_15 := by rw [← q_sg_15]; exact hfn.1
    simp only [f_X10_begin__4, ↓reduceIte, q_sg_2, q_sg_4, q_v_3, eq_true c9_v_3, q_sg_7, q_sg_9, q_sg_11, q_sg_13, q_sg_15] at hE
    subst hQ
    exact W.vret hx hb hr (fun t ht hW => ⟨⟨ws, rfl, ⟨⟨⟨(by rw [hR, ← hE]; exact o_p0), trivial⟩, ⟨⟨_, m_v_5, r_v_5⟩, x_TLM_p0_0, trivial⟩⟩, hw.1, hw.2.2.2.2.1⟩, by rw [ht]; exact hw.2.1, va_K.moved hW.alike hK, hw.2.2.1⟩, hw.2.2.2.1.F ht⟩) hw.2.2.2.1.2.2 dX10_begin_32
  · have r_v_3 : RI v_3 1 940 := rc_neL r_v_3 rl_0 (ti_ne c9_v_3) (by decide)
    obtain ⟨v_16, m_v_16, r_v_16⟩ := ((hp_v_3.2.2 c9_v_3).1)
    have x_TLM_p0_0 := ((hp_v_3.2.2 c9_v_3).2.1)
    refine tg_put (ci := 10) (ts := ty_MODEL) (v := .int v_3) (ty := .int) (C := RX10) (T := TX10) (N := 49) hx hb hts inX10 tyX10 tyX10_ok nmX10 hown hK hw h_p0 rfl rfl 3 (by decide) (hts _ tw_1140) (fun _ h9 => h9) rfl (by decide +kernel) rfl rfl (ft := vI 0 940) rfl ⟨_, rfl, (r_v_3.to (by decide))⟩ (by decide) dX10_begin_10 (fun ws H locs hw n_k_17 hF9 => ?_)
    have n_k_1 := FLD.over hF9 n_k_1 (by decide)
    have m_v_16 := FLD.over hF9 m_v_16 (by decide)
    have x_TLM_p0_0 := TLM.over hF9 x_TLM_p0_0 (by decide)
    obtain ⟨sg_18, q_sg_18⟩ : ∃ q9 : OS, sI sg_4 3 v_3 = q9 := ⟨_, rfl⟩
    have o_p0 : OV vw_M2 Ps ws p0 sg_18 := by rw [← q_sg_18]; exact OV.putI (V := vw_M2) hF9 n_k_17 o_p0 (by decide)
    refine lv_aload_n hx hb dX10_begin_13 rfl (lv_at hl 0 rfl) ?_
    refine lv_iload_n hx hb dX10_begin_14 rfl (lv_at hl 1 rfl) ?_
    refine tg_put (ci := 10) (ts := ty_MODEL) (v := .int p1) (ty := .int) (C := RX10) (T := TX10) (N := 49) hx hb hts inX10 tyX10 tyX10_ok nmX10 hown hK hw h_p0 rfl rfl 4 (by decide) (hts _ tw_1141) (fun _ h9 => h9) rfl (by decide +kernel) rfl rfl (ft := vI (-2147483648) 2147483647) rfl ⟨_, rfl, (r_p1.to (by decide))⟩ (by decide) dX10_begin_15 (fun ws H locs hw n_k_19 hF9 => ?_)
    have n_k_1 := FLD.over hF9 n_k_1 (by decide)
    have m_v_16 := FLD.over hF9 m_v_16 (by decide)
    have n_k_17 := FLD.over hF9 n_k_17 (by decide)
    have x_TLM_p0_0 := TLM.over hF9 x_TLM_p0_0 (by decide)
    obtain ⟨sg_20, q_sg_20⟩ : ∃ q9 : OS, sI sg_18 4 p1 = q9 := ⟨_, rfl⟩
    have o_p0 : OV vw_M2 Ps ws p0 sg_20 := by rw [← q_sg_20]; exact OV.putI (V := vw_M2) hF9 n_k_19 o_p0 (by decide)
    refine lv_aload_n hx hb dX10_begin_18 rfl (lv_at hl 0 rfl) ?_
    refine lv_iconst (v := 0) hx hb dX10_begin_19 (by decide) ?_
    refine tg_put (ci := 10) (ts := ty_MODEL) (v := .int 0) (ty := .int) (C := RX10) (T := TX10) (N := 49) hx hb hts inX10 tyX10 tyX10_ok nmX10 hown hK hw h_p0 rfl rfl 10 (by decide) (hts _ tw_1147) (fun _ h9 => h9) rfl (by decide +kernel) rfl rfl (ft := vI (-2147483648) 2147483647) rfl ⟨_, rfl, (rl_0.to (by decide))⟩ (by decide) dX10_begin_20 (fun ws H locs hw n_k_21 hF9 => ?_)
    have n_k_1 := FLD.over hF9 n_k_1 (by decide)
    have m_v_16 := FLD.over hF9 m_v_16 (by decide)
    have n_k_17 := FLD.over hF9 n_k_17 (by decide)
    have n_k_19 := FLD.over hF9 n_k_19 (by decide)
    have x_TLM_p0_0 := TLM.over hF9 x_TLM_p0_0 (by decide)
    obtain ⟨sg_22, q_sg_22⟩ : ∃ q9 : OS, sI sg_20 10 (0 : Int32) = q9 := ⟨_, rfl⟩
    have o_p0 : OV vw_M2 Ps ws p0 sg_22 := by rw [← q_sg_22]; exact OV.putI (V := vw_M2) hF9 n_k_21 o_p0 (by decide)
    refine lv_aload_n hx hb dX10_begin_23 rfl (lv_at hl 0 rfl) ?_
    refine lv_iconst (v := 0) hx hb dX10_begin_24 (by decide) ?_
    refine tg_put (ci := 10) (ts := ty_MODEL) (v := .int 0) (ty := .int) (C := RX10) (T := TX10) (N := 49) hx hb hts inX10 tyX10 tyX10_ok nmX10 hown hK hw h_p0 rfl rfl 5 (by decide) (hts _ tw_1142) (fun _ h9 => h9) rfl (by decide +kernel) rfl rfl (ft := vI 0 940) rfl ⟨_, rfl, (rl_0.to (by decide))⟩ (by decide) dX10_begin_25 (fun ws H locs hw n_k_23 hF9 => ?_)
    have n_k_1 := FLD.over hF9 n_k_1 (by decide)
    have m_v_16 := FLD.over hF9 m_v_16 (by decide)
    have n_k_17 := FLD.over hF9 n_k_17 (by decide)
    have n_k_19 := FLD.over hF9 n_k_19 (by decide)
    have n_k_21 := FLD.over hF9 n_k_21 (by decide)
    have x_TLM_p0_0 := TLM.over hF9 x_TLM_p0_0 (by decide)
    obtain ⟨sg_24, q_sg_24⟩ : ∃ q9 : OS, sI sg_22 5 (0 : Int32) = q9 := ⟨_, rfl⟩
    have o_p0 : OV vw_M2 Ps ws p0 sg_24 := by rw [← q_sg_24]; exact OV.putI (V := vw_M2) hF9 n_k_23 o_p0 (by decide)
    refine lv_aload_n hx hb dX10_begin_28 rfl (lv_at hl 0 rfl) ?_
    refine tk_v (va_runV (As := []) (rest := []) ⟨hx, hb, hml, hown, hts⟩ (c_X10_go__4 l D cy z H.size Ps ws hw.1 p0 sg_24 h_p0 o_p0) (cwV 0 hts (gV tw_1298 tw_1300 ts_40 tw_15 tw_1301) rfl rfl rfl (by decide +kernel) ⟨Nat.le_of_ble_eq_true rfl, Nat.le_of_ble_eq_true rfl⟩) (tg_preV hw hK hSD hA (ci := 10) (q := (RX10, TX10, 49)) rfl h_p0 rfl) rfl rfl hl.1 rfl (lv_room (Nat.le_of_ble_eq_true rfl)) dX10_begin_29 ⟨Nat.le_of_ble_eq_true rfl, Nat.le_of_ble_eq_true rfl⟩) hw hA ⟨by decide, by decide⟩ (fun ws H locs hp_v_25 hw hF9 => ?_)
    have n_k_1 := FLD.over hF9 n_k_1 (by decide)
    have m_v_16 := FLD.over hF9 m_v_16 (by decide)
    have n_k_17 := FLD.over hF9 n_k_17 (by decide)
    have n_k_19 := FLD.over hF9 n_k_19 (by decide)
    have n_k_21 := FLD.over hF9 n_k_21 (by decide)
    have x_TLM_p0_0 := TLM.over hF9 x_TLM_p0_0 (by decide)
    obtain ⟨hfn, hp_v_25⟩ := hp_v_25
    obtain ⟨sg_26, q_sg_26⟩ : ∃ q9 : OS, (f_X10_go__2 sg_24) = q9 := ⟨_, rfl⟩
    have o_p0 : OV vw_M2 Ps ws p0 sg_26 := by rw [← q_sg_26]; exact hfn.1
    simp only [f_X10_begin__4, ↓reduceIte, q_sg_2, q_sg_4, q_v_3, eq_false c9_v_3, q_sg_18, q_sg_20, q_sg_22, q_sg_24, q_sg_26] at hE
    subst hQ
    exact W.vret hx hb hr (fun t ht hW => ⟨⟨ws, rfl, ⟨⟨⟨(by rw [hR, ← hE]; exact o_p0), trivial⟩, ⟨⟨_, m_v_16, r_v_16⟩, x_TLM_p0_0, trivial⟩⟩, hw.1, hw.2.2.2.2.1⟩, by rw [ht]; exact hw.2.1, va_K.moved hW.alike hK, hw.2.2.1⟩, hw.2.2.2.1.F ht⟩) hw.2.2.2.1.2.2 dX10_begin_32
abbrev wr_X10_spelt__58 : List (Nat × Nat) := []
abbrev wa_X10_spelt__58 : List Nat := []
set_option maxHeartbeats 4000000 in
set_option maxRecDepth 100000 in
theorem c_X10_spelt__58 (l : Launch) (D : va_G) (cy : Nat → ClassId) (z : Nat → Nat) (sz : Nat) (Ps : PSI) (w0 : va_W) (hT : HT cy GG Ps w0) (p0 : Int32) (p1 : Int32) (p2 : Int32) (p3 : Int32) (p4 : Int32) (p5 : Int32) (p6 : Int32) (r_p0 : RI p0 110 110) (r_p1 : RI p1 117 117) (r_p2 : RI p2 109 109) (r_p3 : RI p3 98 98) (r_p4 : RI p4 101 101) (r_p5 : RI p5 114 114) (r_p6 : RI p6 0 0) : Met l yX10_spelt (Cond.code yX10_spelt cX10_spelt 9 (some .long) :: gT) ({ frames := 0, cells := 0, slots := 0, locals := 200 } : Room) (va_Pc [.int p0, .int p1, .int p2, .int p3, .int p4, .int p5, .int p6] (PRE D cy z w0 sz)) (va_Ql (fun (r : Int64) (u : Unit) => ((f_X10_spelt__30 p0 p1 p2 p3 p4 p5 p6) = r ∧ True) ∧ (RJ r 212302449 212302449)) (BB D cy (va_A w0 sz) (fun (u : Unit) => w0)) (va_A w0 sz)) 0 0 (va_A w0 sz) := by
  refine Met.ofW (cc := cX10_spelt) (maxL := 9) (ret := (some .long)) (by decide) rfl ?_
  intro p e s m args below meth c s₁ B hml hv
  obtain ⟨rfl, hsz, hP, hK, hD0, hSD⟩ := hv
  have hx := B.exec
  have hb := B.bytes
  have hr := B.returns
  have hlocks := B.notSynchronized
  have hts : ∀ w ∈ gT, w.before _ s = true := fun w h => atoms_spec (ws := Cond.code yX10_spelt cX10_spelt 9 (some .long) :: gT) B.pre w (List.mem_cons_of_mem _ h)
  have hown : s.vm.findClass RX10 = some m.cls := findClass_of_methodNamed B.named
  subst hsz
  have hD := hD0.self (sz := s.heap.size)
  generalize hAe : va_A w0 s.heap.size = A at hD hSD ⊢
  have hA : ∀ q : Nat, s.heap.size ≤ q → A q := fun q h => by rw [← hAe]; exact Or.inr h
  have hl := lv_entry ([.int p0, .int p1, .int p2, .int p3, .int p4, .int p5, .int p6]) (n := 9) (Nat.le_of_ble_eq_true rfl)
  rw [lg_entry_eq]
  generalize (lg_sl ([.int p0, .int p1, .int p2, .int p3, .int p4, .int p5, .int p6]) ++ List.replicate (9 - (lg_sl ([.int p0, .int p1, .int p2, .int p3, .int p4, .int p5, .int p6])).length) Slot.unset).toArray = ls at hl ⊢
  have hl : lv_has ls 9 [(0, .int p0), (1, .int p1), (2, .int p2), (3, .int p3), (4, .int p4), (5, .int p5), (6, .int p6)] := hl
  refine nameQ (fun Q hQ => ?_)
  have hw : WD D cy GG A s wr_X10_spelt__58 wa_X10_spelt__58 Ps w0 Ps w0 s.heap [] := ⟨hT, hP, hD, va_S.rf, FR.rf, hT.1, [], (List.append_nil _).symm⟩
  obtain ⟨R9, hR⟩ : ∃ q9 : Int64, f_X10_spelt__30 p0 p1 p2 p3 p4 p5 p6 = q9 := ⟨_, rfl⟩
  have hE := hR
  have B99 : ∀ (x7 : Int64) (H : Heap) (locs : List Loc) (ls : Array Slot), RI p0 110 110 → RI p1 117 117 → RI p2 109 109 → RI p3 98 98 → RI p4 101 101 → RI p5 114 114 → RI p6 0 0 → RJ x7 212302449 212302449 → f_X10_spelt__30_99 p0 p1 p2 p3 p4 p5 p6 x7 = R9 → WD D cy GG A s wr_X10_spelt__58 wa_X10_spelt__58 Ps w0 Ps w0 H locs → lv_has ls 9 [(0, .int p0), (1, .int p1), (2, .int p2), (3, .int p3), (4, .int p4), (5, .int p5), (6, .int p6), (7, .long x7)] → W p l e (headSpec (Cond.code yX10_spelt cX10_spelt 9 (some .long) :: gT) ({ frames := 0, cells := 0, slots := 0, locals := 200 } : Room)).room s m ([.int p0, .int p1, .int p2, .int p3, .int p4, .int p5, .int p6] : List Value).toArray below meth c H locs 0 0 Q (F0 m 99 ls []) := by
    intro x7 H locs ls r_p0 r_p1 r_p2 r_p3 r_p4 r_p5 r_p6 r_x7 hE hw hl
    refine lv_iload hx hb dX10_spelt_99 (lv_at hl 6 rfl) ?_
    refine lv_if_le (tgt := 120) hx hb dX10_spelt_101 (by decide) (fun c_101 => ?_) (fun c_101 => ?_)
    · refine lv_lload hx hb dX10_spelt_120 (lv_at hl 7 rfl) ?_
      simp only [f_X10_spelt__30_99, ↓reduceIte, eq_true c_101] at hE
      subst hQ
      exact W.lret (v := x7) hx hb hr (fun t ht hW => ⟨⟨x7, (), rfl, ⟨⟨(by rw [hR, ← hE]), trivial⟩, r_x7.to (by decide)⟩, by rw [ht]; exact hw.2.1, va_K.moved hW.alike hK, hw.2.2.1⟩, hw.2.2.2.1.F ht⟩) hw.2.2.2.1.2.2 dX10_spelt_122
    · have r_p6 : RI p6 1 0 := rc_lt2 rl_0 r_p6 (ti_nle c_101) (by decide)
      exact (r_p6.no (by decide)).elim
  have B78 : ∀ (x7 : Int64) (H : Heap) (locs : List Loc) (ls : Array Slot), RI p0 110 110 → RI p1 117 117 → RI p2 109 109 → RI p3 98 98 → RI p4 101 101 → RI p5 114 114 → RI p6 0 0 → RJ x7 7863053 7863053 → f_X10_spelt__30_78 p0 p1 p2 p3 p4 p5 p6 x7 = R9 → WD D cy GG A s wr_X10_spelt__58 wa_X10_spelt__58 Ps w0 Ps w0 H locs → lv_has ls 9 [(0, .int p0), (1, .int p1), (2, .int p2), (3, .int p3), (4, .int p4), (5, .int p5), (6, .int p6), (7, .long x7)] → W p l e (headSpec (Cond.code yX10_spelt cX10_spelt 9 (some .long) :: gT) ({ frames := 0, cells := 0, slots := 0, locals := 200 } : Room)).room s m ([.int p0, .int p1, .int p2, .int p3, .int p4, .int p5, .int p6] : List Value).toArray below meth c H locs 0 0 Q (F0 m 78 ls []) := by
    intro x7 H locs ls r_p0 r_p1 r_p2 r_p3 r_p4 r_p5 r_p6 r_x7 hE hw hl
    refine lv_iload hx hb dX10_spelt_78 (lv_at hl 5 rfl) ?_
    refine lv_if_le (tgt := 99) hx hb dX10_spelt_80 (by decide) (fun c_80 => ?_) (fun c_80 => ?_)
    · have r_p5 : RI p5 114 0 := rc_le1 r_p5 rl_0 (ti_le c_80) (by decide)
      exact (r_p5.no (by decide)).elim
    · refine lv_ldc2 (v := 27) hx hb hown (hts _ tw_1312) dX10_spelt_83 ?_
      refine lv_lload hx hb dX10_spelt_86 (lv_at hl 7 rfl) ?_
      refine lv_lmul hx hb dX10_spelt_88 (lv_topl (fun w_1 e_w_1 => ?_))
      have r_w_1 := tq_lmul (lo := 212302431) (hi := 212302431) rk_27 r_x7 (by decide +kernel) e_w_1
      have q_w_1 : (27 : Int64) * x7 = w_1 := e_w_1.symm
      refine lv_iload hx hb dX10_spelt_89 (lv_at hl 5 rfl) ?_
      obtain ⟨w_2, e_w_2⟩ : ∃ q9 : Int64, (p5 : Int32).toInt64 = q9 := ⟨_, rfl⟩
      refine lv_i2l (v := w_2) hx hb dX10_spelt_91 e_w_2 ?_
      have r_w_2 := tq_i2l r_p5 e_w_2
      have q_w_2 : Int32.toInt64 p5 = w_2 := e_w_2
      refine lv_ladd hx hb dX10_spelt_92 (lv_topl (fun w_3 e_w_3 => ?_))
      have r_w_3 := tq_ladd (lo := 212302545) (hi := 212302545) r_w_1 r_w_2 (by decide +kernel) e_w_3
      have q_w_3 : w_1 + w_2 = w_3 := e_w_3.symm
      refine lv_ldc2 (v := 96) hx hb hown (hts _ tw_1313) dX10_spelt_93 ?_
      refine lv_lsub hx hb dX10_spelt_96 (lv_topl (fun w_4 e_w_4 => ?_))
      have r_w_4 := tq_lsub (lo := 212302449) (hi := 212302449) r_w_3 rk_96 (by decide +kernel) e_w_4
      have q_w_4 : w_3 - (96 : Int64) = w_4 := e_w_4.symm
      refine lv_lstore (lv' := [(7, .long w_4), (0, .int p0), (1, .int p1), (2, .int p2), (3, .int p3), (4, .int p4), (5, .int p5), (6, .int p6)]) hx hb dX10_spelt_97 hl (by decide) rfl (fun ls hl => ?_)
      simp only [f_X10_spelt__30_78, ↓reduceIte, eq_false c_80, q_w_1, q_w_2, q_w_3, q_w_4] at hE
      exact B99 w_4 _ _ ls r_p0 r_p1 r_p2 r_p3 r_p4 r_p5 r_p6 r_w_4 hE hw (lv_sub hl [1, 2, 3, 4, 5, 6, 7, 0] rfl)
  have B57 : ∀ (x7 : Int64) (H : Heap) (locs : List Loc) (ls : Array Slot), RI p0 110 110 → RI p1 117 117 → RI p2 109 109 → RI p3 98 98 → RI p4 101 101 → RI p5 114 114 → RI p6 0 0 → RJ x7 291224 291224 → f_X10_spelt__30_57 p0 p1 p2 p3 p4 p5 p6 x7 = R9 → WD D cy GG A s wr_X10_spelt__58 wa_X10_spelt__58 Ps w0 Ps w0 H locs → lv_has ls 9 [(0, .int p0), (1, .int p1), (2, .int p2), (3, .int p3), (4, .int p4), (5, .int p5), (6, .int p6), (7, .long x7)] → W p l e (headSpec (Cond.code yX10_spelt cX10_spelt 9 (some .long) :: gT) ({ frames := 0, cells := 0, slots := 0, locals := 200 } : Room)).room s m ([.int p0, .int p1, .int p2, .int p3, .int p4, .int p5, .int p6] : List Value).toArray below meth c H locs 0 0 Q (F0 m 57 ls []) := by
    intro x7 H locs ls r_p0 r_p1 r_p2 r_p3 r_p4 r_p5 r_p6 r_x7 hE hw hl
    refine lv_iload hx hb dX10_spelt_57 (lv_at hl 4 rfl) ?_
    refine lv_if_le (tgt := 78) hx hb dX10_spelt_59 (by decide) (fun c_59 => ?_) (fun c_59 => ?_)
    · have r_p4 : RI p4 101 0 := rc_le1 r_p4 rl_0 (ti_le c_59) (by decide)
      exact (r_p4.no (by decide)).elim
    · refine lv_ldc2 (v := 27) hx hb hown (hts _ tw_1312) dX10_spelt_62 ?_
      refine lv_lload hx hb dX10_spelt_65 (lv_at hl 7 rfl) ?_
      refine lv_lmul hx hb dX10_spelt_67 (lv_topl (fun w_5 e_w_5 => ?_))
      have r_w_5 := tq_lmul (lo := 7863048) (hi := 7863048) rk_27 r_x7 (by decide +kernel) e_w_5
      have q_w_5 : (27 : Int64) * x7 = w_5 := e_w_5.symm
      refine lv_iload hx hb dX10_spelt_68 (lv_at hl 4 rfl) ?_
      obtain ⟨w_6, e_w_6⟩ : ∃ q9 : Int64, (p4 : Int32).toInt64 = q9 := ⟨_, rfl⟩
      refine lv_i2l (v := w_6) hx hb dX10_spelt_70 e_w_6 ?_
      have r_w_6 := tq_i2l r_p4 e_w_6
      have q_w_6 : Int32.toInt64 p4 = w_6 := e_w_6
      refine lv_ladd hx hb dX10_spelt_71 (lv_topl (fun w_7 e_w_7 => ?_))
      have r_w_7 := tq_ladd (lo := 7863149) (hi := 7863149) r_w_5 r_w_6 (by decide +kernel) e_w_7
      have q_w_7 : w_5 + w_6 = w_7 := e_w_7.symm
      refine lv_ldc2 (v := 96) hx hb hown (hts _ tw_1313) dX10_spelt_72 ?_
      refine lv_lsub hx hb dX10_spelt_75 (lv_topl (fun w_8 e_w_8 => ?_))
      have r_w_8 := tq_lsub (lo := 7863053) (hi := 7863053) r_w_7 rk_96 (by decide +kernel) e_w_8
      have q_w_8 : w_7 - (96 : Int64) = w_8 := e_w_8.symm
      refine lv_lstore (lv' := [(7, .long w_8), (0, .int p0), (1, .int p1), (2, .int p2), (3, .int p3), (4, .int p4), (5, .int p5), (6, .int p6)]) hx hb dX10_spelt_76 hl (by decide) rfl (fun ls hl => ?_)
      simp only [f_X10_spelt__30_57, ↓reduceIte, eq_false c_59, q_w_5, q_w_6, q_w_7, q_w_8] at hE
      exact B78 w_8 _ _ ls r_p0 r_p1 r_p2 r_p3 r_p4 r_p5 r_p6 r_w_8 hE hw (lv_sub hl [1, 2, 3, 4, 5, 6, 7, 0] rfl)
  have B38 : ∀ (x7 : Int64) (H : Heap) (locs : List Loc) (ls : Array Slot), RI p0 110 110 → RI p1 117 117 → RI p2 109 109 → RI p3 98 98 → RI p4 101 101 → RI p5 114 114 → RI p6 0 0 → RJ x7 10786 10786 → f_X10_spelt__30_38 p0 p1 p2 p3 p4 p5 p6 x7 = R9 → WD D cy GG A s wr_X10_spelt__58 wa_X10_spelt__58 Ps w0 Ps w0 H locs → lv_has ls 9 [(0, .int p0), (1, .int p1), (2, .int p2), (3, .int p3), (4, .int p4), (5, .int p5), (6, .int p6), (7, .long x7)] → W p l e (headSpec (Cond.code yX10_spelt cX10_spelt 9 (some .long) :: gT) ({ frames := 0, cells := 0, slots := 0, locals := 200 } : Room)).room s m ([.int p0, .int p1, .int p2, .int p3, .int p4, .int p5, .int p6] : List Value).toArray below meth c H locs 0 0 Q (F0 m 38 ls []) := by
    intro x7 H locs ls r_p0 r_p1 r_p2 r_p3 r_p4 r_p5 r_p6 r_x7 hE hw hl
    refine lv_iload_n hx hb dX10_spelt_38 rfl (lv_at hl 3 rfl) ?_
    refine lv_if_le (tgt := 57) hx hb dX10_spelt_39 (by decide) (fun c_39 => ?_) (fun c_39 => ?_)
    · have r_p3 : RI p3 98 0 := rc_le1 r_p3 rl_0 (ti_le c_39) (by decide)
      exact (r_p3.no (by decide)).elim
    · refine lv_ldc2 (v := 27) hx hb hown (hts _ tw_1312) dX10_spelt_42 ?_
      refine lv_lload hx hb dX10_spelt_45 (lv_at hl 7 rfl) ?_
      refine lv_lmul hx hb dX10_spelt_47 (lv_topl (fun w_9 e_w_9 => ?_))
      have r_w_9 := tq_lmul (lo := 291222) (hi := 291222) rk_27 r_x7 (by decide +kernel) e_w_9
      have q_w_9 : (27 : Int64) * x7 = w_9 := e_w_9.symm
      refine lv_iload_n hx hb dX10_spelt_48 rfl (lv_at hl 3 rfl) ?_
      obtain ⟨w_10, e_w_10⟩ : ∃ q9 : Int64, (p3 : Int32).toInt64 = q9 := ⟨_, rfl⟩
      refine lv_i2l (v := w_10) hx hb dX10_spelt_49 e_w_10 ?_
      have r_w_10 := tq_i2l r_p3 e_w_10
      have q_w_10 : Int32.toInt64 p3 = w_10 := e_w_10
      refine lv_ladd hx hb dX10_spelt_50 (lv_topl (fun w_11 e_w_11 => ?_))
      have r_w_11 := tq_ladd (lo := 291320) (hi := 291320) r_w_9 r_w_10 (by decide +kernel) e_w_11
      have q_w_11 : w_9 + w_10 = w_11 := e_w_11.symm
      refine lv_ldc2 (v := 96) hx hb hown (hts _ tw_1313) dX10_spelt_51 ?_
      refine lv_lsub hx hb dX10_spelt_54 (lv_topl (fun w_12 e_w_12 => ?_))
      have r_w_12 := tq_lsub (lo := 291224) (hi := 291224) r_w_11 rk_96 (by decide +kernel) e_w_12
      have q_w_12 : w_11 - (96 : Int64) = w_12 := e_w_12.symm
      refine lv_lstore (lv' := [(7, .long w_12), (0, .int p0), (1, .int p1), (2, .int p2), (3, .int p3), (4, .int p4), (5, .int p5), (6, .int p6)]) hx hb dX10_spelt_55 hl (by decide) rfl (fun ls hl => ?_)
      simp only [f_X10_spelt__30_38, ↓reduceIte, eq_false c_39, q_w_9, q_w_10, q_w_11, q_w_12] at hE
      exact B57 w_12 _ _ ls r_p0 r_p1 r_p2 r_p3 r_p4 r_p5 r_p6 r_w_12 hE hw (lv_sub hl [1, 2, 3, 4, 5, 6, 7, 0] rfl)
  refine lv_ldc2 (v := 27) hx hb hown (hts _ tw_1312) dX10_spelt_0 ?_
  refine lv_iload_n hx hb dX10_spelt_3 rfl (lv_at hl 0 rfl) ?_
  obtain ⟨w_13, e_w_13⟩ : ∃ q9 : Int64, (p0 : Int32).toInt64 = q9 := ⟨_, rfl⟩
  refine lv_i2l (v := w_13) hx hb dX10_spelt_4 e_w_13 ?_
  have r_w_13 := tq_i2l r_p0 e_w_13
  have q_w_13 : Int32.toInt64 p0 = w_13 := e_w_13
  refine lv_ldc2 (v := 96) hx hb hown (hts _ tw_1313) dX10_spelt_5 ?_
  refine lv_lsub hx hb dX10_spelt_8 (lv_topl (fun w_14 e_w_14 => ?_))
  have r_w_14 := tq_lsub (lo := 14) (hi := 14) r_w_13 rk_96 (by decide +kernel) e_w_14
  have q_w_14 : w_13 - (96 : Int64) = w_14 := e_w_14.symm
  refine lv_lmul hx hb dX10_spelt_9 (lv_topl (fun w_15 e_w_15 => ?_))
  have r_w_15 := tq_lmul (lo := 378) (hi := 378) rk_27 r_w_14 (by decide +kernel) e_w_15
  have q_w_15 : (27 : Int64) * w_14 = w_15 := e_w_15.symm
  refine lv_iload_n hx hb dX10_spelt_10 rfl (lv_at hl 1 rfl) ?_
  obtain ⟨w_16, e_w_16⟩ : ∃ q9 : Int64, (p1 : Int32).toInt64 = q9 := ⟨_, rfl⟩
  refine lv_i2l (v := w_16) hx hb dX10_spelt_11 e_w_16 ?_
  have r_w_16 := tq_i2l r_p1 e_w_16
  have q_w_16 : Int32.toInt64 p1 = w_16 := e_w_16
  refine lv_ladd hx hb dX10_spelt_12 (lv_topl (fun w_17 e_w_17 => ?_))
  have r_w_17 := tq_ladd (lo := 495) (hi := 495) r_w_15 r_w_16 (by decide +kernel) e_w_17
  have q_w_17 : w_15 + w_16 = w_17 := e_w_17.symm
  refine lv_ldc2 (v := 96) hx hb hown (hts _ tw_1313) dX10_spelt_13 ?_
  refine lv_lsub hx hb dX10_spelt_16 (lv_topl (fun w_18 e_w_18 => ?_))
  have r_w_18 := tq_lsub (lo := 399) (hi := 399) r_w_17 rk_96 (by decide +kernel) e_w_18
  have q_w_18 : w_17 - (96 : Int64) = w_18 := e_w_18.symm
  refine lv_lstore (lv' := [(7, .long w_18), (0, .int p0), (1, .int p1), (2, .int p2), (3, .int p3), (4, .int p4), (5, .int p5), (6, .int p6)]) hx hb dX10_spelt_17 hl (by decide) rfl (fun ls hl => ?_)
  refine lv_iload_n hx hb dX10_spelt_19 rfl (lv_at hl 3 rfl) ?_
  refine lv_if_le (tgt := 38) hx hb dX10_spelt_20 (by decide) (fun c_20 => ?_) (fun c_20 => ?_)
  · have r_p2 : RI p2 109 0 := rc_le1 r_p2 rl_0 (ti_le c_20) (by decide)
    exact (r_p2.no (by decide)).elim
  · refine lv_ldc2 (v := 27) hx hb hown (hts _ tw_1312) dX10_spelt_23 ?_
    refine lv_lload hx hb dX10_spelt_26 (lv_at hl 0 rfl) ?_
    refine lv_lmul hx hb dX10_spelt_28 (lv_topl (fun w_19 e_w_19 => ?_))
    have r_w_19 := tq_lmul (lo := 10773) (hi := 10773) rk_27 r_w_18 (by decide +kernel) e_w_19
    have q_w_19 : (27 : Int64) * w_18 = w_19 := e_w_19.symm
    refine lv_iload_n hx hb dX10_spelt_29 rfl (lv_at hl 3 rfl) ?_
    obtain ⟨w_20, e_w_20⟩ : ∃ q9 : Int64, (p2 : Int32).toInt64 = q9 := ⟨_, rfl⟩
    refine lv_i2l (v := w_20) hx hb dX10_spelt_30 e_w_20 ?_
    have r_w_20 := tq_i2l r_p2 e_w_20
    have q_w_20 : Int32.toInt64 p2 = w_20 := e_w_20
    refine lv_ladd hx hb dX10_spelt_31 (lv_topl (fun w_21 e_w_21 => ?_))
    have r_w_21 := tq_ladd (lo := 10882) (hi := 10882) r_w_19 r_w_20 (by decide +kernel) e_w_21
    have q_w_21 : w_19 + w_20 = w_21 := e_w_21.symm
    refine lv_ldc2 (v := 96) hx hb hown (hts _ tw_1313) dX10_spelt_32 ?_
    refine lv_lsub hx hb dX10_spelt_35 (lv_topl (fun w_22 e_w_22 => ?_))
    have r_w_22 := tq_lsub (lo := 10786) (hi := 10786) r_w_21 rk_96 (by decide +kernel) e_w_22
    have q_w_22 : w_21 - (96 : Int64) = w_22 := e_w_22.symm
    refine lv_lstore (lv' := [(7, .long w_22), (0, .int p0), (1, .int p1), (2, .int p2), (3, .int p3), (4, .int p4), (5, .int p5), (6, .int p6)]) hx hb dX10_spelt_36 hl (by decide) rfl (fun ls hl => ?_)
    simp only [f_X10_spelt__30, ↓reduceIte, q_w_13, q_w_14, q_w_15, q_w_16, q_w_17, q_w_18, eq_false c_20, q_w_19, q_w_20, q_w_21, q_w_22] at hE
    exact B38 w_22 _ _ ls r_p0 r_p1 r_p2 r_p3 r_p4 r_p5 r_p6 r_w_22 hE hw (lv_sub hl [1, 2, 3, 4, 5, 6, 7, 0] rfl)
abbrev wr_X10_spelt__59 : List (Nat × Nat) := []
abbrev wa_X10_spelt__59 : List Nat := []
set_option maxHeartbeats 4000000 in
set_option maxRecDepth 100000 in
theorem c_X10_spelt__59 (l : Launch) (D : va_G) (cy : Nat → ClassId) (z : Nat → Nat) (sz : Nat) (Ps : PSI) (w0 : va_W) (hT : HT cy GG Ps w0) (p0 : Int32) (p1 : Int32) (p2 : Int32) (p3 : Int32) (p4 : Int32) (p5 : Int32) (p6 : Int32) (r_p0 : RI p0 105 105) (r_p1 : RI p1 100 100) (r_p2 : RI p2 101 101) (r_p3 : RI p3 97 97) (r_p4 : RI p4 0 0) (r_p5 : RI p5 0 0) (r_p6 : RI p6 0 0) : Met l yX10_spelt (Cond.code yX10_spelt cX10_spelt 9 (some .long) :: gT) ({ frames := 0, cells := 0, slots := 0, locals := 200 } : Room) (va_Pc [.int p0, .int p1, .int p2, .int p3, .int p4, .int p5, .int p6] (PRE D cy z w0 sz)) (va_Ql (fun (r : Int64) (u : Unit) => ((f_X10_spelt__31 p0 p1 p2 p3 p4 p5 p6) = r ∧ True) ∧ (RJ r 180199 180199)) (BB D cy (va_A w0 sz) (fun (u : Unit) => w0)) (va_A w0 sz)) 0 0 (va_A w0 sz) := by
  refine Met.ofW (cc := cX10_spelt) (maxL := 9) (ret := (some .long)) (by decide) rfl ?_
  intro p e s m args below meth c s₁ B hml hv
  obtain ⟨rfl, hsz, hP, hK, hD0, hSD⟩ := hv
  have hx := B.exec
  have hb := B.bytes
  have hr := B.returns
  have hlocks := B.notSynchronized
  have hts : ∀ w ∈ gT, w.before _ s = true := fun w h => atoms_spec (ws := Cond.code yX10_spelt cX10_spelt 9 (some .long) :: gT) B.pre w (List.mem_cons_of_mem _ h)
  have hown : s.vm.findClass RX10 = some m.cls := findClass_of_methodNamed B.named
  subst hsz
  have hD := hD0.self (sz := s.heap.size)
  generalize hAe : va_A w0 s.heap.size = A at hD hSD ⊢
  have hA : ∀ q : Nat, s.heap.size ≤ q → A q := fun q h => by rw [← hAe]; exact Or.inr h
  have hl := lv_entry ([.int p0, .int p1, .int p2, .int p3, .int p4, .int p5, .int p6]) (n := 9) (Nat.le_of_ble_eq_true rfl)
  rw [lg_entry_eq]
  generalize (lg_sl ([.int p0, .int p1, .int p2, .int p3, .int p4, .int p5, .int p6]) ++ List.replicate (9 - (lg_sl ([.int p0, .int p1, .int p2, .int p3, .int p4, .int p5, .int p6])).length) Slot.unset).toArray = ls at hl ⊢
  have hl : lv_has ls 9 [(0, .int p0), (1, .int p1), (2, .int p2), (3, .int p3), (4, .int p4), (5, .int p5), (6, .int p6)] := hl
  refine nameQ (fun Q hQ => ?_)
  have hw : WD D cy GG A s wr_X10_spelt__59 wa_X10_spelt__59 Ps w0 Ps w0 s.heap [] := ⟨hT, hP, hD, va_S.rf, FR.rf, hT.1, [], (List.append_nil _).symm⟩
  obtain ⟨R9, hR⟩ : ∃ q9 : Int64, f_X10_spelt__31 p0 p1 p2 p3 p4 p5 p6 = q9 := ⟨_, rfl⟩
  have hE := hR
  have B99 : ∀ (x7 : Int64) (H : Heap) (locs : List Loc) (ls : Array Slot), RI p0 105 105 → RI p1 100 100 → RI p2 101 101 → RI p3 97 97 → RI p4 0 0 → RI p5 0 0 → RI p6 0 0 → RJ x7 180199 180199 → f_X10_spelt__31_99 p0 p1 p2 p3 p4 p5 p6 x7 = R9 → WD D cy GG A s wr_X10_spelt__59 wa_X10_spelt__59 Ps w0 Ps w0 H locs → lv_has ls 9 [(0, .int p0), (1, .int p1), (2, .int p2), (3, .int p3), (4, .int p4), (5, .int p5), (6, .int p6), (7, .long x7)] → W p l e (headSpec (Cond.code yX10_spelt cX10_spelt 9 (some .long) :: gT) ({ frames := 0, cells := 0, slots := 0, locals := 200 } : Room)).room s m ([.int p0, .int p1, .int p2, .int p3, .int p4, .int p5, .int p6] : List Value).toArray below meth c H locs 0 0 Q (F0 m 99 ls []) := by
    intro x7 H locs ls r_p0 r_p1 r_p2 r_p3 r_p4 r_p5 r_p6 r_x7 hE hw hl
    refine lv_iload hx hb dX10_spelt_99 (lv_at hl 6 rfl) ?_
    refine lv_if_le (tgt := 120) hx hb dX10_spelt_101 (by decide) (fun c_101 => ?_) (fun c_101 => ?_)
    · refine lv_lload hx hb dX10_spelt_120 (lv_at hl 7 rfl) ?_
      simp only [f_X10_spelt__31_99, ↓reduceIte, eq_true c_101] at hE
      subst hQ
      exact W.lret (v := x7) hx hb hr (fun t ht hW => ⟨⟨x7, (), rfl, ⟨⟨(by rw [hR, ← hE]), trivial⟩, r_x7.to (by decide)⟩, by rw [ht]; exact hw.2.1, va_K.moved hW.alike hK, hw.2.2.1⟩, hw.2.2.2.1.F ht⟩) hw.2.2.2.1.2.2 dX10_spelt_122
    · have r_p6 : RI p6 1 0 := rc_lt2 rl_0 r_p6 (ti_nle c_101) (by decide)
      exact (r_p6.no (by decide)).elim
  have B78 : ∀ (x7 : Int64) (H : Heap) (locs : List Loc) (ls : Array Slot), RI p0 105 105 → RI p1 100 100 → RI p2 101 101 → RI p3 97 97 → RI p4 0 0 → RI p5 0 0 → RI p6 0 0 → RJ x7 180199 180199 → f_X10_spelt__31_78 p0 p1 p2 p3 p4 p5 p6 x7 = R9 → WD D cy GG A s wr_X10_spelt__59 wa_X10_spelt__59 Ps w0 Ps w0 H locs → lv_has ls 9 [(0, .int p0), (1, .int p1), (2, .int p2), (3, .int p3), (4, .int p4), (5, .int p5), (6, .int p6), (7, .long x7)] → W p l e (headSpec (Cond.code yX10_spelt cX10_spelt 9 (some .long) :: gT) ({ frames := 0, cells := 0, slots := 0, locals := 200 } : Room)).room s m ([.int p0, .int p1, .int p2, .int p3, .int p4, .int p5, .int p6] : List Value).toArray below meth c H locs 0 0 Q (F0 m 78 ls []) := by
    intro x7 H locs ls r_p0 r_p1 r_p2 r_p3 r_p4 r_p5 r_p6 r_x7 hE hw hl
    refine lv_iload hx hb dX10_spelt_78 (lv_at hl 5 rfl) ?_
    refine lv_if_le (tgt := 99) hx hb dX10_spelt_80 (by decide) (fun c_80 => ?_) (fun c_80 => ?_)
    · simp only [f_X10_spelt__31_78, ↓reduceIte, eq_true c_80] at hE
      exact B99 x7 _ _ ls r_p0 r_p1 r_p2 r_p3 r_p4 r_p5 r_p6 r_x7 hE hw hl
    · have r_p5 : RI p5 1 0 := rc_lt2 rl_0 r_p5 (ti_nle c_80) (by decide)
      exact (r_p5.no (by decide)).elim
  have B57 : ∀ (x7 : Int64) (H : Heap) (locs : List Loc) (ls : Array Slot), RI p0 105 105 → RI p1 100 100 → RI p2 101 101 → RI p3 97 97 → RI p4 0 0 → RI p5 0 0 → RI p6 0 0 → RJ x7 180199 180199 → f_X10_spelt__31_57 p0 p1 p2 p3 p4 p5 p6 x7 = R9 → WD D cy GG A s wr_X10_spelt__59 wa_X10_spelt__59 Ps w0 Ps w0 H locs → lv_has ls 9 [(0, .int p0), (1, .int p1), (2, .int p2), (3, .int p3), (4, .int p4), (5, .int p5), (6, .int p6), (7, .long x7)] → W p l e (headSpec (Cond.code yX10_spelt cX10_spelt 9 (some .long) :: gT) ({ frames := 0, cells := 0, slots := 0, locals := 200 } : Room)).room s m ([.int p0, .int p1, .int p2, .int p3, .int p4, .int p5, .int p6] : List Value).toArray below meth c H locs 0 0 Q (F0 m 57 ls []) := by
    intro x7 H locs ls r_p0 r_p1 r_p2 r_p3 r_p4 r_p5 r_p6 r_x7 hE hw hl
    refine lv_iload hx hb dX10_spelt_57 (lv_at hl 4 rfl) ?_
    refine lv_if_le (tgt := 78) hx hb dX10_spelt_59 (by decide) (fun c_59 => ?_) (fun c_59 => ?_)
    · simp only [f_X10_spelt__31_57, ↓reduceIte, eq_true c_59] at hE
      exact B78 x7 _ _ ls r_p0 r_p1 r_p2 r_p3 r_p4 r_p5 r_p6 r_x7 hE hw hl
    · have r_p4 : RI p4 1 0 := rc_lt2 rl_0 r_p4 (ti_nle c_59) (by decide)
      exact (r_p4.no (by decide)).elim
  have B38 : ∀ (x7 : Int64) (H : Heap) (locs : List Loc) (ls : Array Slot), RI p0 105 105 → RI p1 100 100 → RI p2 101 101 → RI p3 97 97 → RI p4 0 0 → RI p5 0 0 → RI p6 0 0 → RJ x7 6674 6674 → f_X10_spelt__31_38 p0 p1 p2 p3 p4 p5 p6 x7 = R9 → WD D cy GG A s wr_X10_spelt__59 wa_X10_spelt__59 Ps w0 Ps w0 H locs → lv_has ls 9 [(0, .int p0), (1, .int p1), (2, .int p2), (3, .int p3), (4, .int p4), (5, .int p5), (6, .int p6), (7, .long x7)] → W p l e (headSpec (Cond.code yX10_spelt cX10_spelt 9 (some .long) :: gT) ({ frames := 0, cells := 0, slots := 0, locals := 200 } : Room)).room s m ([.int p0, .int p1, .int p2, .int p3, .int p4, .int p5, .int p6] : List Value).toArray below meth c H locs 0 0 Q (F0 m 38 ls []) := by
    intro x7 H locs ls r_p0 r_p1 r_p2 r_p3 r_p4 r_p5 r_p6 r_x7 hE hw hl
    refine lv_iload_n hx hb dX10_spelt_38 rfl (lv_at hl 3 rfl) ?_
    refine lv_if_le (tgt := 57) hx hb dX10_spelt_39 (by decide) (fun c_39 => ?_) (fun c_39 => ?_)
    · have r_p3 : RI p3 97 0 := rc_le1 r_p3 rl_0 (ti_le c_39) (by decide)
      exact (r_p3.no (by decide)).elim
    · refine lv_ldc2 (v := 27) hx hb hown (hts _ tw_1312) dX10_spelt_42 ?_
      refine lv_lload hx hb dX10_spelt_45 (lv_at hl 7 rfl) ?_
      refine lv_lmul hx hb dX10_spelt_47 (lv_topl (fun w_1 e_w_1 => ?_))
      have r_w_1 := tq_lmul (lo := 180198) (hi := 180198) rk_27 r_x7 (by decide +kernel) e_w_1
      have q_w_1 : (27 : Int64) * x7 = w_1 := e_w_1.symm
      refine lv_iload_n hx hb dX10_spelt_48 rfl (lv_at hl 3 rfl) ?_
      obtain ⟨w_2, e_w_2⟩ : ∃ q9 : Int64, (p3 : Int32).toInt64 = q9 := ⟨_, rfl⟩
      refine lv_i2l (v := w_2) hx hb dX10_spelt_49 e_w_2 ?_
      have r_w_2 := tq_i2l r_p3 e_w_2
      have q_w_2 : Int32.toInt64 p3 = w_2 := e_w_2
      refine lv_ladd hx hb dX10_spelt_50 (lv_topl (fun w_3 e_w_3 => ?_))
      have r_w_3 := tq_ladd (lo := 180295) (hi := 180295) r_w_1 r_w_2 (by decide +kernel) e_w_3
      have q_w_3 : w_1 + w_2 = w_3 := e_w_3.symm
      refine lv_ldc2 (v := 96) hx hb hown (hts _ tw_1313) dX10_spelt_51 ?_
      refine lv_lsub hx hb dX10_spelt_54 (lv_topl (fun w_4 e_w_4 => ?_))
      have r_w_4 := tq_lsub (lo := 180199) (hi := 180199) r_w_3 rk_96 (by decide +kernel) e_w_4
      have q_w_4 : w_3 - (96 : Int64) = w_4 := e_w_4.symm
      refine lv_lstore (lv' := [(7, .long w_4), (0, .int p0), (1, .int p1), (2, .int p2), (3, .int p3), (4, .int p4), (5, .int p5), (6, .int p6)]) hx hb dX10_spelt_55 hl (by decide) rfl (fun ls hl => ?_)
      simp only [f_X10_spelt__31_38, ↓reduceIte, eq_false c_39, q_w_1, q_w_2, q_w_3, q_w_4] at hE
      exact B57 w_4 _ _ ls r_p0 r_p1 r_p2 r_p3 r_p4 r_p5 r_p6 r_w_4 hE hw (lv_sub hl [1, 2, 3, 4, 5, 6, 7, 0] rfl)
  refine lv_ldc2 (v := 27) hx hb hown (hts _ tw_1312) dX10_spelt_0 ?_
  refine lv_iload_n hx hb dX10_spelt_3 rfl (lv_at hl 0 rfl) ?_
  obtain ⟨w_5, e_w_5⟩ : ∃ q9 : Int64, (p0 : Int32).toInt64 = q9 := ⟨_, rfl⟩
  refine lv_i2l (v := w_5) hx hb dX10_spelt_4 e_w_5 ?_
  have r_w_5 := tq_i2l r_p0 e_w_5
  have q_w_5 : Int32.toInt64 p0 = w_5 := e_w_5
  refine lv_ldc2 (v := 96) hx hb hown (hts _ tw_1313) dX10_spelt_5 ?_
  refine lv_lsub hx hb dX10_spelt_8 (lv_topl (fun w_6 e_w_6 => ?_))
  have r_w_6 := tq_lsub (lo := 9) (hi := 9) r_w_5 rk_96 (by decide +kernel) e_w_6
  have q_w_6 : w_5 - (96 : Int64) = w_6 := e_w_6.symm
  refine lv_lmul hx hb dX10_spelt_9 (lv_topl (fun w_7 e_w_7 => ?_))
  have r_w_7 := tq_lmul (lo := 243) (hi := 243) rk_27 r_w_6 (by decide +kernel) e_w_7
  have q_w_7 : (27 : Int64) * w_6 = w_7 := e_w_7.symm
  refine lv_iload_n hx hb dX10_spelt_10 rfl (lv_at hl 1 rfl) ?_
  obtain ⟨w_8, e_w_8⟩ : ∃ q9 : Int64, (p1 : Int32).toInt64 = q9 := ⟨_, rfl⟩
  refine lv_i2l (v := w_8) hx hb dX10_spelt_11 e_w_8 ?_
  have r_w_8 := tq_i2l r_p1 e_w_8
  have q_w_8 : Int32.toInt64 p1 = w_8 := e_w_8
  refine lv_ladd hx hb dX10_spelt_12 (lv_topl (fun w_9 e_w_9 => ?_))
  have r_w_9 := tq_ladd (lo := 343) (hi := 343) r_w_7 r_w_8 (by decide +kernel) e_w_9
  have q_w_9 : w_7 + w_8 = w_9 := e_w_9.symm
  refine lv_ldc2 (v := 96) hx hb hown (hts _ tw_1313) dX10_spelt_13 ?_
  refine lv_lsub hx hb dX10_spelt_16 (lv_topl (fun w_10 e_w_10 => ?_))
  have r_w_10 := tq_lsub (lo := 247) (hi := 247) r_w_9 rk_96 (by decide +kernel) e_w_10
  have q_w_10 : w_9 - (96 : Int64) = w_10 := e_w_10.symm
  refine lv_lstore (lv' := [(7, .long w_10), (0, .int p0), (1, .int p1), (2, .int p2), (3, .int p3), (4, .int p4), (5, .int p5), (6, .int p6)]) hx hb dX10_spelt_17 hl (by decide) rfl (fun ls hl => ?_)
  refine lv_iload_n hx hb dX10_spelt_19 rfl (lv_at hl 3 rfl) ?_
  refine lv_if_le (tgt := 38) hx hb dX10_spelt_20 (by decide) (fun c_20 => ?_) (fun c_20 => ?_)
  · have r_p2 : RI p2 101 0 := rc_le1 r_p2 rl_0 (ti_le c_20) (by decide)
    exact (r_p2.no (by decide)).elim
  · refine lv_ldc2 (v := 27) hx hb hown (hts _ tw_1312) dX10_spelt_23 ?_
    refine lv_lload hx hb dX10_spelt_26 (lv_at hl 0 rfl) ?_
    refine lv_lmul hx hb dX10_spelt_28 (lv_topl (fun w_11 e_w_11 => ?_))
    have r_w_11 := tq_lmul (lo := 6669) (hi := 6669) rk_27 r_w_10 (by decide +kernel) e_w_11
    have q_w_11 : (27 : Int64) * w_10 = w_11 := e_w_11.symm
    refine lv_iload_n hx hb dX10_spelt_29 rfl (lv_at hl 3 rfl) ?_
    obtain ⟨w_12, e_w_12⟩ : ∃ q9 : Int64, (p2 : Int32).toInt64 = q9 := ⟨_, rfl⟩
    refine lv_i2l (v := w_12) hx hb dX10_spelt_30 e_w_12 ?_
    have r_w_12 := tq_i2l r_p2 e_w_12
    have q_w_12 : Int32.toInt64 p2 = w_12 := e_w_12
    refine lv_ladd hx hb dX10_spelt_31 (lv_topl (fun w_13 e_w_13 => ?_))
    have r_w_13 := tq_ladd (lo := 6770) (hi := 6770) r_w_11 r_w_12 (by decide +kernel) e_w_13
    have q_w_13 : w_11 + w_12 = w_13 := e_w_13.symm
    refine lv_ldc2 (v := 96) hx hb hown (hts _ tw_1313) dX10_spelt_32 ?_
    refine lv_lsub hx hb dX10_spelt_35 (lv_topl (fun w_14 e_w_14 => ?_))
    have r_w_14 := tq_lsub (lo := 6674) (hi := 6674) r_w_13 rk_96 (by decide +kernel) e_w_14
    have q_w_14 : w_13 - (96 : Int64) = w_14 := e_w_14.symm
    refine lv_lstore (lv' := [(7, .long w_14), (0, .int p0), (1, .int p1), (2, .int p2), (3, .int p3), (4, .int p4), (5, .int p5), (6, .int p6)]) hx hb dX10_spelt_36 hl (by decide) rfl (fun ls hl => ?_)
    simp only [f_X10_spelt__31, ↓reduceIte, q_w_5, q_w_6, q_w_7, q_w_8, q_w_9, q_w_10, eq_false c_20, q_w_11, q_w_12, q_w_13, q_w_14] at hE
    exact B38 w_14 _ _ ls r_p0 r_p1 r_p2 r_p3 r_p4 r_p5 r_p6 r_w_14 hE hw (lv_sub hl [1, 2, 3, 4, 5, 6, 7, 0] rfl)
abbrev wr_X10_spelt__60 : List (Nat × Nat) := []
abbrev wa_X10_spelt__60 : List Nat := []
set_option maxHeartbeats 4000000 in
set_option maxRecDepth 100000 in
theorem c_X10_spelt__60 (l : Launch) (D : va_G) (cy : Nat → ClassId) (z : Nat → Nat) (sz : Nat) (Ps : PSI) (w0 : va_W) (hT : HT cy GG Ps w0) (p0 : Int32) (p1 : Int32) (p2 : Int32) (p3 : Int32) (p4 : Int32) (p5 : Int32) (p6 : Int32) (r_p0 : RI p0 114 114) (r_p1 : RI p1 111 111) (r_p2 : RI p2 111 111) (r_p3 : RI p3 109 109) (r_p4 : RI p4 0 0) (r_p5 : RI p5 0 0) (r_p6 : RI p6 0 0) : Met l yX10_spelt (Cond.code yX10_spelt cX10_spelt 9 (some .long) :: gT) ({ frames := 0, cells := 0, slots := 0, locals := 200 } : Room) (va_Pc [.int p0, .int p1, .int p2, .int p3, .int p4, .int p5, .int p6] (PRE D cy z w0 sz)) (va_Ql (fun (r : Int64) (u : Unit) => ((f_X10_spelt__31 p0 p1 p2 p3 p4 p5 p6) = r ∧ True) ∧ (RJ r 365647 365647)) (BB D cy (va_A w0 sz) (fun (u : Unit) => w0)) (va_A w0 sz)) 0 0 (va_A w0 sz) := by
  refine Met.ofW (cc := cX10_spelt) (maxL := 9) (ret := (some .long)) (by decide) rfl ?_
  intro p e s m args below meth c s₁ B hml hv
  obtain ⟨rfl, hsz, hP, hK, hD0, hSD⟩ := hv
  have hx := B.exec
  have hb := B.bytes
  have hr := B.returns
  have hlocks := B.notSynchronized
  have hts : ∀ w ∈ gT, w.before _ s = true := fun w h => atoms_spec (ws := Cond.code yX10_spelt cX10_spelt 9 (some .long) :: gT) B.pre w (List.mem_cons_of_mem _ h)
  have hown : s.vm.findClass RX10 = some m.cls := findClass_of_methodNamed B.named
  subst hsz
  have hD := hD0.self (sz := s.heap.size)
  generalize hAe : va_A w0 s.heap.size = A at hD hSD ⊢
  have hA : ∀ q : Nat, s.heap.size ≤ q → A q := fun q h => by rw [← hAe]; exact Or.inr h
  have hl := lv_entry ([.int p0, .int p1, .int p2, .int p3, .int p4, .int p5, .int p6]) (n := 9) (Nat.le_of_ble_eq_true rfl)
  rw [lg_entry_eq]
  generalize (lg_sl ([.int p0, .int p1, .int p2, .int p3, .int p4, .int p5, .int p6]) ++ List.replicate (9 - (lg_sl ([.int p0, .int p1, .int p2, .int p3, .int p4, .int p5, .int p6])).length) Slot.unset).toArray = ls at hl ⊢
  have hl : lv_has ls 9 [(0, .int p0), (1, .int p1), (2, .int p2), (3, .int p3), (4, .int p4), (5, .int p5), (6, .int p6)] := hl
  refine nameQ (fun Q hQ => ?_)
  have hw : WD D cy GG A s wr_X10_spelt__60 wa_X10_spelt__60 Ps w0 Ps w0 s.heap [] := ⟨hT, hP, hD, va_S.rf, FR.rf, hT.1, [], (List.append_nil _).symm⟩
  obtain ⟨R9, hR⟩ : ∃ q9 : Int64, f_X10_spelt__31 p0 p1 p2 p3 p4 p5 p6 = q9 := ⟨_, rfl⟩
  have hE := hR
  have B99 : ∀ (x7 : Int64) (H : Heap) (locs : List Loc) (ls : Array Slot), RI p0 114 114 → RI p1 111 111 → RI p2 111 111 → RI p3 109 109 → RI p4 0 0 → RI p5 0 0 → RI p6 0 0 → RJ x7 365647 365647 → f_X10_spelt__31_99 p0 p1 p2 p3 p4 p5 p6 x7 = R9 → WD D cy GG A s wr_X10_spelt__60 wa_X10_spelt__60 Ps w0 Ps w0 H locs → lv_has ls 9 [(0, .int p0), (1, .int p1), (2, .int p2), (3, .int p3), (4, .int p4), (5, .int p5), (6, .int p6), (7, .long x7)] → W p l e (headSpec (Cond.code yX10_spelt cX10_spelt 9 (some .long) :: gT) ({ frames := 0, cells := 0, slots := 0, locals := 200 } : Room)).room s m ([.int p0, .int p1, .int p2, .int p3, .int p4, .int p5, .int p6] : List Value).toArray below meth c H locs 0 0 Q (F0 m 99 ls []) := by
    intro x7 H locs ls r_p0 r_p1 r_p2 r_p3 r_p4 r_p5 r_p6 r_x7 hE hw hl
    refine lv_iload hx hb dX10_spelt_99 (lv_at hl 6 rfl) ?_
    refine lv_if_le (tgt := 120) hx hb dX10_spelt_101 (by decide) (fun c_101 => ?_) (fun c_101 => ?_)
    · refine lv_lload hx hb dX10_spelt_120 (lv_at hl 7 rfl) ?_
      simp only [f_X10_spelt__31_99, ↓reduceIte, eq_true c_101] at hE
      subst hQ
      exact W.lret (v := x7) hx hb hr (fun t ht hW => ⟨⟨x7, (), rfl, ⟨⟨(by rw [hR, ← hE]), trivial⟩, r_x7.to (by decide)⟩, by rw [ht]; exact hw.2.1, va_K.moved hW.alike hK, hw.2.2.1⟩, hw.2.2.2.1.F ht⟩) hw.2.2.2.1.2.2 dX10_spelt_122
    · have r_p6 : RI p6 1 0 := rc_lt2 rl_0 r_p6 (ti_nle c_101) (by decide)
      exact (r_p6.no (by decide)).elim
  have B78 : ∀ (x7 : Int64) (H : Heap) (locs : List Loc) (ls : Array Slot), RI p0 114 114 → RI p1 111 111 → RI p2 111 111 → RI p3 109 109 → RI p4 0 0 → RI p5 0 0 → RI p6 0 0 → RJ x7 365647 365647 → f_X10_spelt__31_78 p0 p1 p2 p3 p4 p5 p6 x7 = R9 → WD D cy GG A s wr_X10_spelt__60 wa_X10_spelt__60 Ps w0 Ps w0 H locs → lv_has ls 9 [(0, .int p0), (1, .int p1), (2, .int p2), (3, .int p3), (4, .int p4), (5, .int p5), (6, .int p6), (7, .long x7)] → W p l e (headSpec (Cond.code yX10_spelt cX10_spelt 9 (some .long) :: gT) ({ frames := 0, cells := 0, slots := 0, locals := 200 } : Room)).room s m ([.int p0, .int p1, .int p2, .int p3, .int p4, .int p5, .int p6] : List Value).toArray below meth c H locs 0 0 Q (F0 m 78 ls []) := by
    intro x7 H locs ls r_p0 r_p1 r_p2 r_p3 r_p4 r_p5 r_p6 r_x7 hE hw hl
    refine lv_iload hx hb dX10_spelt_78 (lv_at hl 5 rfl) ?_
    refine lv_if_le (tgt := 99) hx hb dX10_spelt_80 (by decide) (fun c_80 => ?_) (fun c_80 => ?_)
    · simp only [f_X10_spelt__31_78, ↓reduceIte, eq_true c_80] at hE
      exact B99 x7 _ _ ls r_p0 r_p1 r_p2 r_p3 r_p4 r_p5 r_p6 r_x7 hE hw hl
    · have r_p5 : RI p5 1 0 := rc_lt2 rl_0 r_p5 (ti_nle c_80) (by decide)
      exact (r_p5.no (by decide)).elim
  have B57 : ∀ (x7 : Int64) (H : Heap) (locs : List Loc) (ls : Array Slot), RI p0 114 114 → RI p1 111 111 → RI p2 111 111 → RI p3 109 109 → RI p4 0 0 → RI p5 0 0 → RI p6 0 0 → RJ x7 365647 365647 → f_X10_spelt__31_57 p0 p1 p2 p3 p4 p5 p6 x7 = R9 → WD D cy GG A s wr_X10_spelt__60 wa_X10_spelt__60 Ps w0 Ps w0 H locs → lv_has ls 9 [(0, .int p0), (1, .int p1), (2, .int p2), (3, .int p3), (4, .int p4), (5, .int p5), (6, .int p6), (7, .long x7)] → W p l e (headSpec (Cond.code yX10_spelt cX10_spelt 9 (some .long) :: gT) ({ frames := 0, cells := 0, slots := 0, locals := 200 } : Room)).room s m ([.int p0, .int p1, .int p2, .int p3, .int p4, .int p5, .int p6] : List Value).toArray below meth c H locs 0 0 Q (F0 m 57 ls []) := by
    intro x7 H locs ls r_p0 r_p1 r_p2 r_p3 r_p4 r_p5 r_p6 r_x7 hE hw hl
    refine lv_iload hx hb dX10_spelt_57 (lv_at hl 4 rfl) ?_
    refine lv_if_le (tgt := 78) hx hb dX10_spelt_59 (by decide) (fun c_59 => ?_) (fun c_59 => ?_)
    · simp only [f_X10_spelt__31_57, ↓reduceIte, eq_true c_59] at hE
      exact B78 x7 _ _ ls r_p0 r_p1 r_p2 r_p3 r_p4 r_p5 r_p6 r_x7 hE hw hl
    · have r_p4 : RI p4 1 0 := rc_lt2 rl_0 r_p4 (ti_nle c_59) (by decide)
      exact (r_p4.no (by decide)).elim
  have B38 : ∀ (x7 : Int64) (H : Heap) (locs : List Loc) (ls : Array Slot), RI p0 114 114 → RI p1 111 111 → RI p2 111 111 → RI p3 109 109 → RI p4 0 0 → RI p5 0 0 → RI p6 0 0 → RJ x7 13542 13542 → f_X10_spelt__31_38 p0 p1 p2 p3 p4 p5 p6 x7 = R9 → WD D cy GG A s wr_X10_spelt__60 wa_X10_spelt__60 Ps w0 Ps w0 H locs → lv_has ls 9 [(0, .int p0), (1, .int p1), (2, .int p2), (3, .int p3), (4, .int p4), (5, .int p5), (6, .int p6), (7, .long x7)] → W p l e (headSpec (Cond.code yX10_spelt cX10_spelt 9 (some .long) :: gT) ({ frames := 0, cells := 0, slots := 0, locals := 200 } : Room)).room s m ([.int p0, .int p1, .int p2, .int p3, .int p4, .int p5, .int p6] : List Value).toArray below meth c H locs 0 0 Q (F0 m 38 ls []) := by
    intro x7 H locs ls r_p0 r_p1 r_p2 r_p3 r_p4 r_p5 r_p6 r_x7 hE hw hl
    refine lv_iload_n hx hb dX10_spelt_38 rfl (lv_at hl 3 rfl) ?_
    refine lv_if_le (tgt := 57) hx hb dX10_spelt_39 (by decide) (fun c_39 => ?_) (fun c_39 => ?_)
    · have r_p3 : RI p3 109 0 := rc_le1 r_p3 rl_0 (ti_le c_39) (by decide)
      exact (r_p3.no (by decide)).elim
    · refine lv_ldc2 (v := 27) hx hb hown (hts _ tw_1312) dX10_spelt_42 ?_
      refine lv_lload hx hb dX10_spelt_45 (lv_at hl 7 rfl) ?_
      refine lv_lmul hx hb dX10_spelt_47 (lv_topl (fun w_1 e_w_1 => ?_))
      have r_w_1 := tq_lmul (lo := 365634) (hi := 365634) rk_27 r_x7 (by decide +kernel) e_w_1
      have q_w_1 : (27 : Int64) * x7 = w_1 := e_w_1.symm
      refine lv_iload_n hx hb dX10_spelt_48 rfl (lv_at hl 3 rfl) ?_
      obtain ⟨w_2, e_w_2⟩ : ∃ q9 : Int64, (p3 : Int32).toInt64 = q9 := ⟨_, rfl⟩
      refine lv_i2l (v := w_2) hx hb dX10_spelt_49 e_w_2 ?_
      have r_w_2 := tq_i2l r_p3 e_w_2
      have q_w_2 : Int32.toInt64 p3 = w_2 := e_w_2
      refine lv_ladd hx hb dX10_spelt_50 (lv_topl (fun w_3 e_w_3 => ?_))
      have r_w_3 := tq_ladd (lo := 365743) (hi := 365743) r_w_1 r_w_2 (by decide +kernel) e_w_3
      have q_w_3 : w_1 + w_2 = w_3 := e_w_3.symm
      refine lv_ldc2 (v := 96) hx hb hown (hts _ tw_1313) dX10_spelt_51 ?_
      refine lv_lsub hx hb dX10_spelt_54 (lv_topl (fun w_4 e_w_4 => ?_))
      have r_w_4 := tq_lsub (lo := 365647) (hi := 365647) r_w_3 rk_96 (by decide +kernel) e_w_4
      have q_w_4 : w_3 - (96 : Int64) = w_4 := e_w_4.symm
      refine lv_lstore (lv' := [(7, .long w_4), (0, .int p0), (1, .int p1), (2, .int p2), (3, .int p3), (4, .int p4), (5, .int p5), (6, .int p6)]) hx hb dX10_spelt_55 hl (by decide) rfl (fun ls hl => ?_)
      simp only [f_X10_spelt__31_38, ↓reduceIte, eq_false c_39, q_w_1, q_w_2, q_w_3, q_w_4] at hE
      exact B57 w_4 _ _ ls r_p0 r_p1 r_p2 r_p3 r_p4 r_p5 r_p6 r_w_4 hE hw (lv_sub hl [1, 2, 3, 4, 5, 6, 7, 0] rfl)
  refine lv_ldc2 (v := 27) hx hb hown (hts _ tw_1312) dX10_spelt_0 ?_
  refine lv_iload_n hx hb dX10_spelt_3 rfl (lv_at hl 0 rfl) ?_
  obtain ⟨w_5, e_w_5⟩ : ∃ q9 : Int64, (p0 : Int32).toInt64 = q9 := ⟨_, rfl⟩
  refine lv_i2l (v := w_5) hx hb dX10_spelt_4 e_w_5 ?_
  have r_w_5 := tq_i2l r_p0 e_w_5
  have q_w_5 : Int32.toInt64 p0 = w_5 := e_w_5
  refine lv_ldc2 (v := 96) hx hb hown (hts _ tw_1313) dX10_spelt_5 ?_
  refine lv_lsub hx hb dX10_spelt_8 (lv_topl (fun w_6 e_w_6 => ?_))
  have r_w_6 := tq_lsub (lo := 18) (hi := 18) r_w_5 rk_96 (by decide +kernel) e_w_6
  have q_w_6 : w_5 - (96 : Int64) = w_6 := e_w_6.symm
  refine lv_lmul hx hb dX10_spelt_9 (lv_topl (fun w_7 e_w_7 => ?_))
  have r_w_7 := tq_lmul (lo := 486) (hi := 486) rk_27 r_w_6 (by decide +kernel) e_w_7
  have q_w_7 : (27 : Int64) * w_6 = w_7 := e_w_7.symm
  refine lv_iload_n hx hb dX10_spelt_10 rfl (lv_at hl 1 rfl) ?_
  obtain ⟨w_8, e_w_8⟩ : ∃ q9 : Int64, (p1 : Int32).toInt64 = q9 := ⟨_, rfl⟩
  refine lv_i2l (v := w_8) hx hb dX10_spelt_11 e_w_8 ?_
  have r_w_8 := tq_i2l r_p1 e_w_8
  have q_w_8 : Int32.toInt64 p1 = w_8 := e_w_8
  refine lv_ladd hx hb dX10_spelt_12 (lv_topl (fun w_9 e_w_9 => ?_))
  have r_w_9 := tq_ladd (lo := 597) (hi := 597) r_w_7 r_w_8 (by decide +kernel) e_w_9
  have q_w_9 : w_7 + w_8 = w_9 := e_w_9.symm
  refine lv_ldc2 (v := 96) hx hb hown (hts _ tw_1313) dX10_spelt_13 ?_
  refine lv_lsub hx hb dX10_spelt_16 (lv_topl (fun w_10 e_w_10 => ?_))
  have r_w_10 := tq_lsub (lo := 501) (hi := 501) r_w_9 rk_96 (by decide +kernel) e_w_10
  have q_w_10 : w_9 - (96 : Int64) = w_10 := e_w_10.symm
  refine lv_lstore (lv' := [(7, .long w_10), (0, .int p0), (1, .int p1), (2, .int p2), (3, .int p3), (4, .int p4), (5, .int p5), (6, .int p6)]) hx hb dX10_spelt_17 hl (by decide) rfl (fun ls hl => ?_)
  refine lv_iload_n hx hb dX10_spelt_19 rfl (lv_at hl 3 rfl) ?_
  refine lv_if_le (tgt := 38) hx hb dX10_spelt_20 (by decide) (fun c_20 => ?_) (fun c_20 => ?_)
  · have r_p2 : RI p2 111 0 := rc_le1 r_p2 rl_0 (ti_le c_20) (by decide)
    exact (r_p2.no (by decide)).elim
  · refine lv_ldc2 (v := 27) hx hb hown (hts _ tw_1312) dX10_spelt_23 ?_
    refine lv_lload hx hb dX10_spelt_26 (lv_at hl 0 rfl) ?_
    refine lv_lmul hx hb dX10_spelt_28 (lv_topl (fun w_11 e_w_11 => ?_))
    have r_w_11 := tq_lmul (lo := 13527) (hi := 13527) rk_27 r_w_10 (by decide +kernel) e_w_11
    have q_w_11 : (27 : Int64) * w_10 = w_11 := e_w_11.symm
    refine lv_iload_n hx hb dX10_spelt_29 rfl (lv_at hl 3 rfl) ?_
    obtain ⟨w_12, e_w_12⟩ : ∃ q9 : Int64, (p2 : Int32).toInt64 = q9 := ⟨_, rfl⟩
    refine lv_i2l (v := w_12) hx hb dX10_spelt_30 e_w_12 ?_
    have r_w_12 := tq_i2l r_p2 e_w_12
    have q_w_12 : Int32.toInt64 p2 = w_12 := e_w_12
    refine lv_ladd hx hb dX10_spelt_31 (lv_topl (fun w_13 e_w_13 => ?_))
    have r_w_13 := tq_ladd (lo := 13638) (hi := 13638) r_w_11 r_w_12 (by decide +kernel) e_w_13
    have q_w_13 : w_11 + w_12 = w_13 := e_w_13.symm
    refine lv_ldc2 (v := 96) hx hb hown (hts _ tw_1313) dX10_spelt_32 ?_
    refine lv_lsub hx hb dX10_spelt_35 (lv_topl (fun w_14 e_w_14 => ?_))
    have r_w_14 := tq_lsub (lo := 13542) (hi := 13542) r_w_13 rk_96 (by decide +kernel) e_w_14
    have q_w_14 : w_13 - (96 : Int64) = w_14 := e_w_14.symm
    refine lv_lstore (lv' := [(7, .long w_14), (0, .int p0), (1, .int p1), (2, .int p2), (3, .int p3), (4, .int p4), (5, .int p5), (6, .int p6)]) hx hb dX10_spelt_36 hl (by decide) rfl (fun ls hl => ?_)
    simp only [f_X10_spelt__31, ↓reduceIte, q_w_5, q_w_6, q_w_7, q_w_8, q_w_9, q_w_10, eq_false c_20, q_w_11, q_w_12, q_w_13, q_w_14] at hE
    exact B38 w_14 _ _ ls r_p0 r_p1 r_p2 r_p3 r_p4 r_p5 r_p6 r_w_14 hE hw (lv_sub hl [1, 2, 3, 4, 5, 6, 7, 0] rfl)
