abbrev wr_X3_beginsLine__21 : List (Nat × Nat) := [(7, 5), (7, 6), (7, 7), (7, 8), (7, 9), (7, 10), (7, 11)]
abbrev wa_X3_beginsLine__21 : List Nat := []
set_option maxHeartbeats 4000000 in
set_option maxRecDepth 100000 in
theorem c_X3_beginsLine__21 (l : Launch) (D : va_G) (cy : Nat → ClassId) (z : Nat → Nat) (sz : Nat) (Ps : PSI) (w0 : va_W) (hT : HT cy GG Ps w0) (p0 : Nat) (p1 : Nat) (p2 : Int32) (f1_10 : Int32) (s0 : OS) (s1 : OS) (h_p0 : (p0, 25) ∈ Ps) (h_p1 : (p1, 26) ∈ Ps) (r_p2 : RI p2 136 136) (r_f1_10 : RI f1_10 0 0) (m_f1_10 : FLD w0 p1 7 10 (.int f1_10)) (o_p0 : OV vw_POST Ps w0 p0 s0) (o_p1 : OV vw_TAPE Ps w0 p1 s1) : Met l yX3_beginsLine (Cond.code yX3_beginsLine cX3_beginsLine 3 (some .boolean) :: gT) ({ frames := 3, cells := 0, slots := 0, locals := 600 } : Room) (va_Pc [.ref p0, .ref p1, .int p2] (PRE D cy z w0 sz)) (va_Qi (fun (r : Int32) (u : va_W) => ((OV vw_POST Ps u p0 ((f_X3_beginsLine__21 p2 s0 s1).1) ∧ OV vw_TAPE Ps u p1 ((f_X3_beginsLine__21 p2 s0 s1).2.1) ∧ (f_X3_beginsLine__21 p2 s0 s1).2.2 = r ∧ True) ∧ (RI r 0 1 ∧ (r = 0 → (∃ v9 : Int32, FLD u p1 7 10 (.int v9) ∧ RI v9 1 4) ∧ True) ∧ (¬ r = 0 → (∃ v9 : Int32, FLD u p1 7 10 (.int v9) ∧ RI v9 0 0) ∧ True))) ∧ HT cy GG Ps u ∧ FR wr_X3_beginsLine__21 wa_X3_beginsLine__21 Ps w0 u) (BB D cy (va_A w0 sz) (fun (u : va_W) => u)) (va_A w0 sz)) 0 0 (va_A w0 sz) := by
  refine Met.ofW (cc := cX3_beginsLine) (maxL := 3) (ret := (some .boolean)) (by decide) rfl ?_
  intro p e s m args below meth c s₁ B hml hv
  obtain ⟨rfl, hsz, hP, hK, hD0, hSD⟩ := hv
  have hx := B.exec
  have hb := B.bytes
  have hr := B.returns
  have hlocks := B.notSynchronized
  have hts : ∀ w ∈ gT, w.before _ s = true := fun w h => atoms_spec (ws := Cond.code yX3_beginsLine cX3_beginsLine 3 (some .boolean) :: gT) B.pre w (List.mem_cons_of_mem _ h)
  have hown : s.vm.findClass RX3 = some m.cls := findClass_of_methodNamed B.named
  subst hsz
  have hD := hD0.self (sz := s.heap.size)
  generalize hAe : va_A w0 s.heap.size = A at hD hSD ⊢
  have hA : ∀ q : Nat, s.heap.size ≤ q → A q := fun q h => by rw [← hAe]; exact Or.inr h
  have hl := lv_entry ([.ref p0, .ref p1, .int p2]) (n := 3) (Nat.le_of_ble_eq_true rfl)
  rw [lg_entry_eq]
  generalize (lg_sl ([.ref p0, .ref p1, .int p2]) ++ List.replicate (3 - (lg_sl ([.ref p0, .ref p1, .int p2])).length) Slot.unset).toArray = ls at hl ⊢
  have hl : lv_has ls 3 [(0, .ref p0), (1, .ref p1), (2, .int p2)] := hl
  refine nameQ (fun Q hQ => ?_)
  have hw : WD D cy GG A s wr_X3_beginsLine__21 wa_X3_beginsLine__21 Ps w0 Ps w0 s.heap [] := ⟨hT, hP, hD, va_S.rf, FR.rf, hT.1, [], (List.append_nil _).symm⟩
  obtain ⟨R9, hR⟩ : ∃ q9 : OS × OS × Int32, f_X3_beginsLine__21 p2 s0 s1 = q9 := ⟨_, rfl⟩
  have hE := hR
  refine lv_iload_n hx hb dX3_beginsLine_0 rfl (lv_at hl 2 rfl) ?_
  refine lv_sipush (v := 128) hx hb dX3_beginsLine_1 (by decide) ?_
  refine lv_icmp_lt (tgt := 14) hx hb dX3_beginsLine_4 (by decide) (fun c_4 => ?_) (fun c_4 => ?_)
  · have r_p2 : RI p2 136 127 := rc_lt1 r_p2 rl_128 (ti_lt c_4) (by decide)
    exact (r_p2.no (by decide)).elim
  · refine lv_iload_n hx hb dX3_beginsLine_7 rfl (lv_at hl 2 rfl) ?_
    refine lv_sipush (v := 136) hx hb dX3_beginsLine_8 (by decide) ?_
    refine lv_icmp_le (tgt := 22) hx hb dX3_beginsLine_11 (by decide) (fun c_11 => ?_) (fun c_11 => ?_)
    · refine lv_iload_n hx hb dX3_beginsLine_22 rfl (lv_at hl 2 rfl) ?_
      refine lv_sipush (v := 131) hx hb dX3_beginsLine_23 (by decide) ?_
      refine lv_icmp_gt (tgt := 59) hx hb dX3_beginsLine_26 (by decide) (fun c_26 => ?_) (fun c_26 => ?_)
      · refine lv_iload_n hx hb dX3_beginsLine_59 rfl (lv_at hl 2 rfl) ?_
        refine lv_sipush (v := 135) hx hb dX3_beginsLine_60 (by decide) ?_
        refine lv_icmp_ne (tgt := 73) hx hb dX3_beginsLine_63 (by decide) (fun c_63 => ?_) (fun c_63 => ?_)
        · refine lv_iload_n hx hb dX3_beginsLine_73 rfl (lv_at hl 2 rfl) ?_
          refine lv_sipush (v := 136) hx hb dX3_beginsLine_74 (by decide) ?_
          refine lv_icmp_ne (tgt := 92) hx hb dX3_beginsLine_77 (by decide) (fun c_77 => ?_) (fun c_77 => ?_)
          · exact absurd (r_p2.eq.trans rl_136.eq.symm) ((ti_ne c_77))
          · refine lv_aload_n hx hb dX3_beginsLine_80 rfl (lv_at hl 0 rfl) ?_
            refine tg_get (ci := 3) (ts := ty_POST) (C := RX3) (T := TX3) (N := 9) hx hb hts inX3 hown hK hw h_p0 rfl rfl 8 (by decide) (hts _ tw_220) (fun _ h9 => h9) (ft := vI 0 1) rfl dX3_beginsLine_81 (fun u_1 hv_u_1 m_u_1 => ?_)
            obtain ⟨vu_1, rfl, r_vu_1⟩ := hv_u_1
            have q_vu_1 : s0.1 8 = vu_1 := OV.eqI (V := vw_POST) hw.2.2.1 o_p0 m_u_1 (by decide)
            refine lv_if_eq (tgt := 92) hx hb dX3_beginsLine_84 (by decide) (fun c_84 => ?_) (fun c_84 => ?_)
            · have r_vu_1 : RI vu_1 0 0 := rc_eq1 r_vu_1 rl_0 (ti_eq c_84) (by decide)
              refine lv_aload_n hx hb dX3_beginsLine_92 rfl (lv_at hl 1 rfl) ?_
              refine tk_v (va_runV (As := []) (rest := []) ⟨hx, hb, hml, hown, hts⟩ (c_X7_pass__5 l D cy z s.heap.size Ps w0 hw.1 p1 f1_10 s1 h_p1 r_f1_10 m_f1_10 o_p1) (cwV 0 hts (gV tw_451 tw_425 tw_426 tw_2 tw_427) rfl rfl rfl (by decide +kernel) ⟨Nat.le_of_ble_eq_true rfl, Nat.le_of_ble_eq_true rfl⟩) (tg_preV hw hK hSD hA (ci := 7) (q := (RX7, TX7, 12)) rfl h_p1 rfl) rfl rfl hl.1 rfl (lv_room (Nat.le_of_ble_eq_true rfl)) dX3_beginsLine_93 ⟨Nat.le_of_ble_eq_true rfl, Nat.le_of_ble_eq_true rfl⟩) hw hA ⟨by decide, by decide⟩ (fun ws H locs hp_v_2 hw hF9 => ?_)
              have m_f1_10 := FLD.over hF9 m_f1_10 (by decide)
              have m_u_1 := FLD.over hF9 m_u_1 (by decide)
              obtain ⟨hfn, hp_v_2⟩ := hp_v_2
              have o_p0 := OV.over (V := vw_POST) hF9 o_p0 (by decide)
              obtain ⟨sg_3, q_sg_3⟩ : ∃ q9 : OS, (f_X7_pass__5 s1) = q9 := ⟨_, rfl⟩
              have o_p1 : OV vw_TAPE Ps ws p1 sg_3 := by rw [← q_sg_3]; exact hfn.1
              obtain ⟨v_4, m_v_4, r_v_4⟩ := (hp_v_2.1)
              refine lv_aload_n hx hb dX3_beginsLine_96 rfl (lv_at hl 1 rfl) ?_
              refine tg_memN (ci := 7) (C := RX7) (T := TX7) (N := 12) hx hb hts inX7 hown hK hw 10 m_v_4 rfl (by decide) (hSD.nest tn_105) (fun _ h9 => h9) dX3_beginsLine_97 ?_
              have q_v_4 : sg_3.1 10 = v_4 := OV.eqI (V := vw_TAPE) hw.2.2.1 o_p1 m_v_4 (by decide)
              refine lv_if_ne (tgt := 107) hx hb dX3_beginsLine_100 (by decide) (fun c_100 => ?_) (fun c_100 => ?_)
              · exact absurd (r_v_4.eq.trans rl_0.eq.symm) ((ti_ne c_100))
              · refine lv_iconst (v := 1) hx hb dX3_beginsLine_103 (by decide) ?_
                refine lv_goto (tgt := 108) hx hb dX3_beginsLine_104 (by decide) ?_
                simp only [f_X3_beginsLine__21, ↓reduceIte, eq_false c_4, eq_true c_11, eq_true c_26, eq_false c_63, eq_true c_77, q_vu_1, eq_true c_84, q_sg_3, q_v_4, eq_true c_100] at hE
                subst hQ
                exact W.zret (v := 1) hx hb hr (rfl) (fun t ht hW => ⟨⟨1, ws, rfl, ⟨⟨⟨(by rw [hR, ← hE]; exact o_p0), (by rw [hR, ← hE]; exact o_p1), (by rw [hR, ← hE]), trivial⟩, rl_1.to (by decide), (fun h0 => absurd h0 (by decide)), (fun h0 => ⟨⟨_, m_v_4, r_v_4⟩, trivial⟩)⟩, hw.1, hw.2.2.2.2.1⟩, by rw [ht]; exact hw.2.1, va_K.moved hW.alike hK, hw.2.2.1⟩, hw.2.2.2.1.F ht⟩) hw.2.2.2.1.2.2 dX3_beginsLine_108
            · have r_vu_1 : RI vu_1 1 1 := rc_neL r_vu_1 rl_0 (ti_ne c_84) (by decide)
              refine lv_aload_n hx hb dX3_beginsLine_87 rfl (lv_at hl 1 rfl) ?_
              refine lv_iconst (v := 3) hx hb dX3_beginsLine_88 (by decide) ?_
              refine tk_v (va_runV (As := [.int 3]) (rest := []) ⟨hx, hb, hml, hown, hts⟩ (c_X7_refuse__5 l D cy z s.heap.size Ps w0 hw.1 p1 3 f1_10 s1 h_p1 (rl_3.to (by decide)) r_f1_10 m_f1_10 o_p1) (cwV 1 hts (gV tw_450 tw_443 tw_444 tw_2 tw_445) rfl rfl rfl (by decide +kernel) ⟨Nat.le_of_ble_eq_true rfl, Nat.le_of_ble_eq_true rfl⟩) (tg_preV hw hK hSD hA (ci := 7) (q := (RX7, TX7, 12)) rfl h_p1 rfl) rfl rfl hl.1 rfl (lv_room (Nat.le_of_ble_eq_true rfl)) dX3_beginsLine_89 ⟨Nat.le_of_ble_eq_true rfl, Nat.le_of_ble_eq_true rfl⟩) hw hA ⟨by decide, by decide⟩ (fun ws H locs hp_v_5 hw hF9 => ?_)
              have m_u_1 := FLD.over hF9 m_u_1 (by decide)
              obtain ⟨hfn, hp_v_5⟩ := hp_v_5
              have o_p0 := OV.over (V := vw_POST) hF9 o_p0 (by decide)
              obtain ⟨sg_6, q_sg_6⟩ : ∃ q9 : OS, (f_X7_refuse__5 (3 : Int32) s1) = q9 := ⟨_, rfl⟩
              have o_p1 : OV vw_TAPE Ps ws p1 sg_6 := by rw [← q_sg_6]; exact hfn.1
              obtain ⟨v_7, m_v_7, r_v_7⟩ := (hp_v_5.1)
              refine lv_aload_n hx hb dX3_beginsLine_92 rfl (lv_at hl 1 rfl) ?_
              refine tk_vr (va_runV (As := []) (rest := []) ⟨hx, hb, hml, hown, hts⟩ (c_X7_pass__4 l D cy z H.size Ps ws hw.1 p1 v_7 sg_6 h_p1 r_v_7 m_v_7 o_p1) (cwV 0 hts (gV tw_451 tw_425 tw_426 tw_2 tw_427) rfl rfl rfl (by decide +kernel) ⟨Nat.le_of_ble_eq_true rfl, Nat.le_of_ble_eq_true rfl⟩) (tg_preV hw hK hSD hA (ci := 7) (q := (RX7, TX7, 12)) rfl h_p1 rfl) rfl rfl hl.1 rfl (lv_room (Nat.le_of_ble_eq_true rfl)) dX3_beginsLine_93 ⟨Nat.le_of_ble_eq_true rfl, Nat.le_of_ble_eq_true rfl⟩) hw hA (fun  H locs hp_v_8 hw => ?_)
              obtain ⟨hfn, hp_v_8⟩ := hp_v_8
              refine lv_aload_n hx hb dX3_beginsLine_96 rfl (lv_at hl 1 rfl) ?_
              refine tg_memN (ci := 7) (C := RX7) (T := TX7) (N := 12) hx hb hts inX7 hown hK hw 10 m_v_7 rfl (by decide) (hSD.nest tn_105) (fun _ h9 => h9) dX3_beginsLine_97 ?_
              have q_v_7 : sg_6.1 10 = v_7 := OV.eqI (V := vw_TAPE) hw.2.2.1 o_p1 m_v_7 (by decide)
              refine lv_if_ne (tgt := 107) hx hb dX3_beginsLine_100 (by decide) (fun c_100 => ?_) (fun c_100 => ?_)
              · refine lv_iconst (v := 0) hx hb dX3_beginsLine_107 (by decide) ?_
                simp only [f_X3_beginsLine__21, ↓reduceIte, eq_false c_4, eq_true c_11, eq_true c_26, eq_false c_63, eq_true c_77, q_vu_1, eq_false c_84, q_sg_6, q_v_7, eq_false c_100] at hE
                subst hQ
                exact W.zret (v := 0) hx hb hr (rfl) (fun t ht hW => ⟨⟨0, ws, rfl, ⟨⟨⟨(by rw [hR, ← hE]; exact o_p0), (by rw [hR, ← hE]; exact o_p1), (by rw [hR, ← hE]), trivial⟩, rl_0.to (by decide), (fun h0 => ⟨⟨_, m_v_7, r_v_7⟩, trivial⟩), (fun h0 => absurd rfl h0)⟩, hw.1, hw.2.2.2.2.1⟩, by rw [ht]; exact hw.2.1, va_K.moved hW.alike hK, hw.2.2.1⟩, hw.2.2.2.1.F ht⟩) hw.2.2.2.1.2.2 dX3_beginsLine_108
              · have r_v_7 : RI v_7 1 0 := rc_eq1 r_v_7 rl_0 (ti_eq c_100) (by decide)
                exact (r_v_7.no (by decide)).elim
        · have r_p2 : RI p2 136 135 := rc_eq1 r_p2 rl_135 (ti_eq c_63) (by decide)
          exact (r_p2.no (by decide)).elim
      · have r_p2 : RI p2 136 131 := rc_le1 r_p2 rl_131 (ti_nlt c_26) (by decide)
        exact (r_p2.no (by decide)).elim
    · have r_p2 : RI p2 137 136 := rc_lt2 rl_136 r_p2 (ti_nle c_11) (by decide)
      exact (r_p2.no (by decide)).elim
abbrev wr_X3_beginsLine__22 : List (Nat × Nat) := [(7, 10), (7, 11)]
abbrev wa_X3_beginsLine__22 : List Nat := []
set_option maxHeartbeats 4000000 in
set_option maxRecDepth 100000 in
theorem c_X3_beginsLine__22 (l : Launch) (D : va_G) (cy : Nat → ClassId) (z : Nat → Nat) (sz : Nat) (Ps : PSI) (w0 : va_W) (hT : HT cy GG Ps w0) (p0 : Nat) (p1 : Nat) (p2 : Int32) (f1_10 : Int32) (s0 : OS) (s1 : OS) (h_p0 : (p0, 25) ∈ Ps) (h_p1 : (p1, 26) ∈ Ps) (r_p2 : RI p2 137 2147483647) (r_f1_10 : RI f1_10 0 0) (m_f1_10 : FLD w0 p1 7 10 (.int f1_10)) (o_p0 : OV vw_POST Ps w0 p0 s0) (o_p1 : OV vw_TAPE Ps w0 p1 s1) : Met l yX3_beginsLine (Cond.code yX3_beginsLine cX3_beginsLine 3 (some .boolean) :: gT) ({ frames := 2, cells := 0, slots := 0, locals := 400 } : Room) (va_Pc [.ref p0, .ref p1, .int p2] (PRE D cy z w0 sz)) (va_Qi (fun (r : Int32) (u : va_W) => ((OV vw_POST Ps u p0 ((f_X3_beginsLine__12 p2 s0 s1).1) ∧ OV vw_TAPE Ps u p1 ((f_X3_beginsLine__12 p2 s0 s1).2.1) ∧ (f_X3_beginsLine__12 p2 s0 s1).2.2 = r ∧ True) ∧ (RI r 0 0 ∧ (r = 0 → (∃ v9 : Int32, FLD u p1 7 10 (.int v9) ∧ RI v9 1 4) ∧ True) ∧ (¬ r = 0 → True))) ∧ HT cy GG Ps u ∧ FR wr_X3_beginsLine__22 wa_X3_beginsLine__22 Ps w0 u) (BB D cy (va_A w0 sz) (fun (u : va_W) => u)) (va_A w0 sz)) 0 0 (va_A w0 sz) := by
  refine Met.ofW (cc := cX3_beginsLine) (maxL := 3) (ret := (some .boolean)) (by decide) rfl ?_
  intro p e s m args below meth c s₁ B hml hv
  obtain ⟨rfl, hsz, hP, hK, hD0, hSD⟩ := hv
  have hx := B.exec
  have hb := B.bytes
  have hr := B.returns
  have hlocks := B.notSynchronized
  have hts : ∀ w ∈ gT, w.before _ s = true := fun w h => atoms_spec (ws := Cond.code yX3_beginsLine cX3_beginsLine 3 (some .boolean) :: gT) B.pre w (List.mem_cons_of_mem _ h)
  have hown : s.vm.findClass RX3 = some m.cls := findClass_of_methodNamed B.named
  subst hsz
  have hD := hD0.self (sz := s.heap.size)
  generalize hAe : va_A w0 s.heap.size = A at hD hSD ⊢
  have hA : ∀ q : Nat, s.heap.size ≤ q → A q := fun q h => by rw [← hAe]; exact Or.inr h
  have hl := lv_entry ([.ref p0, .ref p1, .int p2]) (n := 3) (Nat.le_of_ble_eq_true rfl)
  rw [lg_entry_eq]
  generalize (lg_sl ([.ref p0, .ref p1, .int p2]) ++ List.replicate (3 - (lg_sl ([.ref p0, .ref p1, .int p2])).length) Slot.unset).toArray = ls at hl ⊢
  have hl : lv_has ls 3 [(0, .ref p0), (1, .ref p1), (2, .int p2)] := hl
  refine nameQ (fun Q hQ => ?_)
  have hw : WD D cy GG A s wr_X3_beginsLine__22 wa_X3_beginsLine__22 Ps w0 Ps w0 s.heap [] := ⟨hT, hP, hD, va_S.rf, FR.rf, hT.1, [], (List.append_nil _).symm⟩
  obtain ⟨R9, hR⟩ : ∃ q9 : OS × OS × Int32, f_X3_beginsLine__12 p2 s0 s1 = q9 := ⟨_, rfl⟩
  have hE := hR
  refine lv_iload_n hx hb dX3_beginsLine_0 rfl (lv_at hl 2 rfl) ?_
  refine lv_sipush (v := 128) hx hb dX3_beginsLine_1 (by decide) ?_
  refine lv_icmp_lt (tgt := 14) hx hb dX3_beginsLine_4 (by decide) (fun c_4 => ?_) (fun c_4 => ?_)
  · have r_p2 : RI p2 137 127 := rc_lt1 r_p2 rl_128 (ti_lt c_4) (by decide)
    exact (r_p2.no (by decide)).elim
  · refine lv_iload_n hx hb dX3_beginsLine_7 rfl (lv_at hl 2 rfl) ?_
    refine lv_sipush (v := 136) hx hb dX3_beginsLine_8 (by decide) ?_
    refine lv_icmp_le (tgt := 22) hx hb dX3_beginsLine_11 (by decide) (fun c_11 => ?_) (fun c_11 => ?_)
    · have r_p2 : RI p2 137 136 := rc_le1 r_p2 rl_136 (ti_le c_11) (by decide)
      exact (r_p2.no (by decide)).elim
    · refine lv_aload_n hx hb dX3_beginsLine_14 rfl (lv_at hl 1 rfl) ?_
      refine lv_iconst (v := 1) hx hb dX3_beginsLine_15 (by decide) ?_
      refine tk_v (va_runV (As := [.int 1]) (rest := []) ⟨hx, hb, hml, hown, hts⟩ (c_X7_refuse__5 l D cy z s.heap.size Ps w0 hw.1 p1 1 f1_10 s1 h_p1 (rl_1.to (by decide)) r_f1_10 m_f1_10 o_p1) (cwV 1 hts (gV tw_450 tw_443 tw_444 tw_2 tw_445) rfl rfl rfl (by decide +kernel) ⟨Nat.le_of_ble_eq_true rfl, Nat.le_of_ble_eq_true rfl⟩) (tg_preV hw hK hSD hA (ci := 7) (q := (RX7, TX7, 12)) rfl h_p1 rfl) rfl rfl hl.1 rfl (lv_room (Nat.le_of_ble_eq_true rfl)) dX3_beginsLine_16 ⟨Nat.le_of_ble_eq_true rfl, Nat.le_of_ble_eq_true rfl⟩) hw hA ⟨by decide, by decide⟩ (fun ws H locs hp_v_1 hw hF9 => ?_)
      obtain ⟨hfn, hp_v_1⟩ := hp_v_1
      have o_p0 := OV.over (V := vw_POST) hF9 o_p0 (by decide)
      obtain ⟨sg_2, q_sg_2⟩ : ∃ q9 : OS, (f_X7_refuse__5 (1 : Int32) s1) = q9 := ⟨_, rfl⟩
      have o_p1 : OV vw_TAPE Ps ws p1 sg_2 := by rw [← q_sg_2]; exact hfn.1
      obtain ⟨v_3, m_v_3, r_v_3⟩ := (hp_v_1.1)
      refine lv_goto (tgt := 92) hx hb dX3_beginsLine_19 (by decide) ?_
      refine lv_aload_n hx hb dX3_beginsLine_92 rfl (lv_at hl 1 rfl) ?_
      refine tk_vr (va_runV (As := []) (rest := []) ⟨hx, hb, hml, hown, hts⟩ (c_X7_pass__4 l D cy z H.size Ps ws hw.1 p1 v_3 sg_2 h_p1 r_v_3 m_v_3 o_p1) (cwV 0 hts (gV tw_451 tw_425 tw_426 tw_2 tw_427) rfl rfl rfl (by decide +kernel) ⟨Nat.le_of_ble_eq_true rfl, Nat.le_of_ble_eq_true rfl⟩) (tg_preV hw hK hSD hA (ci := 7) (q := (RX7, TX7, 12)) rfl h_p1 rfl) rfl rfl hl.1 rfl (lv_room (Nat.le_of_ble_eq_true rfl)) dX3_beginsLine_93 ⟨Nat.le_of_ble_eq_true rfl, Nat.le_of_ble_eq_true rfl⟩) hw hA (fun  H locs hp_v_4 hw => ?_)
      obtain ⟨hfn, hp_v_4⟩ := hp_v_4
      refine lv_aload_n hx hb dX3_beginsLine_96 rfl (lv_at hl 1 rfl) ?_
      refine tg_memN (ci := 7) (C := RX7) (T := TX7) (N := 12) hx hb hts inX7 hown hK hw 10 m_v_3 rfl (by decide) (hSD.nest tn_105) (fun _ h9 => h9) dX3_beginsLine_97 ?_
      have q_v_3 : sg_2.1 10 = v_3 := OV.eqI (V := vw_TAPE) hw.2.2.1 o_p1 m_v_3 (by decide)
      refine lv_if_ne (tgt := 107) hx hb dX3_beginsLine_100 (by decide) (fun c_100 => ?_) (fun c_100 => ?_)
      · refine lv_iconst (v := 0) hx hb dX3_beginsLine_107 (by decide) ?_
        simp only [f_X3_beginsLine__12, ↓reduceIte, eq_false c_4, eq_false c_11, q_sg_2, q_v_3, eq_false c_100] at hE
        subst hQ
        exact W.zret (v := 0) hx hb hr (rfl) (fun t ht hW => ⟨⟨0, ws, rfl, ⟨⟨⟨(by rw [hR, ← hE]; exact o_p0), (by rw [hR, ← hE]; exact o_p1), (by rw [hR, ← hE]), trivial⟩, rl_0.to (by decide), (fun h0 => ⟨⟨_, m_v_3, r_v_3⟩, trivial⟩), (fun _ => trivial)⟩, hw.1, hw.2.2.2.2.1⟩, by rw [ht]; exact hw.2.1, va_K.moved hW.alike hK, hw.2.2.1⟩, hw.2.2.2.1.F ht⟩) hw.2.2.2.1.2.2 dX3_beginsLine_108
      · have r_v_3 : RI v_3 1 0 := rc_eq1 r_v_3 rl_0 (ti_eq c_100) (by decide)
        exact (r_v_3.no (by decide)).elim
abbrev wr_J7_fill_53178__9 : List (Nat × Nat) := []
abbrev wa_J7_fill_53178__9 : List Nat := [8]
set_option maxHeartbeats 4000000 in
set_option maxRecDepth 100000 in
theorem c_J7_fill_53178__9 (l : Launch) (D : va_G) (cy : Nat → ClassId) (z : Nat → Nat) (sz : Nat) (Ps : PSI) (w0 : va_W) (hT : HT cy GG Ps w0) (p0 : Nat) (p1 : Int32) (s0 : Nat → Int32) (h_p0 : (p0, 8) ∈ Ps) (r_p1 : RI p1 0 0) (o_p0 : ARR Ps w0 p0 8 s0) : Met l yJ7_fill_53178 (Cond.code yJ7_fill_53178 cJ7_fill_53178 4 none :: gT) ({ frames := 0, cells := 0, slots := 0, locals := 200 } : Room) (va_Pc [.ref p0, .int p1] (PRE D cy z w0 sz)) (va_Qv (fun (u : va_W) => ((ARR Ps u p0 8 ((f_J7_fill_53178__9 p1 s0)) ∧ True) ∧ (True)) ∧ HT cy GG Ps u ∧ FR wr_J7_fill_53178__9 wa_J7_fill_53178__9 Ps w0 u) (BB D cy (va_A w0 sz) (fun (u : va_W) => u)) (va_A w0 sz)) 0 0 (va_A w0 sz) := by
  refine Met.ofW (cc := cJ7_fill_53178) (maxL := 4) (ret := none) (by decide) rfl ?_
  intro p e s m args below meth c s₁ B hml hv
  obtain ⟨rfl, hsz, hP, hK, hD0, hSD⟩ := hv
  have hx := B.exec
  have hb := B.bytes
  have hr := B.returns
  have hlocks := B.notSynchronized
  have hts : ∀ w ∈ gT, w.before _ s = true := fun w h => atoms_spec (ws := Cond.code yJ7_fill_53178 cJ7_fill_53178 4 none :: gT) B.pre w (List.mem_cons_of_mem _ h)
  have hown : s.vm.findClass RJ7 = some m.cls := findClass_of_methodNamed B.named
  subst hsz
  have hD := hD0.self (sz := s.heap.size)
  generalize hAe : va_A w0 s.heap.size = A at hD hSD ⊢
  have hA : ∀ q : Nat, s.heap.size ≤ q → A q := fun q h => by rw [← hAe]; exact Or.inr h
  have hl := lv_entry ([.ref p0, .int p1]) (n := 4) (Nat.le_of_ble_eq_true rfl)
  rw [lg_entry_eq]
  generalize (lg_sl ([.ref p0, .int p1]) ++ List.replicate (4 - (lg_sl ([.ref p0, .int p1])).length) Slot.unset).toArray = ls at hl ⊢
  have hl : lv_has ls 4 [(0, .ref p0), (1, .int p1)] := hl
  refine nameQ (fun Q hQ => ?_)
  have hw : WD D cy GG A s wr_J7_fill_53178__9 wa_J7_fill_53178__9 Ps w0 Ps w0 s.heap [] := ⟨hT, hP, hD, va_S.rf, FR.rf, hT.1, [], (List.append_nil _).symm⟩
  obtain ⟨R9, hR⟩ : ∃ q9 : (Nat → Int32), f_J7_fill_53178__9 p1 s0 = q9 := ⟨_, rfl⟩
  have hE := hR
  have B5 : ∀ (nf : Nat) (x2 : Int32) (x3 : Int32) (s0 : Nat → Int32) (ws : va_W) (H : Heap) (locs : List Loc) (ls : Array Slot), 36 - x2.toInt < (nf : Int) → RI p1 0 0 → RI x2 0 36 → RI x3 36 36 → ARR Ps ws p0 8 s0 → f_J7_fill_53178__9_5 p1 nf x2 x3 s0 = R9 → WD D cy GG A s wr_J7_fill_53178__9 wa_J7_fill_53178__9 Ps w0 Ps ws H locs → lv_has ls 4 [(0, .ref p0), (1, .int p1), (2, .int x2), (3, .int x3)] → W p l e (headSpec (Cond.code yJ7_fill_53178 cJ7_fill_53178 4 none :: gT) ({ frames := 0, cells := 0, slots := 0, locals := 200 } : Room)).room s m ([.ref p0, .int p1] : List Value).toArray below meth c H locs 0 0 Q (F0 m 5 ls []) := by
    intro nf5
    induction nf5 with
    | zero =>
      intro x2 x3 s0 ws H locs ls hn5 r_p1 r_x2 r_x3 o_p0 hE hw hl
      exact absurd hn5 (by have q0 := r_x2.1; have u0 := r_x2.2; omega)
    | succ nf5 ih5 =>
      intro x2 x3 s0 ws H locs ls hn5 r_p1 r_x2 r_x3 o_p0 hE hw hl
      refine lv_iload_n hx hb dJ7_fill_53178_5 rfl (lv_at hl 2 rfl) ?_
      refine lv_iload_n hx hb dJ7_fill_53178_6 rfl (lv_at hl 3 rfl) ?_
      refine lv_icmp_ge (tgt := 20) hx hb dJ7_fill_53178_7 (by decide) (fun c_7 => ?_) (fun c_7 => ?_)
      · have r_x2 : RI x2 36 36 := rc_le2 r_x3 r_x2 (ti_le c_7) (by decide)
        simp only [f_J7_fill_53178__9_5, ↓reduceIte, eq_true c_7] at hE
        subst hQ
        exact W.vret hx hb hr (fun t ht hW => ⟨⟨ws, rfl, ⟨⟨⟨(by rw [hR, ← hE]; exact o_p0), trivial⟩, trivial⟩, hw.1, hw.2.2.2.2.1⟩, by rw [ht]; exact hw.2.1, va_K.moved hW.alike hK, hw.2.2.1⟩, hw.2.2.2.1.F ht⟩) hw.2.2.2.1.2.2 dJ7_fill_53178_20
      · have r_x2 : RI x2 0 35 := rc_lt1 r_x2 r_x3 (ti_nle c_7) (by decide)
        refine lv_aload_n hx hb dJ7_fill_53178_10 rfl (lv_at hl 0 rfl) ?_
        refine lv_iload_n hx hb dJ7_fill_53178_11 rfl (lv_at hl 2 rfl) ?_
        refine lv_iload_n hx hb dJ7_fill_53178_12 rfl (lv_at hl 1 rfl) ?_
        refine tg_iast hx hb hK hw h_p0 rfl 0 35 r_x2 (by decide) r_p1 (by exact fun _ _ _ => by decide) (fun _ _ _ _ _ => trivial) (by decide) dJ7_fill_53178_13 (fun ws H locs hw hF9 hU9 => ?_)
        obtain ⟨sg_1, q_sg_1⟩ : ∃ q9 : Nat → Int32, upd s0 (Int32.toNatClampNeg x2) p1 = q9 := ⟨_, rfl⟩
        have o_p0 : ARR Ps ws p0 8 sg_1 := by rw [← q_sg_1]; exact hU9.2 _ o_p0
        obtain ⟨v_2, e_v_2⟩ : ∃ q9 : Int32, q9 = x2 + Int32.ofInt 1 := ⟨_, rfl⟩
        obtain ⟨t_v_2, r_v_2⟩ := tq_add (lo := 1) (hi := 36) r_x2 (show RI (Int32.ofInt 1) 1 1 by unfold RI; decide +kernel) (by decide +kernel) e_v_2
        have t_v_2 : v_2.toInt = x2.toInt + 1 := t_v_2
        refine lv_iinc (v := v_2) (lv' := [(2, .int v_2), (0, .ref p0), (1, .int p1), (3, .int x3)]) hx hb dJ7_fill_53178_14 hl (k := 2) rfl e_v_2.symm (by decide) rfl (fun ls hl => ?_)
        have q_v_2 : x2 + (1 : Int32) = v_2 := by rw [e_v_2, show Int32.ofInt 1 = (1 : Int32) by decide]
        refine lv_goto (tgt := 5) hx hb dJ7_fill_53178_17 (by decide) ?_
        simp only [f_J7_fill_53178__9_5, ↓reduceIte, eq_false c_7, q_sg_1, q_v_2] at hE
        exact ih5 v_2 x3 sg_1 ws _ _ ls (by have q0 := r_v_2.1; have u0 := r_v_2.2; have o0 := r_x2.1; have p0 := r_x2.2; omega) r_p1 (r_v_2.to (by decide)) r_x3 o_p0 hE hw (lv_sub hl [1, 2, 0, 3] rfl)
  refine lv_iconst (v := 0) hx hb dJ7_fill_53178_0 (by decide) ?_
  refine lv_istore_n (lv' := [(2, .int 0), (0, .ref p0), (1, .int p1)]) hx hb dJ7_fill_53178_1 rfl hl (by decide) rfl (fun ls hl => ?_)
  refine lv_aload_n hx hb dJ7_fill_53178_2 rfl (lv_at hl 1 rfl) ?_
  refine tg_alenI (t0 := 1) (v := 36) hx hb hK hw h_p0 rfl rfl rfl dJ7_fill_53178_3 ?_
  refine lv_istore_n (lv' := [(3, .int 36), (2, .int 0), (0, .ref p0), (1, .int p1)]) hx hb dJ7_fill_53178_4 rfl hl (by decide) rfl (fun ls hl => ?_)
  simp only [f_J7_fill_53178__9, ↓reduceIte] at hE
  exact B5 4294967298 0 36 s0 w0 _ _ ls (by have q0 := rl_0.1; have u0 := rl_0.2; omega) r_p1 (rl_0.to (by decide)) rl_36 o_p0 hE hw (lv_sub hl [2, 3, 1, 0] rfl)
abbrev wr_J7_fill_53178__10 : List (Nat × Nat) := []
abbrev wa_J7_fill_53178__10 : List Nat := [9]
set_option maxHeartbeats 4000000 in
set_option maxRecDepth 100000 in
theorem c_J7_fill_53178__10 (l : Launch) (D : va_G) (cy : Nat → ClassId) (z : Nat → Nat) (sz : Nat) (Ps : PSI) (w0 : va_W) (hT : HT cy GG Ps w0) (p0 : Nat) (p1 : Int32) (s0 : Nat → Int32) (h_p0 : (p0, 9) ∈ Ps) (r_p1 : RI p1 0 0) (o_p0 : ARR Ps w0 p0 9 s0) : Met l yJ7_fill_53178 (Cond.code yJ7_fill_53178 cJ7_fill_53178 4 none :: gT) ({ frames := 0, cells := 0, slots := 0, locals := 200 } : Room) (va_Pc [.ref p0, .int p1] (PRE D cy z w0 sz)) (va_Qv (fun (u : va_W) => ((ARR Ps u p0 9 ((f_J7_fill_53178__10 p1 s0)) ∧ True) ∧ (True)) ∧ HT cy GG Ps u ∧ FR wr_J7_fill_53178__10 wa_J7_fill_53178__10 Ps w0 u) (BB D cy (va_A w0 sz) (fun (u : va_W) => u)) (va_A w0 sz)) 0 0 (va_A w0 sz) := by
  refine Met.ofW (cc := cJ7_fill_53178) (maxL := 4) (ret := none) (by decide) rfl ?_
  intro p e s m args below meth c s₁ B hml hv
  obtain ⟨rfl, hsz, hP, hK, hD0, hSD⟩ := hv
  have hx := B.exec
  have hb := B.bytes
  have hr := B.returns
  have hlocks := B.notSynchronized
  have hts : ∀ w ∈ gT, w.before _ s = true := fun w h => atoms_spec (ws := Cond.code yJ7_fill_53178 cJ7_fill_53178 4 none :: gT) B.pre w (List.mem_cons_of_mem _ h)
  have hown : s.vm.findClass RJ7 = some m.cls := findClass_of_methodNamed B.named
  subst hsz
  have hD := hD0.self (sz := s.heap.size)
  generalize hAe : va_A w0 s.heap.size = A at hD hSD ⊢
  have hA : ∀ q : Nat, s.heap.size ≤ q → A q := fun q h => by rw [← hAe]; exact Or.inr h
  have hl := lv_entry ([.ref p0, .int p1]) (n := 4) (Nat.le_of_ble_eq_true rfl)
  rw [lg_entry_eq]
  generalize (lg_sl ([.ref p0, .int p1]) ++ List.replicate (4 - (lg_sl ([.ref p0, .int p1])).length) Slot.unset).toArray = ls at hl ⊢
  have hl : lv_has ls 4 [(0, .ref p0), (1, .int p1)] := hl
  refine nameQ (fun Q hQ => ?_)
  have hw : WD D cy GG A s wr_J7_fill_53178__10 wa_J7_fill_53178__10 Ps w0 Ps w0 s.heap [] := ⟨hT, hP, hD, va_S.rf, FR.rf, hT.1, [], (List.append_nil _).symm⟩
  obtain ⟨R9, hR⟩ : ∃ q9 : (Nat → Int32), f_J7_fill_53178__10 p1 s0 = q9 := ⟨_, rfl⟩
  have hE := hR
  have B5 : ∀ (nf : Nat) (x2 : Int32) (x3 : Int32) (s0 : Nat → Int32) (ws : va_W) (H : Heap) (locs : List Loc) (ls : Array Slot), 6 - x2.toInt < (nf : Int) → RI p1 0 0 → RI x2 0 6 → RI x3 6 6 → ARR Ps ws p0 9 s0 → f_J7_fill_53178__10_5 p1 nf x2 x3 s0 = R9 → WD D cy GG A s wr_J7_fill_53178__10 wa_J7_fill_53178__10 Ps w0 Ps ws H locs → lv_has ls 4 [(0, .ref p0), (1, .int p1), (2, .int x2), (3, .int x3)] → W p l e (headSpec (Cond.code yJ7_fill_53178 cJ7_fill_53178 4 none :: gT) ({ frames := 0, cells := 0, slots := 0, locals := 200 } : Room)).room s m ([.ref p0, .int p1] : List Value).toArray below meth c H locs 0 0 Q (F0 m 5 ls []) := by
    intro nf5
    induction nf5 with
    | zero =>
      intro x2 x3 s0 ws H locs ls hn5 r_p1 r_x2 r_x3 o_p0 hE hw hl
      exact absurd hn5 (by have q0 := r_x2.1; have u0 := r_x2.2; omega)
    | succ nf5 ih5 =>
      intro x2 x3 s0 ws H locs ls hn5 r_p1 r_x2 r_x3 o_p0 hE hw hl
      refine lv_iload_n hx hb dJ7_fill_53178_5 rfl (lv_at hl 2 rfl) ?_
      refine lv_iload_n hx hb dJ7_fill_53178_6 rfl (lv_at hl 3 rfl) ?_
      refine lv_icmp_ge (tgt := 20) hx hb dJ7_fill_53178_7 (by decide) (fun c_7 => ?_) (fun c_7 => ?_)
      · have r_x2 : RI x2 6 6 := rc_le2 r_x3 r_x2 (ti_le c_7) (by decide)
        simp only [f_J7_fill_53178__10_5, ↓reduceIte, eq_true c_7] at hE
        subst hQ
        exact W.vret hx hb hr (fun t ht hW => ⟨⟨ws, rfl, ⟨⟨⟨(by rw [hR, ← hE]; exact o_p0), trivial⟩, trivial⟩, hw.1, hw.2.2.2.2.1⟩, by rw [ht]; exact hw.2.1, va_K.moved hW.alike hK, hw.2.2.1⟩, hw.2.2.2.1.F ht⟩) hw.2.2.2.1.2.2 dJ7_fill_53178_20
      · have r_x2 : RI x2 0 5 := rc_lt1 r_x2 r_x3 (ti_nle c_7) (by decide)
        refine lv_aload_n hx hb dJ7_fill_53178_10 rfl (lv_at hl 0 rfl) ?_
        refine lv_iload_n hx hb dJ7_fill_53178_11 rfl (lv_at hl 2 rfl) ?_
        refine lv_iload_n hx hb dJ7_fill_53178_12 rfl (lv_at hl 1 rfl) ?_
        refine tg_iast hx hb hK hw h_p0 rfl 0 5 r_x2 (by decide) r_p1 (by exact fun _ _ _ => by decide) (fun _ _ _ _ _ => trivial) (by decide) dJ7_fill_53178_13 (fun ws H locs hw hF9 hU9 => ?_)
        obtain ⟨sg_1, q_sg_1⟩ : ∃ q9 : Nat → Int32, upd s0 (Int32.toNatClampNeg x2) p1 = q9 := ⟨_, rfl⟩
        have o_p0 : ARR Ps ws p0 9 sg_1 := by rw [← q_sg_1]; exact hU9.2 _ o_p0
        obtain ⟨v_2, e_v_2⟩ : ∃ q9 : Int32, q9 = x2 + Int32.ofInt 1 := ⟨_, rfl⟩
        obtain ⟨t_v_2, r_v_2⟩ := tq_add (lo := 1) (hi := 6) r_x2 (show RI (Int32.ofInt 1) 1 1 by unfold RI; decide +kernel) (by decide +kernel) e_v_2
        have t_v_2 : v_2.toInt = x2.toInt + 1 := t_v_2
        refine lv_iinc (v := v_2) (lv' := [(2, .int v_2), (0, .ref p0), (1, .int p1), (3, .int x3)]) hx hb dJ7_fill_53178_14 hl (k := 2) rfl e_v_2.symm (by decide) rfl (fun ls hl => ?_)
        have q_v_2 : x2 + (1 : Int32) = v_2 := by rw [e_v_2, show Int32.ofInt 1 = (1 : Int32) by decide]
        refine lv_goto (tgt := 5) hx hb dJ7_fill_53178_17 (by decide) ?_
        simp only [f_J7_fill_53178__10_5, ↓reduceIte, eq_false c_7, q_sg_1, q_v_2] at hE
        exact ih5 v_2 x3 sg_1 ws _ _ ls (by have q0 := r_v_2.1; have u0 := r_v_2.2; have o0 := r_x2.1; have p0 := r_x2.2; omega) r_p1 (r_v_2.to (by decide)) r_x3 o_p0 hE hw (lv_sub hl [1, 2, 0, 3] rfl)
  refine lv_iconst (v := 0) hx hb dJ7_fill_53178_0 (by decide) ?_
  refine lv_istore_n (lv' := [(2, .int 0), (0, .ref p0), (1, .int p1)]) hx hb dJ7_fill_53178_1 rfl hl (by decide) rfl (fun ls hl => ?_)
  refine lv_aload_n hx hb dJ7_fill_53178_2 rfl (lv_at hl 1 rfl) ?_
  refine tg_alenI (t0 := 1) (v := 6) hx hb hK hw h_p0 rfl rfl rfl dJ7_fill_53178_3 ?_
  refine lv_istore_n (lv' := [(3, .int 6), (2, .int 0), (0, .ref p0), (1, .int p1)]) hx hb dJ7_fill_53178_4 rfl hl (by decide) rfl (fun ls hl => ?_)
  simp only [f_J7_fill_53178__10, ↓reduceIte] at hE
  exact B5 4294967298 0 6 s0 w0 _ _ ls (by have q0 := rl_0.1; have u0 := rl_0.2; omega) r_p1 (rl_0.to (by decide)) rl_6 o_p0 hE hw (lv_sub hl [2, 3, 1, 0] rfl)
abbrev wr_J7_fill_53178__11 : List (Nat × Nat) := []
abbrev wa_J7_fill_53178__11 : List Nat := [11]
set_option maxHeartbeats 4000000 in
set_option maxRecDepth 100000 in
theorem c_J7_fill_53178__11 (l : Launch) (D : va_G) (cy : Nat → ClassId) (z : Nat → Nat) (sz : Nat) (Ps : PSI) (w0 : va_W) (hT : HT cy GG Ps w0) (p0 : Nat) (p1 : Int32) (s0 : Nat → Int32) (h_p0 : (p0, 11) ∈ Ps) (r_p1 : RI p1 0 0) (o_p0 : ARR Ps w0 p0 11 s0) : Met l yJ7_fill_53178 (Cond.code yJ7_fill_53178 cJ7_fill_53178 4 none :: gT) ({ frames := 0, cells := 0, slots := 0, locals := 200 } : Room) (va_Pc [.ref p0, .int p1] (PRE D cy z w0 sz)) (va_Qv (fun (u : va_W) => ((ARR Ps u p0 11 ((f_J7_fill_53178__11 p1 s0)) ∧ True) ∧ (True)) ∧ HT cy GG Ps u ∧ FR wr_J7_fill_53178__11 wa_J7_fill_53178__11 Ps w0 u) (BB D cy (va_A w0 sz) (fun (u : va_W) => u)) (va_A w0 sz)) 0 0 (va_A w0 sz) := by
  refine Met.ofW (cc := cJ7_fill_53178) (maxL := 4) (ret := none) (by decide) rfl ?_
  intro p e s m args below meth c s₁ B hml hv
  obtain ⟨rfl, hsz, hP, hK, hD0, hSD⟩ := hv
  have hx := B.exec
  have hb := B.bytes
  have hr := B.returns
  have hlocks := B.notSynchronized
  have hts : ∀ w ∈ gT, w.before _ s = true := fun w h => atoms_spec (ws := Cond.code yJ7_fill_53178 cJ7_fill_53178 4 none :: gT) B.pre w (List.mem_cons_of_mem _ h)
  have hown : s.vm.findClass RJ7 = some m.cls := findClass_of_methodNamed B.named
  subst hsz
  have hD := hD0.self (sz := s.heap.size)
  generalize hAe : va_A w0 s.heap.size = A at hD hSD ⊢
  have hA : ∀ q : Nat, s.heap.size ≤ q → A q := fun q h => by rw [← hAe]; exact Or.inr h
  have hl := lv_entry ([.ref p0, .int p1]) (n := 4) (Nat.le_of_ble_eq_true rfl)
  rw [lg_entry_eq]
  generalize (lg_sl ([.ref p0, .int p1]) ++ List.replicate (4 - (lg_sl ([.ref p0, .int p1])).length) Slot.unset).toArray = ls at hl ⊢
  have hl : lv_has ls 4 [(0, .ref p0), (1, .int p1)] := hl
  refine nameQ (fun Q hQ => ?_)
  have hw : WD D cy GG A s wr_J7_fill_53178__11 wa_J7_fill_53178__11 Ps w0 Ps w0 s.heap [] := ⟨hT, hP, hD, va_S.rf, FR.rf, hT.1, [], (List.append_nil _).symm⟩
  obtain ⟨R9, hR⟩ : ∃ q9 : (Nat → Int32), f_J7_fill_53178__11 p1 s0 = q9 := ⟨_, rfl⟩
  have hE := hR
  have B5 : ∀ (nf : Nat) (x2 : Int32) (x3 : Int32) (s0 : Nat → Int32) (ws : va_W) (H : Heap) (locs : List Loc) (ls : Array Slot), 8 - x2.toInt < (nf : Int) → RI p1 0 0 → RI x2 0 8 → RI x3 8 8 → ARR Ps ws p0 11 s0 → f_J7_fill_53178__11_5 p1 nf x2 x3 s0 = R9 → WD D cy GG A s wr_J7_fill_53178__11 wa_J7_fill_53178__11 Ps w0 Ps ws H locs → lv_has ls 4 [(0, .ref p0), (1, .int p1), (2, .int x2), (3, .int x3)] → W p l e (headSpec (Cond.code yJ7_fill_53178 cJ7_fill_53178 4 none :: gT) ({ frames := 0, cells := 0, slots := 0, locals := 200 } : Room)).room s m ([.ref p0, .int p1] : List Value).toArray below meth c H locs 0 0 Q (F0 m 5 ls []) := by
    intro nf5
    induction nf5 with
    | zero =>
      intro x2 x3 s0 ws H locs ls hn5 r_p1 r_x2 r_x3 o_p0 hE hw hl
      exact absurd hn5 (by have q0 := r_x2.1; have u0 := r_x2.2; omega)
    | succ nf5 ih5 =>
      intro x2 x3 s0 ws H locs ls hn5 r_p1 r_x2 r_x3 o_p0 hE hw hl
      refine lv_iload_n hx hb dJ7_fill_53178_5 rfl (lv_at hl 2 rfl) ?_
      refine lv_iload_n hx hb dJ7_fill_53178_6 rfl (lv_at hl 3 rfl) ?_
      refine lv_icmp_ge (tgt := 20) hx hb dJ7_fill_53178_7 (by decide) (fun c_7 => ?_) (fun c_7 => ?_)
      · have r_x2 : RI x2 8 8 := rc_le2 r_x3 r_x2 (ti_le c_7) (by decide)
        simp only [f_J7_fill_53178__11_5, ↓reduceIte, eq_true c_7] at hE
        subst hQ
        exact W.vret hx hb hr (fun t ht hW => ⟨⟨ws, rfl, ⟨⟨⟨(by rw [hR, ← hE]; exact o_p0), trivial⟩, trivial⟩, hw.1, hw.2.2.2.2.1⟩, by rw [ht]; exact hw.2.1, va_K.moved hW.alike hK, hw.2.2.1⟩, hw.2.2.2.1.F ht⟩) hw.2.2.2.1.2.2 dJ7_fill_53178_20
      · have r_x2 : RI x2 0 7 := rc_lt1 r_x2 r_x3 (ti_nle c_7) (by decide)
        refine lv_aload_n hx hb dJ7_fill_53178_10 rfl (lv_at hl 0 rfl) ?_
        refine lv_iload_n hx hb dJ7_fill_53178_11 rfl (lv_at hl 2 rfl) ?_
        refine lv_iload_n hx hb dJ7_fill_53178_12 rfl (lv_at hl 1 rfl) ?_
        refine tg_iast hx hb hK hw h_p0 rfl 0 7 r_x2 (by decide) r_p1 (by exact fun _ _ _ => by decide) (fun _ _ _ _ _ => trivial) (by decide) dJ7_fill_53178_13 (fun ws H locs hw hF9 hU9 => ?_)
        obtain ⟨sg_1, q_sg_1⟩ : ∃ q9 : Nat → Int32, upd s0 (Int32.toNatClampNeg x2) p1 = q9 := ⟨_, rfl⟩
        have o_p0 : ARR Ps ws p0 11 sg_1 := by rw [← q_sg_1]; exact hU9.2 _ o_p0
        obtain ⟨v_2, e_v_2⟩ : ∃ q9 : Int32, q9 = x2 + Int32.ofInt 1 := ⟨_, rfl⟩
        obtain ⟨t_v_2, r_v_2⟩ := tq_add (lo := 1) (hi := 8) r_x2 (show RI (Int32.ofInt 1) 1 1 by unfold RI; decide +kernel) (by decide +kernel) e_v_2
        have t_v_2 : v_2.toInt = x2.toInt + 1 := t_v_2
        refine lv_iinc (v := v_2) (lv' := [(2, .int v_2), (0, .ref p0), (1, .int p1), (3, .int x3)]) hx hb dJ7_fill_53178_14 hl (k := 2) rfl e_v_2.symm (by decide) rfl (fun ls hl => ?_)
        have q_v_2 : x2 + (1 : Int32) = v_2 := by rw [e_v_2, show Int32.ofInt 1 = (1 : Int32) by decide]
        refine lv_goto (tgt := 5) hx hb dJ7_fill_53178_17 (by decide) ?_
        simp only [f_J7_fill_53178__11_5, ↓reduceIte, eq_false c_7, q_sg_1, q_v_2] at hE
        exact ih5 v_2 x3 sg_1 ws _ _ ls (by have q0 := r_v_2.1; have u0 := r_v_2.2; have o0 := r_x2.1; have p0 := r_x2.2; omega) r_p1 (r_v_2.to (by decide)) r_x3 o_p0 hE hw (lv_sub hl [1, 2, 0, 3] rfl)
  refine lv_iconst (v := 0) hx hb dJ7_fill_53178_0 (by decide) ?_
  refine lv_istore_n (lv' := [(2, .int 0), (0, .ref p0), (1, .int p1)]) hx hb dJ7_fill_53178_1 rfl hl (by decide) rfl (fun ls hl => ?_)
  refine lv_aload_n hx hb dJ7_fill_53178_2 rfl (lv_at hl 1 rfl) ?_
  refine tg_alenI (t0 := 1) (v := 8) hx hb hK hw h_p0 rfl rfl rfl dJ7_fill_53178_3 ?_
  refine lv_istore_n (lv' := [(3, .int 8), (2, .int 0), (0, .ref p0), (1, .int p1)]) hx hb dJ7_fill_53178_4 rfl hl (by decide) rfl (fun ls hl => ?_)
  simp only [f_J7_fill_53178__11, ↓reduceIte] at hE
  exact B5 4294967298 0 8 s0 w0 _ _ ls (by have q0 := rl_0.1; have u0 := rl_0.2; omega) r_p1 (rl_0.to (by decide)) rl_8 o_p0 hE hw (lv_sub hl [2, 3, 1, 0] rfl)
abbrev wr_J7_fill_53178__12 : List (Nat × Nat) := []
abbrev wa_J7_fill_53178__12 : List Nat := [12]
set_option maxHeartbeats 4000000 in
set_option maxRecDepth 100000 in
theorem c_J7_fill_53178__12 (l : Launch) (D : va_G) (cy : Nat → ClassId) (z : Nat → Nat) (sz : Nat) (Ps : PSI) (w0 : va_W) (hT : HT cy GG Ps w0) (p0 : Nat) (p1 : Int32) (s0 : Nat → Int32) (h_p0 : (p0, 12) ∈ Ps) (r_p1 : RI p1 (-1) (-1)) (o_p0 : ARR Ps w0 p0 12 s0) : Met l yJ7_fill_53178 (Cond.code yJ7_fill_53178 cJ7_fill_53178 4 none :: gT) ({ frames := 0, cells := 0, slots := 0, locals := 200 } : Room) (va_Pc [.ref p0, .int p1] (PRE D cy z w0 sz)) (va_Qv (fun (u : va_W) => ((ARR Ps u p0 12 ((f_J7_fill_53178__11 p1 s0)) ∧ True) ∧ (True)) ∧ HT cy GG Ps u ∧ FR wr_J7_fill_53178__12 wa_J7_fill_53178__12 Ps w0 u) (BB D cy (va_A w0 sz) (fun (u : va_W) => u)) (va_A w0 sz)) 0 0 (va_A w0 sz) := by
  refine Met.ofW (cc := cJ7_fill_53178) (maxL := 4) (ret := none) (by decide) rfl ?_
  intro p e s m args below meth c s₁ B hml hv
  obtain ⟨rfl, hsz, hP, hK, hD0, hSD⟩ := hv
  have hx := B.exec
  have hb := B.bytes
  have hr := B.returns
  have hlocks := B.notSynchronized
  have hts : ∀ w ∈ gT, w.before _ s = true := fun w h => atoms_spec (ws := Cond.code yJ7_fill_53178 cJ7_fill_53178 4 none :: gT) B.pre w (List.mem_cons_of_mem _ h)
  have hown : s.vm.findClass RJ7 = some m.cls := findClass_of_methodNamed B.named
  subst hsz
  have hD := hD0.self (sz := s.heap.size)
  generalize hAe : va_A w0 s.heap.size = A at hD hSD ⊢
  have hA : ∀ q : Nat, s.heap.size ≤ q → A q := fun q h => by rw [← hAe]; exact Or.inr h
  have hl := lv_entry ([.ref p0, .int p1]) (n := 4) (Nat.le_of_ble_eq_true rfl)
  rw [lg_entry_eq]
  generalize (lg_sl ([.ref p0, .int p1]) ++ List.replicate (4 - (lg_sl ([.ref p0, .int p1])).length) Slot.unset).toArray = ls at hl ⊢
  have hl : lv_has ls 4 [(0, .ref p0), (1, .int p1)] := hl
  refine nameQ (fun Q hQ => ?_)
  have hw : WD D cy GG A s wr_J7_fill_53178__12 wa_J7_fill_53178__12 Ps w0 Ps w0 s.heap [] := ⟨hT, hP, hD, va_S.rf, FR.rf, hT.1, [], (List.append_nil _).symm⟩
  obtain ⟨R9, hR⟩ : ∃ q9 : (Nat → Int32), f_J7_fill_53178__11 p1 s0 = q9 := ⟨_, rfl⟩
  have hE := hR
  have B5 : ∀ (nf : Nat) (x2 : Int32) (x3 : Int32) (s0 : Nat → Int32) (ws : va_W) (H : Heap) (locs : List Loc) (ls : Array Slot), 8 - x2.toInt < (nf : Int) → RI p1 (-1) (-1) → RI x2 0 8 → RI x3 8 8 → ARR Ps ws p0 12 s0 → f_J7_fill_53178__11_5 p1 nf x2 x3 s0 = R9 → WD D cy GG A s wr_J7_fill_53178__12 wa_J7_fill_53178__12 Ps w0 Ps ws H locs → lv_has ls 4 [(0, .ref p0), (1, .int p1), (2, .int x2), (3, .int x3)] → W p l e (headSpec (Cond.code yJ7_fill_53178 cJ7_fill_53178 4 none :: gT) ({ frames := 0, cells := 0, slots := 0, locals := 200 } : Room)).room s m ([.ref p0, .int p1] : List Value).toArray below meth c H locs 0 0 Q (F0 m 5 ls []) := by
    intro nf5
    induction nf5 with
    | zero =>
      intro x2 x3 s0 ws H locs ls hn5 r_p1 r_x2 r_x3 o_p0 hE hw hl
      exact absurd hn5 (by have q0 := r_x2.1; have u0 := r_x2.2; omega)
    | succ nf5 ih5 =>
      intro x2 x3 s0 ws H locs ls hn5 r_p1 r_x2 r_x3 o_p0 hE hw hl
      refine lv_iload_n hx hb dJ7_fill_53178_5 rfl (lv_at hl 2 rfl) ?_
      refine lv_iload_n hx hb dJ7_fill_53178_6 rfl (lv_at hl 3 rfl) ?_
      refine lv_icmp_ge (tgt := 20) hx hb dJ7_fill_53178_7 (by decide) (fun c_7 => ?_) (fun c_7 => ?_)
      · have r_x2 : RI x2 8 8 := rc_le2 r_x3 r_x2 (ti_le c_7) (by decide)
        simp only [f_J7_fill_53178__11_5, ↓reduceIte, eq_true c_7] at hE
        subst hQ
        exact W.vret hx hb hr (fun t ht hW => ⟨⟨ws, rfl, ⟨⟨⟨(by rw [hR, ← hE]; exact o_p0), trivial⟩, trivial⟩, hw.1, hw.2.2.2.2.1⟩, by rw [ht]; exact hw.2.1, va_K.moved hW.alike hK, hw.2.2.1⟩, hw.2.2.2.1.F ht⟩) hw.2.2.2.1.2.2 dJ7_fill_53178_20
      · have r_x2 : RI x2 0 7 := rc_lt1 r_x2 r_x3 (ti_nle c_7) (by decide)
        refine lv_aload_n hx hb dJ7_fill_53178_10 rfl (lv_at hl 0 rfl) ?_
        refine lv_iload_n hx hb dJ7_fill_53178_11 rfl (lv_at hl 2 rfl) ?_
        refine lv_iload_n hx hb dJ7_fill_53178_12 rfl (lv_at hl 1 rfl) ?_
        refine tg_iast hx hb hK hw h_p0 rfl 0 7 r_x2 (by decide) r_p1 (by exact fun _ _ _ => by decide) (fun _ _ _ _ _ => trivial) (by decide) dJ7_fill_53178_13 (fun ws H locs hw hF9 hU9 => ?_)
        obtain ⟨sg_1, q_sg_1⟩ : ∃ q9 : Nat → Int32, upd s0 (Int32.toNatClampNeg x2) p1 = q9 := ⟨_, rfl⟩
        have o_p0 : ARR Ps ws p0 12 sg_1 := by rw [← q_sg_1]; exact hU9.2 _ o_p0
        obtain ⟨v_2, e_v_2⟩ : ∃ q9 : Int32, q9 = x2 + Int32.ofInt 1 := ⟨_, rfl⟩
        obtain ⟨t_v_2, r_v_2⟩ := tq_add (lo := 1) (hi := 8) r_x2 (show RI (Int32.ofInt 1) 1 1 by unfold RI; decide +kernel) (by decide +kernel) e_v_2
        have t_v_2 : v_2.toInt = x2.toInt + 1 := t_v_2
        refine lv_iinc (v := v_2) (lv' := [(2, .int v_2), (0, .ref p0), (1, .int p1), (3, .int x3)]) hx hb dJ7_fill_53178_14 hl (k := 2) rfl e_v_2.symm (by decide) rfl (fun ls hl => ?_)
        have q_v_2 : x2 + (1 : Int32) = v_2 := by rw [e_v_2, show Int32.ofInt 1 = (1 : Int32) by decide]
        refine lv_goto (tgt := 5) hx hb dJ7_fill_53178_17 (by decide) ?_
        simp only [f_J7_fill_53178__11_5, ↓reduceIte, eq_false c_7, q_sg_1, q_v_2] at hE
        exact ih5 v_2 x3 sg_1 ws _ _ ls (by have q0 := r_v_2.1; have u0 := r_v_2.2; have o0 := r_x2.1; have p0 := r_x2.2; omega) r_p1 (r_v_2.to (by decide)) r_x3 o_p0 hE hw (lv_sub hl [1, 2, 0, 3] rfl)
  refine lv_iconst (v := 0) hx hb dJ7_fill_53178_0 (by decide) ?_
  refine lv_istore_n (lv' := [(2, .int 0), (0, .ref p0), (1, .int p1)]) hx hb dJ7_fill_53178_1 rfl hl (by decide) rfl (fun ls hl => ?_)
  refine lv_aload_n hx hb dJ7_fill_53178_2 rfl (lv_at hl 1 rfl) ?_
  refine tg_alenI (t0 := 1) (v := 8) hx hb hK hw h_p0 rfl rfl rfl dJ7_fill_53178_3 ?_
  refine lv_istore_n (lv' := [(3, .int 8), (2, .int 0), (0, .ref p0), (1, .int p1)]) hx hb dJ7_fill_53178_4 rfl hl (by decide) rfl (fun ls hl => ?_)
  simp only [f_J7_fill_53178__11, ↓reduceIte] at hE
  exact B5 4294967298 0 8 s0 w0 _ _ ls (by have q0 := rl_0.1; have u0 := rl_0.2; omega) r_p1 (rl_0.to (by decide)) rl_8 o_p0 hE hw (lv_sub hl [2, 3, 1, 0] rfl)
abbrev wr_X8_begin__1 : List (Nat × Nat) := [(8, 0), (8, 1)]
abbrev wa_X8_begin__1 : List Nat := [8, 9, 10, 11, 12, 13]
set_option maxHeartbeats 4000000 in
set_option maxRecDepth 100000 in
theorem c_X8_begin__1 (l : Launch) (D : va_G) (cy : Nat → ClassId) (z : Nat → Nat) (sz : Nat) (Ps : PSI) (w0 : va_W) (hT : HT cy GG Ps w0) (p0 : Nat) (p1 : Nat) (s0 : OS) (s1 : OS) (h_p0 : (p0, 24) ∈ Ps) (h_p1 : (p1, 25) ∈ Ps) (o_p0 : OV vw_WORLD Ps w0 p0 s0) (o_p1 : OV vw_POST Ps w0 p1 s1) : Met l yX8_begin (Cond.code yX8_begin cX8_begin 2 none :: gT) ({ frames := 2, cells := 0, slots := 0, locals := 400 } : Room) (va_Pc [.ref p0, .ref p1] (PRE D cy z w0 sz)) (va_Qv (fun (u : va_W) => ((OV vw_WORLD Ps u p0 ((f_X8_begin__1 s0 s1).1) ∧ OV vw_POST Ps u p1 ((f_X8_begin__1 s0 s1).2) ∧ True) ∧ (True)) ∧ HT cy GG Ps u ∧ FR wr_X8_begin__1 wa_X8_begin__1 Ps w0 u) (BB D cy (va_A w0 sz) (fun (u : va_W) => u)) (va_A w0 sz)) 0 0 (va_A w0 sz) := by
  refine Met.ofW (cc := cX8_begin) (maxL := 2) (ret := none) (by decide) rfl ?_
  intro p e s m args below meth c s₁ B hml hv
  obtain ⟨rfl, hsz, hP, hK, hD0, hSD⟩ := hv
  have hx := B.exec
  have hb := B.bytes
  have hr := B.returns
  have hlocks := B.notSynchronized
  have hts : ∀ w ∈ gT, w.before _ s = true := fun w h => atoms_spec (ws := Cond.code yX8_begin cX8_begin 2 none :: gT) B.pre w (List.mem_cons_of_mem _ h)
  have hown : s.vm.findClass RX8 = some m.cls := findClass_of_methodNamed B.named
  subst hsz
  have hD := hD0.self (sz := s.heap.size)
  generalize hAe : va_A w0 s.heap.size = A at hD hSD ⊢
  have hA : ∀ q : Nat, s.heap.size ≤ q → A q := fun q h => by rw [← hAe]; exact Or.inr h
  have hl := lv_entry ([.ref p0, .ref p1]) (n := 2) (Nat.le_of_ble_eq_true rfl)
  rw [lg_entry_eq]
  generalize (lg_sl ([.ref p0, .ref p1]) ++ List.replicate (2 - (lg_sl ([.ref p0, .ref p1])).length) Slot.unset).toArray = ls at hl ⊢
  have hl : lv_has ls 2 [(0, .ref p0), (1, .ref p1)] := hl
  refine nameQ (fun Q hQ => ?_)
  have hw : WD D cy GG A s wr_X8_begin__1 wa_X8_begin__1 Ps w0 Ps w0 s.heap [] := ⟨hT, hP, hD, va_S.rf, FR.rf, hT.1, [], (List.append_nil _).symm⟩
  obtain ⟨R9, hR⟩ : ∃ q9 : OS × OS, f_X8_begin__1 s0 s1 = q9 := ⟨_, rfl⟩
  have hE := hR
  refine lv_aload_n hx hb dX8_begin_0 rfl (lv_at hl 0 rfl) ?_
  refine lv_aload_n hx hb dX8_begin_1 rfl (lv_at hl 1 rfl) ?_
  refine tg_put (ci := 8) (ts := ty_WORLD) (v := .ref p1) (ty := .object "WonderParcels$Post") (C := RX8) (T := TX8) (N := 13) hx hb hts inX8 tyX8 tyX8_ok nmX8 hown hK hw h_p0 rfl rfl 0 (by decide) (hts _ tw_247) (fun _ h9 => h9) rfl (by decide +kernel) rfl rfl (ft := vR 25) rfl ⟨_, rfl, h_p1⟩ (by decide) dX8_begin_2 (fun ws H locs hw n_k_1 hF9 => ?_)
  have o_p0 := OV.over (V := vw_WORLD) hF9 o_p0 (by decide)
  have o_p1 := OV.over (V := vw_POST) hF9 o_p1 (by decide)
  refine lv_aload_n hx hb dX8_begin_5 rfl (lv_at hl 0 rfl) ?_
  refine lv_iconst (v := 0) hx hb dX8_begin_6 (by decide) ?_
  refine tg_put (ci := 8) (ts := ty_WORLD) (v := .int 0) (ty := .int) (C := RX8) (T := TX8) (N := 13) hx hb hts inX8 tyX8 tyX8_ok nmX8 hown hK hw h_p0 rfl rfl 1 (by decide) (hts _ tw_250) (fun _ h9 => h9) rfl (by decide +kernel) rfl rfl (ft := vI (-2147483648) 2147483647) rfl ⟨_, rfl, (rl_0.to (by decide))⟩ (by decide) dX8_begin_7 (fun ws H locs hw n_k_2 hF9 => ?_)
  have o_p1 := OV.over (V := vw_POST) hF9 o_p1 (by decide)
  obtain ⟨sg_3, q_sg_3⟩ : ∃ q9 : OS, sI s0 1 (0 : Int32) = q9 := ⟨_, rfl⟩
  have o_p0 : OV vw_WORLD Ps ws p0 sg_3 := by rw [← q_sg_3]; exact OV.putI (V := vw_WORLD) hF9 n_k_2 o_p0 (by decide)
  refine lv_aload_n hx hb dX8_begin_10 rfl (lv_at hl 0 rfl) ?_
  refine tg_get (ci := 8) (ts := ty_WORLD) (C := RX8) (T := TX8) (N := 13) hx hb hts inX8 hown hK hw h_p0 rfl rfl 2 (by decide) (hts _ tw_252) (fun _ h9 => h9) (ft := vR 8) rfl dX8_begin_11 (fun u_4 hv_u_4 m_u_4 => ?_)
  obtain ⟨vu_4, rfl, h_vu_4⟩ := hv_u_4
  refine lv_iconst (v := 0) hx hb dX8_begin_14 (by decide) ?_
  have oa_vu_4 := OV.arrA (V := vw_WORLD) (t := 8) hw.2.2.1 o_p0 m_u_4 (by decide)
  have mo9_vu_4 := And.intro hw.2.2.1 m_u_4
  refine tk_v (va_runS (As := [.ref vu_4, .int 0]) (rest := []) ⟨hx, hb, hml, hown, hts⟩ (c_J7_fill_53178__9 l D cy z H.size Ps ws hw.1 vu_4 0 (sg_3.2.2.1 2) h_vu_4 rl_0 oa_vu_4) (va_cwS 2 hts (gS tw_246 tw_167 tw_9 tw_168) rfl rfl rfl (by decide +kernel) ⟨Nat.le_of_ble_eq_true rfl, Nat.le_of_ble_eq_true rfl⟩) (tg_preS hw hK hSD hA) rfl rfl hl.1 rfl (lv_room (Nat.le_of_ble_eq_true rfl)) dX8_begin_15 ⟨Nat.le_of_ble_eq_true rfl, Nat.le_of_ble_eq_true rfl⟩) hw hA ⟨by decide, by decide⟩ (fun ws H locs hp_v_5 hw hF9 => ?_)
  have n_k_2 := FLD.over hF9 n_k_2 (by decide)
  have m_u_4 := FLD.over hF9 m_u_4 (by decide)
  obtain ⟨hfn, hp_v_5⟩ := hp_v_5
  have o_p1 := OV.over (V := vw_POST) hF9 o_p1 (by decide)
  obtain ⟨sg_6, q_sg_6⟩ : ∃ q9 : OS, sF sg_3 2 ((f_J7_fill_53178__9 (0 : Int32) (sg_3.2.2.1 2))) = q9 := ⟨_, rfl⟩
  have o_p0 : OV vw_WORLD Ps ws p0 sg_6 := by rw [← q_sg_6]; exact OV.newA (V := vw_WORLD) (t := 8) mo9_vu_4.1 hF9 (hfn.1) o_p0 mo9_vu_4.2 (by decide) (by decide)
  refine lv_aload_n hx hb dX8_begin_18 rfl (lv_at hl 0 rfl) ?_
  refine tg_get (ci := 8) (ts := ty_WORLD) (C := RX8) (T := TX8) (N := 13) hx hb hts inX8 hown hK hw h_p0 rfl rfl 3 (by decide) (hts _ tw_253) (fun _ h9 => h9) (ft := vR 9) rfl dX8_begin_19 (fun u_7 hv_u_7 m_u_7 => ?_)
  obtain ⟨vu_7, rfl, h_vu_7⟩ := hv_u_7
  refine lv_iconst (v := 0) hx hb dX8_begin_22 (by decide) ?_
  have oa_vu_7 := OV.arrA (V := vw_WORLD) (t := 9) hw.2.2.1 o_p0 m_u_7 (by decide)
  have mo9_vu_7 := And.intro hw.2.2.1 m_u_7
  refine tk_v (va_runS (As := [.ref vu_7, .int 0]) (rest := []) ⟨hx, hb, hml, hown, hts⟩ (c_J7_fill_53178__10 l D cy z H.size Ps ws hw.1 vu_7 0 (sg_6.2.2.1 3) h_vu_7 rl_0 oa_vu_7) (va_cwS 2 hts (gS tw_246 tw_167 tw_9 tw_168) rfl rfl rfl (by decide +kernel) ⟨Nat.le_of_ble_eq_true rfl, Nat.le_of_ble_eq_true rfl⟩) (tg_preS hw hK hSD hA) rfl rfl hl.1 rfl (lv_room (Nat.le_of_ble_eq_true rfl)) dX8_begin_23 ⟨Nat.le_of_ble_eq_true rfl, Nat.le_of_ble_eq_true rfl⟩) hw hA ⟨by decide, by decide⟩ (fun ws H locs hp_v_8 hw hF9 => ?_)
  have n_k_2 := FLD.over hF9 n_k_2 (by decide)
  have m_u_4 := FLD.over hF9 m_u_4 (by decide)
  have m_u_7 := FLD.over hF9 m_u_7 (by decide)
  obtain ⟨hfn, hp_v_8⟩ := hp_v_8
  have o_p1 := OV.over (V := vw_POST) hF9 o_p1 (by decide)
  obtain ⟨sg_9, q_sg_9⟩ : ∃ q9 : OS, sF sg_6 3 ((f_J7_fill_53178__10 (0 : Int32) (sg_6.2.2.1 3))) = q9 := ⟨_, rfl⟩
  have o_p0 : OV vw_WORLD Ps ws p0 sg_9 := by rw [← q_sg_9]; exact OV.newA (V := vw_WORLD) (t := 9) mo9_vu_7.1 hF9 (hfn.1) o_p0 mo9_vu_7.2 (by decide) (by decide)
  refine lv_aload_n hx hb dX8_begin_26 rfl (lv_at hl 0 rfl) ?_
  refine tg_get (ci := 8) (ts := ty_WORLD) (C := RX8) (T := TX8) (N := 13) hx hb hts inX8 hown hK hw h_p0 rfl rfl 4 (by decide) (hts _ tw_257) (fun _ h9 => h9) (ft := vR 10) rfl dX8_begin_27 (fun u_10 hv_u_10 m_u_10 => ?_)
  obtain ⟨vu_10, rfl, h_vu_10⟩ := hv_u_10
  refine lv_iconst (v := 0) hx hb dX8_begin_30 (by decide) ?_
  refine tk_v (va_runS (As := [.ref vu_10, .int 0]) (rest := []) ⟨hx, hb, hml, hown, hts⟩ (c_J7_fill_53178__2 l D cy z H.size Ps ws hw.1 vu_10 0 h_vu_10 rl_0) (va_cwS 2 hts (gS tw_246 tw_167 tw_9 tw_168) rfl rfl rfl (by decide +kernel) ⟨Nat.le_of_ble_eq_true rfl, Nat.le_of_ble_eq_true rfl⟩) (tg_preS hw hK hSD hA) rfl rfl hl.1 rfl (lv_room (Nat.le_of_ble_eq_true rfl)) dX8_begin_31 ⟨Nat.le_of_ble_eq_true rfl, Nat.le_of_ble_eq_true rfl⟩) hw hA ⟨by decide, by decide⟩ (fun ws H locs hp_v_11 hw hF9 => ?_)
  have n_k_2 := FLD.over hF9 n_k_2 (by decide)
  have m_u_4 := FLD.over hF9 m_u_4 (by decide)
  have m_u_7 := FLD.over hF9 m_u_7 (by decide)
  have m_u_10 := FLD.over hF9 m_u_10 (by decide)
  have o_p0 := OV.over (V := vw_WORLD) hF9 o_p0 (by decide)
  have o_p1 := OV.over (V := vw_POST) hF9 o_p1 (by decide)
  refine lv_aload_n hx hb dX8_begin_34 rfl (lv_at hl 0 rfl) ?_
  refine tg_get (ci := 8) (ts := ty_WORLD) (C := RX8) (T := TX8) (N := 13) hx hb hts inX8 hown hK hw h_p0 rfl rfl 5 (by decide) (hts _ tw_260) (fun _ h9 => h9) (ft := vR 10) rfl dX8_begin_35 (fun u_12 hv_u_12 m_u_12 => ?_)
  obtain ⟨vu_12, rfl, h_vu_12⟩ := hv_u_12
  refine lv_iconst (v := 0) hx hb dX8_begin_38 (by decide) ?_
  refine tk_v (va_runS (As := [.ref vu_12, .int 0]) (rest := []) ⟨hx, hb, hml, hown, hts⟩ (c_J7_fill_53178__2 l D cy z H.size Ps ws hw.1 vu_12 0 h_vu_12 rl_0) (va_cwS 2 hts (gS tw_246 tw_167 tw_9 tw_168) rfl rfl rfl (by decide +kernel) ⟨Nat.le_of_ble_eq_true rfl, Nat.le_of_ble_eq_true rfl⟩) (tg_preS hw hK hSD hA) rfl rfl hl.1 rfl (lv_room (Nat.le_of_ble_eq_true rfl)) dX8_begin_39 ⟨Nat.le_of_ble_eq_true rfl, Nat.le_of_ble_eq_true rfl⟩) hw hA ⟨by decide, by decide⟩ (fun ws H locs hp_v_13 hw hF9 => ?_)
  have n_k_2 := FLD.over hF9 n_k_2 (by decide)
  have m_u_4 := FLD.over hF9 m_u_4 (by decide)
  have m_u_7 := FLD.over hF9 m_u_7 (by decide)
  have m_u_10 := FLD.over hF9 m_u_10 (by decide)
  have m_u_12 := FLD.over hF9 m_u_12 (by decide)
  have o_p0 := OV.over (V := vw_WORLD) hF9 o_p0 (by decide)
  have o_p1 := OV.over (V := vw_POST) hF9 o_p1 (by decide)
  refine lv_aload_n hx hb dX8_begin_42 rfl (lv_at hl 0 rfl) ?_
  refine tg_get (ci := 8) (ts := ty_WORLD) (C := RX8) (T := TX8) (N := 13) hx hb hts inX8 hown hK hw h_p0 rfl rfl 6 (by decide) (hts _ tw_262) (fun _ h9 => h9) (ft := vR 10) rfl dX8_begin_43 (fun u_14 hv_u_14 m_u_14 => ?_)
  obtain ⟨vu_14, rfl, h_vu_14⟩ := hv_u_14
  refine lv_iconst (v := 0) hx hb dX8_begin_46 (by decide) ?_
  refine tk_v (va_runS (As := [.ref vu_14, .int 0]) (rest := []) ⟨hx, hb, hml, hown, hts⟩ (c_J7_fill_53178__2 l D cy z H.size Ps ws hw.1 vu_14 0 h_vu_14 rl_0) (va_cwS 2 hts (gS tw_246 tw_167 tw_9 tw_168) rfl rfl rfl (by decide +kernel) ⟨Nat.le_of_ble_eq_true rfl, Nat.le_of_ble_eq_true rfl⟩) (tg_preS hw hK hSD hA) rfl rfl hl.1 rfl (lv_room (Nat.le_of_ble_eq_true rfl)) dX8_begin_47 ⟨Nat.le_of_ble_eq_true rfl, Nat.le_of_ble_eq_true rfl⟩) hw hA ⟨by decide, by decide⟩ (fun ws H locs hp_v_15 hw hF9 => ?_)
  have n_k_2 := FLD.over hF9 n_k_2 (by decide)
  have m_u_4 := FLD.over hF9 m_u_4 (by decide)
  have m_u_7 := FLD.over hF9 m_u_7 (by decide)
  have m_u_10 := FLD.over hF9 m_u_10 (by decide)
  have m_u_12 := FLD.over hF9 m_u_12 (by decide)
  have m_u_14 := FLD.over hF9 m_u_14 (by decide)
  have o_p0 := OV.over (V := vw_WORLD) hF9 o_p0 (by decide)
  have o_p1 := OV.over (V := vw_POST) hF9 o_p1 (by decide)
  refine lv_aload_n hx hb dX8_begin_50 rfl (lv_at hl 0 rfl) ?_
  refine tg_get (ci := 8) (ts := ty_WORLD) (C := RX8) (T := TX8) (N := 13) hx hb hts inX8 hown hK hw h_p0 rfl rfl 7 (by decide) (hts _ tw_265) (fun _ h9 => h9) (ft := vR 11) rfl dX8_begin_51 (fun u_16 hv_u_16 m_u_16 => ?_)
  obtain ⟨vu_16, rfl, h_vu_16⟩ := hv_u_16
  refine lv_iconst (v := 0) hx hb dX8_begin_54 (by decide) ?_
  have oa_vu_16 := OV.arrA (V := vw_WORLD) (t := 11) hw.2.2.1 o_p0 m_u_16 (by decide)
  have mo9_vu_16 := And.intro hw.2.2.1 m_u_16
  refine tk_v (va_runS (As := [.ref vu_16, .int 0]) (rest := []) ⟨hx, hb, hml, hown, hts⟩ (c_J7_fill_53178__11 l D cy z H.size Ps ws hw.1 vu_16 0 (sg_9.2.2.1 7) h_vu_16 rl_0 oa_vu_16) (va_cwS 2 hts (gS tw_246 tw_167 tw_9 tw_168) rfl rfl rfl (by decide +kernel) ⟨Nat.le_of_ble_eq_true rfl, Nat.le_of_ble_eq_true rfl⟩) (tg_preS hw hK hSD hA) rfl rfl hl.1 rfl (lv_room (Nat.le_of_ble_eq_true rfl)) dX8_begin_55 ⟨Nat.le_of_ble_eq_true rfl, Nat.le_of_ble_eq_true rfl⟩) hw hA ⟨by decide, by decide⟩ (fun ws H locs hp_v_17 hw hF9 => ?_)
  have n_k_2 := FLD.over hF9 n_k_2 (by decide)
  have m_u_4 := FLD.over hF9 m_u_4 (by decide)
  have m_u_7 := FLD.over hF9 m_u_7 (by decide)
  have m_u_10 := FLD.over hF9 m_u_10 (by decide)
  have m_u_12 := FLD.over hF9 m_u_12 (by decide)
  have m_u_14 := FLD.over hF9 m_u_14 (by decide)
  have m_u_16 := FLD.over hF9 m_u_16 (by decide)
  obtain ⟨hfn, hp_v_17⟩ := hp_v_17
  have o_p1 := OV.over (V := vw_POST) hF9 o_p1 (by decide)
  obtain ⟨sg_18, q_sg_18⟩ : ∃ q9 : OS, sF sg_9 7 ((f_J7_fill_53178__11 (0 : Int32) (sg_9.2.2.1 7))) = q9 := ⟨_, rfl⟩
  have o_p0 : OV vw_WORLD Ps ws p0 sg_18 := by rw [← q_sg_18]; exact OV.newA (V := vw_WORLD) (t := 11) mo9_vu_16.1 hF9 (hfn.1) o_p0 mo9_vu_16.2 (by decide) (by decide)
  refine lv_aload_n hx hb dX8_begin_58 rfl (lv_at hl 0 rfl) ?_
  refine tg_get (ci := 8) (ts := ty_WORLD) (C := RX8) (T := TX8) (N := 13) hx hb hts inX8 hown hK hw h_p0 rfl rfl 8 (by decide) (hts _ tw_268) (fun _ h9 => h9) (ft := vR 12) rfl dX8_begin_59 (fun u_19 hv_u_19 m_u_19 => ?_)
  obtain ⟨vu_19, rfl, h_vu_19⟩ := hv_u_19
  refine lv_iconst (v := (-1)) hx hb dX8_begin_62 (by decide) ?_
  have oa_vu_19 := OV.arrA (V := vw_WORLD) (t := 12) hw.2.2.1 o_p0 m_u_19 (by decide)
  have mo9_vu_19 := And.intro hw.2.2.1 m_u_19
  refine tk_v (va_runS (As := [.ref vu_19, .int (-1)]) (rest := []) ⟨hx, hb, hml, hown, hts⟩ (c_J7_fill_53178__12 l D cy z H.size Ps ws hw.1 vu_19 (-1) (sg_18.2.2.1 8) h_vu_19 rl_m1 oa_vu_19) (va_cwS 2 hts (gS tw_246 tw_167 tw_9 tw_168) rfl rfl rfl (by decide +kernel) ⟨Nat.le_of_ble_eq_true rfl, Nat.le_of_ble_eq_true rfl⟩) (tg_preS hw hK hSD hA) rfl rfl hl.1 rfl (lv_room (Nat.le_of_ble_eq_true rfl)) dX8_begin_63 ⟨Nat.le_of_ble_eq_true rfl, Nat.le_of_ble_eq_true rfl⟩) hw hA ⟨by decide, by decide⟩ (fun ws H locs hp_v_20 hw hF9 => ?_)
  have n_k_2 := FLD.over hF9 n_k_2 (by decide)
  have m_u_4 := FLD.over hF9 m_u_4 (by decide)
  have m_u_7 := FLD.over hF9 m_u_7 (by decide)
  have m_u_10 := FLD.over hF9 m_u_10 (by decide)
  have m_u_12 := FLD.over hF9 m_u_12 (by decide)
  have m_u_14 := FLD.over hF9 m_u_14 (by decide)
  have m_u_16 := FLD.over hF9 m_u_16 (by decide)
  have m_u_19 := FLD.over hF9 m_u_19 (by decide)
  obtain ⟨hfn, hp_v_20⟩ := hp_v_20
  have o_p1 := OV.over (V := vw_POST) hF9 o_p1 (by decide)
  obtain ⟨sg_21, q_sg_21⟩ : ∃ q9 : OS, sF sg_18 8 ((f_J7_fill_53178__11 ((-1) : Int32) (sg_18.2.2.1 8))) = q9 := ⟨_, rfl⟩
  have o_p0 : OV vw_WORLD Ps ws p0 sg_21 := by rw [← q_sg_21]; exact OV.newA (V := vw_WORLD) (t := 12) mo9_vu_19.1 hF9 (hfn.1) o_p0 mo9_vu_19.2 (by decide) (by decide)
  refine lv_aload_n hx hb dX8_begin_66 rfl (lv_at hl 0 rfl) ?_
  refine tg_get (ci := 8) (ts := ty_WORLD) (C := RX8) (T := TX8) (N := 13) hx hb hts inX8 hown hK hw h_p0 rfl rfl 9 (by decide) (hts _ tw_271) (fun _ h9 => h9) (ft := vR 13) rfl dX8_begin_67 (fun u_22 hv_u_22 m_u_22 => ?_)
  obtain ⟨vu_22, rfl, h_vu_22⟩ := hv_u_22
  refine lv_iconst (v := 0) hx hb dX8_begin_70 (by decide) ?_
  refine tk_v (va_runS (As := [.ref vu_22, .int 0]) (rest := []) ⟨hx, hb, hml, hown, hts⟩ (c_J7_fill_53178__5 l D cy z H.size Ps ws hw.1 vu_22 0 h_vu_22 rl_0) (va_cwS 2 hts (gS tw_246 tw_167 tw_9 tw_168) rfl rfl rfl (by decide +kernel) ⟨Nat.le_of_ble_eq_true rfl, Nat.le_of_ble_eq_true rfl⟩) (tg_preS hw hK hSD hA) rfl rfl hl.1 rfl (lv_room (Nat.le_of_ble_eq_true rfl)) dX8_begin_71 ⟨Nat.le_of_ble_eq_true rfl, Nat.le_of_ble_eq_true rfl⟩) hw hA ⟨by decide, by decide⟩ (fun ws H locs hp_v_23 hw hF9 => ?_)
  have n_k_2 := FLD.over hF9 n_k_2 (by decide)
  have m_u_4 := FLD.over hF9 m_u_4 (by decide)
  have m_u_7 := FLD.over hF9 m_u_7 (by decide)
  have m_u_10 := FLD.over hF9 m_u_10 (by decide)
  have m_u_12 := FLD.over hF9 m_u_12 (by decide)
  have m_u_14 := FLD.over hF9 m_u_14 (by decide)
  have m_u_16 := FLD.over hF9 m_u_16 (by decide)
  have m_u_19 := FLD.over hF9 m_u_19 (by decide)
  have m_u_22 := FLD.over hF9 m_u_22 (by decide)
  have o_p0 := OV.over (V := vw_WORLD) hF9 o_p0 (by decide)
  have o_p1 := OV.over (V := vw_POST) hF9 o_p1 (by decide)
  refine lv_aload_n hx hb dX8_begin_74 rfl (lv_at hl 0 rfl) ?_
  refine tg_get (ci := 8) (ts := ty_WORLD) (C := RX8) (T := TX8) (N := 13) hx hb hts inX8 hown hK hw h_p0 rfl rfl 10 (by decide) (hts _ tw_273) (fun _ h9 => h9) (ft := vR 13) rfl dX8_begin_75 (fun u_24 hv_u_24 m_u_24 => ?_)
  obtain ⟨vu_24, rfl, h_vu_24⟩ := hv_u_24
  refine lv_iconst (v := 0) hx hb dX8_begin_78 (by decide) ?_
  refine tk_v (va_runS (As := [.ref vu_24, .int 0]) (rest := []) ⟨hx, hb, hml, hown, hts⟩ (c_J7_fill_53178__5 l D cy z H.size Ps ws hw.1 vu_24 0 h_vu_24 rl_0) (va_cwS 2 hts (gS tw_246 tw_167 tw_9 tw_168) rfl rfl rfl (by decide +kernel) ⟨Nat.le_of_ble_eq_true rfl, Nat.le_of_ble_eq_true rfl⟩) (tg_preS hw hK hSD hA) rfl rfl hl.1 rfl (lv_room (Nat.le_of_ble_eq_true rfl)) dX8_begin_79 ⟨Nat.le_of_ble_eq_true rfl, Nat.le_of_ble_eq_true rfl⟩) hw hA ⟨by decide, by decide⟩ (fun ws H locs hp_v_25 hw hF9 => ?_)
  have n_k_2 := FLD.over hF9 n_k_2 (by decide)
  have m_u_4 := FLD.over hF9 m_u_4 (by decide)
  have m_u_7 := FLD.over hF9 m_u_7 (by decide)
  have m_u_10 := FLD.over hF9 m_u_10 (by decide)
  have m_u_12 := FLD.over hF9 m_u_12 (by decide)
  have m_u_14 := FLD.over hF9 m_u_14 (by decide)
  have m_u_16 := FLD.over hF9 m_u_16 (by decide)
  have m_u_19 := FLD.over hF9 m_u_19 (by decide)
  have m_u_22 := FLD.over hF9 m_u_22 (by decide)
  have m_u_24 := FLD.over hF9 m_u_24 (by decide)
  have o_p0 := OV.over (V := vw_WORLD) hF9 o_p0 (by decide)
  have o_p1 := OV.over (V := vw_POST) hF9 o_p1 (by decide)
  simp only [f_X8_begin__1, ↓reduceIte, q_sg_3, q_sg_6, q_sg_9, q_sg_18, q_sg_21] at hE
  subst hQ
  exact W.vret hx hb hr (fun t ht hW => ⟨⟨ws, rfl, ⟨⟨⟨(by rw [hR, ← hE]; exact o_p0), (by rw [hR, ← hE]; exact o_p1), trivial⟩, trivial⟩, hw.1, hw.2.2.2.2.1⟩, by rw [ht]; exact hw.2.1, va_K.moved hW.alike hK, hw.2.2.1⟩, hw.2.2.2.1.F ht⟩) hw.2.2.2.1.2.2 dX8_begin_82
abbrev wr_X7_startText__3 : List (Nat × Nat) := [(7, 3), (7, 4), (7, 5), (7, 6), (7, 7), (7, 8), (7, 9), (7, 10), (7, 11)]
abbrev wa_X7_startText__3 : List Nat := []
set_option maxHeartbeats 4000000 in
set_option maxRecDepth 100000 in
theorem c_X7_startText__3 (l : Launch) (D : va_G) (cy : Nat → ClassId) (z : Nat → Nat) (sz : Nat) (Ps : PSI) (w0 : va_W) (hT : HT cy GG Ps w0) (p0 : Nat) (p1 : Int32) (s0 : OS) (h_p0 : (p0, 26) ∈ Ps) (r_p1 : RI p1 900 900) (o_p0 : OV vw_TAPE Ps w0 p0 s0) : Met l yX7_startText (Cond.code yX7_startText cX7_startText 2 none :: gT) ({ frames := 3, cells := 0, slots := 0, locals := 600 } : Room) (va_Pc [.ref p0, .int p1] (PRE D cy z w0 sz)) (va_Qv (fun (u : va_W) => ((OV vw_TAPE Ps u p0 ((f_X7_startText__3 p1 s0)) ∧ True) ∧ ((∃ v9 : Int32, FLD u p0 7 10 (.int v9) ∧ RI v9 0 0) ∧ True)) ∧ HT cy GG Ps u ∧ FR wr_X7_startText__3 wa_X7_startText__3 Ps w0 u) (BB D cy (va_A w0 sz) (fun (u : va_W) => u)) (va_A w0 sz)) 0 0 (va_A w0 sz) := by
  refine Met.ofW (cc := cX7_startText) (maxL := 2) (ret := none) (by decide) rfl ?_
  intro p e s m args below meth c s₁ B hml hv
  obtain ⟨rfl, hsz, hP, hK, hD0, hSD⟩ := hv
  have hx := B.exec
  have hb := B.bytes
  have hr := B.returns
  have hlocks := B.notSynchronized
  have hts : ∀ w ∈ gT, w.before _ s = true := fun w h => atoms_spec (ws := Cond.code yX7_startText cX7_startText 2 none :: gT) B.pre w (List.mem_cons_of_mem _ h)
  have hown : s.vm.findClass RX7 = some m.cls := findClass_of_methodNamed B.named
  subst hsz
  have hD := hD0.self (sz := s.heap.size)
  generalize hAe : va_A w0 s.heap.size = A at hD hSD ⊢
  have hA : ∀ q : Nat, s.heap.size ≤ q → A q := fun q h => by rw [← hAe]; exact Or.inr h
  have hl := lv_entry ([.ref p0, .int p1]) (n := 2) (Nat.le_of_ble_eq_true rfl)
  rw [lg_entry_eq]
  generalize (lg_sl ([.ref p0, .int p1]) ++ List.replicate (2 - (lg_sl ([.ref p0, .int p1])).length) Slot.unset).toArray = ls at hl ⊢
  have hl : lv_has ls 2 [(0, .ref p0), (1, .int p1)] := hl
  refine nameQ (fun Q hQ => ?_)
  have hw : WD D cy GG A s wr_X7_startText__3 wa_X7_startText__3 Ps w0 Ps w0 s.heap [] := ⟨hT, hP, hD, va_S.rf, FR.rf, hT.1, [], (List.append_nil _).symm⟩
  obtain ⟨R9, hR⟩ : ∃ q9 : OS, f_X7_startText__3 p1 s0 = q9 := ⟨_, rfl⟩
  have hE := hR
  have B33 : ∀ (y0 : Int32) (s0 : OS) (ws : va_W) (H : Heap) (locs : List Loc) (ls : Array Slot), RI p1 900 900 → RI y0 0 940 → OV vw_TAPE Ps ws p0 s0 → f_X7_startText__3_33 p1 y0 s0 = R9 → WD D cy GG A s wr_X7_startText__3 wa_X7_startText__3 Ps w0 Ps ws H locs → lv_has ls 2 [(0, .ref p0), (1, .int p1)] → W p l e (headSpec (Cond.code yX7_startText cX7_startText 2 none :: gT) ({ frames := 3, cells := 0, slots := 0, locals := 600 } : Room)).room s m ([.ref p0, .int p1] : List Value).toArray below meth c H locs 0 0 Q (F0 m 33 ls [.int y0, .ref p0]) := by
    intro y0 s0 ws H locs ls r_p1 r_y0 o_p0 hE hw hl
    refine tg_put (ci := 7) (ts := ty_TAPE) (v := .int y0) (ty := .int) (C := RX7) (T := TX7) (N := 12) hx hb hts inX7 tyX7 tyX7_ok nmX7 hown hK hw h_p0 rfl rfl 3 (by decide) (hts _ tw_91) (fun _ h9 => h9) rfl (by decide +kernel) rfl rfl (ft := vI 0 940) rfl ⟨_, rfl, r_y0⟩ (by decide) dX7_startText_33 (fun ws H locs hw n_k_1 hF9 => ?_)
    obtain ⟨sg_2, q_sg_2⟩ : ∃ q9 : OS, sI s0 3 y0 = q9 := ⟨_, rfl⟩
    have o_p0 : OV vw_TAPE Ps ws p0 sg_2 := by rw [← q_sg_2]; exact OV.putI (V := vw_TAPE) hF9 n_k_1 o_p0 (by decide)
    refine lv_aload_n hx hb dX7_startText_36 rfl (lv_at hl 0 rfl) ?_
    refine lv_iconst (v := 0) hx hb dX7_startText_37 (by decide) ?_
    refine tg_put (ci := 7) (ts := ty_TAPE) (v := .int 0) (ty := .int) (C := RX7) (T := TX7) (N := 12) hx hb hts inX7 tyX7 tyX7_ok nmX7 hown hK hw h_p0 rfl rfl 6 (by decide) (hts _ tw_94) (fun _ h9 => h9) rfl (by decide +kernel) rfl rfl (ft := vI 0 940) rfl ⟨_, rfl, (rl_0.to (by decide))⟩ (by decide) dX7_startText_38 (fun ws H locs hw n_k_3 hF9 => ?_)
    have n_k_1 := FLD.over hF9 n_k_1 (by decide)
    obtain ⟨sg_4, q_sg_4⟩ : ∃ q9 : OS, sI sg_2 6 (0 : Int32) = q9 := ⟨_, rfl⟩
    have o_p0 : OV vw_TAPE Ps ws p0 sg_4 := by rw [← q_sg_4]; exact OV.putI (V := vw_TAPE) hF9 n_k_3 o_p0 (by decide)
    refine lv_aload_n hx hb dX7_startText_41 rfl (lv_at hl 0 rfl) ?_
    refine lv_iconst (v := 0) hx hb dX7_startText_42 (by decide) ?_
    refine tg_put (ci := 7) (ts := ty_TAPE) (v := .int 0) (ty := .int) (C := RX7) (T := TX7) (N := 12) hx hb hts inX7 tyX7 tyX7_ok nmX7 hown hK hw h_p0 rfl rfl 10 (by decide) (hts _ tw_104) (fun _ h9 => h9) rfl (by decide +kernel) rfl rfl (ft := vI 0 4) rfl ⟨_, rfl, (rl_0.to (by decide))⟩ (by decide) dX7_startText_43 (fun ws H locs hw n_k_5 hF9 => ?_)
    have n_k_1 := FLD.over hF9 n_k_1 (by decide)
    have n_k_3 := FLD.over hF9 n_k_3 (by decide)
    obtain ⟨sg_6, q_sg_6⟩ : ∃ q9 : OS, sI sg_4 10 (0 : Int32) = q9 := ⟨_, rfl⟩
    have o_p0 : OV vw_TAPE Ps ws p0 sg_6 := by rw [← q_sg_6]; exact OV.putI (V := vw_TAPE) hF9 n_k_5 o_p0 (by decide)
    refine lv_aload_n hx hb dX7_startText_46 rfl (lv_at hl 0 rfl) ?_
    refine lv_iconst (v := 0) hx hb dX7_startText_47 (by decide) ?_
    refine tg_put (ci := 7) (ts := ty_TAPE) (v := .int 0) (ty := .int) (C := RX7) (T := TX7) (N := 12) hx hb hts inX7 tyX7 tyX7_ok nmX7 hown hK hw h_p0 rfl rfl 11 (by decide) (hts _ tw_108) (fun _ h9 => h9) rfl (by decide +kernel) rfl rfl (ft := vI (-2147483648) 2147483647) rfl ⟨_, rfl, (rl_0.to (by decide))⟩ (by decide) dX7_startText_48 (fun ws H locs hw n_k_7 hF9 => ?_)
    have n_k_1 := FLD.over hF9 n_k_1 (by decide)
    have n_k_3 := FLD.over hF9 n_k_3 (by decide)
    have n_k_5 := FLD.over hF9 n_k_5 (by decide)
    obtain ⟨sg_8, q_sg_8⟩ : ∃ q9 : OS, sI sg_6 11 (0 : Int32) = q9 := ⟨_, rfl⟩
    have o_p0 : OV vw_TAPE Ps ws p0 sg_8 := by rw [← q_sg_8]; exact OV.putI (V := vw_TAPE) hF9 n_k_7 o_p0 (by decide)
    refine lv_aload_n hx hb dX7_startText_51 rfl (lv_at hl 0 rfl) ?_
    refine tk_v (va_runV (As := []) (rest := []) ⟨hx, hb, hml, hown, hts⟩ (c_X7_pass__5 l D cy z H.size Ps ws hw.1 p0 0 sg_8 h_p0 rl_0 n_k_5 o_p0) (cwV 0 hts (gV tw_424 tw_425 tw_426 tw_2 tw_427) rfl rfl rfl (by decide +kernel) ⟨Nat.le_of_ble_eq_true rfl, Nat.le_of_ble_eq_true rfl⟩) (tg_preV hw hK hSD hA (ci := 7) (q := (RX7, TX7, 12)) rfl h_p0 rfl) rfl rfl hl.1 rfl (lv_room (Nat.le_of_ble_eq_true rfl)) dX7_startText_52 ⟨Nat.le_of_ble_eq_true rfl, Nat.le_of_ble_eq_true rfl⟩) hw hA ⟨by decide, by decide⟩ (fun ws H locs hp_v_9 hw hF9 => ?_)
    have n_k_1 := FLD.over hF9 n_k_1 (by decide)
    have n_k_5 := FLD.over hF9 n_k_5 (by decide)
    have n_k_7 := FLD.over hF9 n_k_7 (by decide)
    obtain ⟨hfn, hp_v_9⟩ := hp_v_9
    obtain ⟨sg_10, q_sg_10⟩ : ∃ q9 : OS, (f_X7_pass__5 sg_8) = q9 := ⟨_, rfl⟩
    have o_p0 : OV vw_TAPE Ps ws p0 sg_10 := by rw [← q_sg_10]; exact hfn.1
    obtain ⟨v_11, m_v_11, r_v_11⟩ := (hp_v_9.1)
    simp only [f_X7_startText__3_33, ↓reduceIte, q_sg_2, q_sg_4, q_sg_6, q_sg_8, q_sg_10] at hE
    subst hQ
    exact W.vret hx hb hr (fun t ht hW => ⟨⟨ws, rfl, ⟨⟨⟨(by rw [hR, ← hE]; exact o_p0), trivial⟩, ⟨⟨_, m_v_11, r_v_11⟩, trivial⟩⟩, hw.1, hw.2.2.2.2.1⟩, by rw [ht]; exact hw.2.1, va_K.moved hW.alike hK, hw.2.2.1⟩, hw.2.2.2.1.F ht⟩) hw.2.2.2.1.2.2 dX7_startText_55
  have B14 : ∀ (y0 : Int32) (s0 : OS) (ws : va_W) (H : Heap) (locs : List Loc) (ls : Array Slot), RI p1 900 900 → RI y0 0 1 → OV vw_TAPE Ps ws p0 s0 → f_X7_startText__3_14 p1 y0 s0 = R9 → WD D cy GG A s wr_X7_startText__3 wa_X7_startText__3 Ps w0 Ps ws H locs → lv_has ls 2 [(0, .ref p0), (1, .int p1)] → W p l e (headSpec (Cond.code yX7_startText cX7_startText 2 none :: gT) ({ frames := 3, cells := 0, slots := 0, locals := 600 } : Room)).room s m ([.ref p0, .int p1] : List Value).toArray below meth c H locs 0 0 Q (F0 m 14 ls [.int y0, .ref p0]) := by
    intro y0 s0 ws H locs ls r_p1 r_y0 o_p0 hE hw hl
    refine tg_put (ci := 7) (ts := ty_TAPE) (v := .int y0) (ty := .boolean) (C := RX7) (T := TX7) (N := 12) hx hb hts inX7 tyX7 tyX7_ok nmX7 hown hK hw h_p0 rfl rfl 4 (by decide) (hts _ tw_92) (fun _ h9 => h9) rfl (by decide +kernel) (tq_nz r_y0) (tq_fz r_y0) (ft := vI 0 1) rfl ⟨_, rfl, r_y0⟩ (by decide) dX7_startText_14 (fun ws H locs hw n_k_12 hF9 => ?_)
    obtain ⟨sg_13, q_sg_13⟩ : ∃ q9 : OS, sI s0 4 y0 = q9 := ⟨_, rfl⟩
    have o_p0 : OV vw_TAPE Ps ws p0 sg_13 := by rw [← q_sg_13]; exact OV.putI (V := vw_TAPE) hF9 n_k_12 o_p0 (by decide)
    refine lv_aload_n hx hb dX7_startText_17 rfl (lv_at hl 0 rfl) ?_
    refine lv_aload_n hx hb dX7_startText_18 rfl (lv_at hl 0 rfl) ?_
    refine tg_mem (ci := 7) (C := RX7) (T := TX7) (N := 12) hx hb hts inX7 hown hK hw 4 n_k_12 rfl (by decide) (hts _ tw_92) (fun _ h9 => h9) dX7_startText_19 ?_
    refine lv_if_eq (tgt := 29) hx hb dX7_startText_22 (by decide) (fun c_22 => ?_) (fun c_22 => ?_)
    · have r_y0 : RI y0 0 0 := rc_eq1 r_y0 rl_0 (ti_eq c_22) (by decide)
      refine lv_aload_n hx hb dX7_startText_29 rfl (lv_at hl 0 rfl) ?_
      refine tg_get (ci := 7) (ts := ty_TAPE) (C := RX7) (T := TX7) (N := 12) hx hb hts inX7 hown hK hw h_p0 rfl rfl 2 (by decide) (hts _ tw_89) (fun _ h9 => h9) (ft := vI 0 940) rfl dX7_startText_30 (fun u_14 hv_u_14 m_u_14 => ?_)
      obtain ⟨vu_14, rfl, r_vu_14⟩ := hv_u_14
      have q_vu_14 : sg_13.1 2 = vu_14 := OV.eqI (V := vw_TAPE) hw.2.2.1 o_p0 m_u_14 (by decide)
      simp only [f_X7_startText__3_14, ↓reduceIte, q_sg_13, eq_true c_22, q_vu_14] at hE
      exact B33 vu_14 sg_13 ws _ _ ls r_p1 r_vu_14 o_p0 hE hw hl
    · have r_y0 : RI y0 1 1 := rc_neL r_y0 rl_0 (ti_ne c_22) (by decide)
      refine lv_iload_n hx hb dX7_startText_25 rfl (lv_at hl 1 rfl) ?_
      refine lv_goto (tgt := 33) hx hb dX7_startText_26 (by decide) ?_
      simp only [f_X7_startText__3_14, ↓reduceIte, q_sg_13, eq_false c_22] at hE
      exact B33 p1 sg_13 ws _ _ ls r_p1 (r_p1.to (by decide)) o_p0 hE hw hl
  refine lv_aload_n hx hb dX7_startText_0 rfl (lv_at hl 0 rfl) ?_
  refine lv_aload_n hx hb dX7_startText_1 rfl (lv_at hl 0 rfl) ?_
  refine tg_get (ci := 7) (ts := ty_TAPE) (C := RX7) (T := TX7) (N := 12) hx hb hts inX7 hown hK hw h_p0 rfl rfl 2 (by decide) (hts _ tw_89) (fun _ h9 => h9) (ft := vI 0 940) rfl dX7_startText_2 (fun u_15 hv_u_15 m_u_15 => ?_)
  obtain ⟨vu_15, rfl, r_vu_15⟩ := hv_u_15
  have q_vu_15 : s0.1 2 = vu_15 := OV.eqI (V := vw_TAPE) hw.2.2.1 o_p0 m_u_15 (by decide)
  refine lv_iload_n hx hb dX7_startText_5 rfl (lv_at hl 1 rfl) ?_
  refine lv_icmp_le (tgt := 13) hx hb dX7_startText_6 (by decide) (fun c_6 => ?_) (fun c_6 => ?_)
  · have r_vu_15 : RI vu_15 0 900 := rc_le1 r_vu_15 r_p1 (ti_le c_6) (by decide)
    refine lv_iconst (v := 0) hx hb dX7_startText_13 (by decide) ?_
    simp only [f_X7_startText__3, ↓reduceIte, q_vu_15, eq_true c_6] at hE
    exact B14 0 s0 w0 _ _ ls r_p1 (rl_0.to (by decide)) o_p0 hE hw hl
  · have r_vu_15 : RI vu_15 901 940 := rc_lt2 r_p1 r_vu_15 (ti_nle c_6) (by decide)
    refine lv_iconst (v := 1) hx hb dX7_startText_9 (by decide) ?_
    refine lv_goto (tgt := 14) hx hb dX7_startText_10 (by decide) ?_
    simp only [f_X7_startText__3, ↓reduceIte, q_vu_15, eq_false c_6] at hE
    exact B14 1 s0 w0 _ _ ls r_p1 (rl_1.to (by decide)) o_p0 hE hw hl
abbrev wr_X3_read__1 : List (Nat × Nat) := [(3, 5), (3, 6), (3, 7), (3, 8), (7, 3), (7, 4), (7, 5), (7, 6), (7, 7), (7, 8), (7, 9), (7, 10), (7, 11), (8, 0), (8, 1)]
abbrev wa_X3_read__1 : List Nat := [1, 4, 5, 6, 7, 8, 9, 10, 11, 12, 13]
set_option maxHeartbeats 4000000 in
set_option maxRecDepth 100000 in
theorem c_X3_read__1 (l : Launch) (D : va_G) (cy : Nat → ClassId) (z : Nat → Nat) (sz : Nat) (Ps : PSI) (w0 : va_W) (hT : HT cy GG Ps w0) (p0 : Nat) (p1 : Nat) (p2 : Nat) (s0 : OS) (s1 : OS) (s2 : OS) (h_p0 : (p0, 25) ∈ Ps) (h_p1 : (p1, 26) ∈ Ps) (h_p2 : (p2, 24) ∈ Ps) (o_p0 : OV vw_POST Ps w0 p0 s0) (o_p1 : OV vw_TAPE Ps w0 p1 s1) (o_p2 : OV vw_WORLD Ps w0 p2 s2) : Met l yX3_read (Cond.code yX3_read cX3_read 5 (some .int) :: gT) ({ frames := 5, cells := 0, slots := 0, locals := 1000 } : Room) (va_Pc [.ref p0, .ref p1, .ref p2] (PRE D cy z w0 sz)) (va_Qi (fun (r : Int32) (u : va_W) => ((OV vw_POST Ps u p0 ((f_X3_read__1 s0 s1 s2).1) ∧ OV vw_TAPE Ps u p1 ((f_X3_read__1 s0 s1 s2).2.1) ∧ OV vw_WORLD Ps u p2 ((f_X3_read__1 s0 s1 s2).2.2.1) ∧ (f_X3_read__1 s0 s1 s2).2.2.2 = r ∧ True) ∧ (RI r (-1) 900 ∧ (r = 0 → True) ∧ (¬ r = 0 → True))) ∧ HT cy GG Ps u ∧ FR wr_X3_read__1 wa_X3_read__1 Ps w0 u) (BB D cy (va_A w0 sz) (fun (u : va_W) => u)) (va_A w0 sz)) 0 0 (va_A w0 sz) := by
  refine Met.ofW (cc := cX3_read) (maxL := 5) (ret := (some .int)) (by decide) rfl ?_
  intro p e s m args below meth c s₁ B hml hv
  obtain ⟨rfl, hsz, hP, hK, hD0, hSD⟩ := hv
  have hx := B.exec
  have hb := B.bytes
  have hr := B.returns
  have hlocks := B.notSynchronized
  have hts : ∀ w ∈ gT, w.before _ s = true := fun w h => atoms_spec (ws := Cond.code yX3_read cX3_read 5 (some .int) :: gT) B.pre w (List.mem_cons_of_mem _ h)
  have hown : s.vm.findClass RX3 = some m.cls := findClass_of_methodNamed B.named
  subst hsz
  have hD := hD0.self (sz := s.heap.size)
  generalize hAe : va_A w0 s.heap.size = A at hD hSD ⊢
  have hA : ∀ q : Nat, s.heap.size ≤ q → A q := fun q h => by rw [← hAe]; exact Or.inr h
  have hl := lv_entry ([.ref p0, .ref p1, .ref p2]) (n := 5) (Nat.le_of_ble_eq_true rfl)
  rw [lg_entry_eq]
  generalize (lg_sl ([.ref p0, .ref p1, .ref p2]) ++ List.replicate (5 - (lg_sl ([.ref p0, .ref p1, .ref p2])).length) Slot.unset).toArray = ls at hl ⊢
  have hl : lv_has ls 5 [(0, .ref p0), (1, .ref p1), (2, .ref p2)] := hl
  refine nameQ (fun Q hQ => ?_)
  have hw : WD D cy GG A s wr_X3_read__1 wa_X3_read__1 Ps w0 Ps w0 s.heap [] := ⟨hT, hP, hD, va_S.rf, FR.rf, hT.1, [], (List.append_nil _).symm⟩
  obtain ⟨R9, hR⟩ : ∃ q9 : OS × OS × OS × Int32, f_X3_read__1 s0 s1 s2 = q9 := ⟨_, rfl⟩
  have hE := hR
  have B14 : ∀ (nf : Nat) (x3 : Int32) (s0 : OS) (s1 : OS) (s2 : OS) (ws : va_W) (H : Heap) (locs : List Loc) (ls : Array Slot), 900 - x3.toInt < (nf : Int) → RI x3 0 900 → OV vw_POST Ps ws p0 s0 → OV vw_TAPE Ps ws p1 s1 → OV vw_WORLD Ps ws p2 s2 → f_X3_read__1_14 nf x3 s0 s1 s2 = R9 → WD D cy GG A s wr_X3_read__1 wa_X3_read__1 Ps w0 Ps ws H locs → lv_has ls 5 [(0, .ref p0), (1, .ref p1), (2, .ref p2), (3, .int x3)] → W p l e (headSpec (Cond.code yX3_read cX3_read 5 (some .int) :: gT) ({ frames := 5, cells := 0, slots := 0, locals := 1000 } : Room)).room s m ([.ref p0, .ref p1, .ref p2] : List Value).toArray below meth c H locs 0 0 Q (F0 m 14 ls []) := by
    intro nf14
    induction nf14 with
    | zero =>
      intro x3 s0 s1 s2 ws H locs ls hn14 r_x3 o_p0 o_p1 o_p2 hE hw hl
      exact absurd hn14 (by have q0 := r_x3.1; have u0 := r_x3.2; omega)
    | succ nf14 ih14 =>
      intro x3 s0 s1 s2 ws H locs ls hn14 r_x3 o_p0 o_p1 o_p2 hE hw hl
      refine lv_iload_n hx hb dX3_read_14 rfl (lv_at hl 3 rfl) ?_
      refine lv_sipush (v := 900) hx hb dX3_read_15 (by decide) ?_
      refine lv_icmp_ge (tgt := 171) hx hb dX3_read_18 (by decide) (fun c_18 => ?_) (fun c_18 => ?_)
      · have r_x3 : RI x3 900 900 := rc_le2 rl_900 r_x3 (ti_le c_18) (by decide)
        refine lv_iload_n hx hb dX3_read_171 rfl (lv_at hl 3 rfl) ?_
        simp only [f_X3_read__1_14, ↓reduceIte, eq_true c_18] at hE
        subst hQ
        exact W.iret (v := x3) hx hb hr (fun t ht hW => ⟨⟨x3, ws, rfl, ⟨⟨⟨(by rw [hR, ← hE]; exact o_p0), (by rw [hR, ← hE]; exact o_p1), (by rw [hR, ← hE]; exact o_p2), (by rw [hR, ← hE]), trivial⟩, r_x3.to (by decide), (fun _ => trivial), (fun h0 => trivial)⟩, hw.1, hw.2.2.2.2.1⟩, by rw [ht]; exact hw.2.1, va_K.moved hW.alike hK, hw.2.2.1⟩, hw.2.2.2.1.F ht⟩) hw.2.2.2.1.2.2 dX3_read_172
      · have r_x3 : RI x3 0 899 := rc_lt1 r_x3 rl_900 (ti_nle c_18) (by decide)
        refine lv_aload_n hx hb dX3_read_21 rfl (lv_at hl 1 rfl) ?_
        refine tk_i (va_runV (As := []) (rest := []) ⟨hx, hb, hml, hown, hts⟩ (c_X7_goesOn__3 l D cy z H.size Ps ws hw.1 p1 s1 h_p1 o_p1) (cwV 0 hts (gV tw_438 tw_439 tw_440 tw_2 tw_441) rfl rfl rfl (by decide +kernel) ⟨Nat.le_of_ble_eq_true rfl, Nat.le_of_ble_eq_true rfl⟩) (tg_preV hw hK hSD hA (ci := 7) (q := (RX7, TX7, 12)) rfl h_p1 rfl) rfl rfl hl.1 rfl (lv_room (Nat.le_of_ble_eq_true rfl)) dX3_read_22 ⟨Nat.le_of_ble_eq_true rfl, Nat.le_of_ble_eq_true rfl⟩) hw hA ⟨by decide, by decide⟩ (fun v_1 ws H locs hp_v_1 hw hF9 => ?_)
        obtain ⟨hfn, hp_v_1⟩ := hp_v_1
        have o_p0 := OV.over (V := vw_POST) hF9 o_p0 (by decide)
        have o_p2 := OV.over (V := vw_WORLD) hF9 o_p2 (by decide)
        obtain ⟨sg_2, q_sg_2⟩ : ∃ q9 : OS, (f_X7_goesOn__3 s1).1 = q9 := ⟨_, rfl⟩
        have o_p1 : OV vw_TAPE Ps ws p1 sg_2 := by rw [← q_sg_2]; exact hfn.1
        have q_v_1 : (f_X7_goesOn__3 s1).2 = v_1 := hfn.2.1
        have r_v_1 : RI v_1 0 1 := hp_v_1.1
        by_cases c9_v_1 : v_1 = 0
        · have r_v_1 : RI v_1 0 0 := by rw [c9_v_1]; exact rl_0
          refine lv_if_eq (tgt := 171) hx hb dX3_read_25 (by decide) (fun c_25 => ?_) (fun c_25 => ?_)
          · refine lv_iload_n hx hb dX3_read_171 rfl (lv_at hl 3 rfl) ?_
            simp only [f_X3_read__1_14, ↓reduceIte, eq_false c_18, q_sg_2, q_v_1, eq_true c9_v_1, eq_true c_25] at hE
            subst hQ
            exact W.iret (v := x3) hx hb hr (fun t ht hW => ⟨⟨x3, ws, rfl, ⟨⟨⟨(by rw [hR, ← hE]; exact o_p0), (by rw [hR, ← hE]; exact o_p1), (by rw [hR, ← hE]; exact o_p2), (by rw [hR, ← hE]), trivial⟩, r_x3.to (by decide), (fun h0 => trivial), (fun h0 => trivial)⟩, hw.1, hw.2.2.2.2.1⟩, by rw [ht]; exact hw.2.1, va_K.moved hW.alike hK, hw.2.2.1⟩, hw.2.2.2.1.F ht⟩) hw.2.2.2.1.2.2 dX3_read_172
          · exact absurd (r_v_1.eq.trans rl_0.eq.symm) ((ti_ne c_25))
        · have r_v_1 : RI v_1 1 1 := rc_neL r_v_1 rl_0 (ti_ne c9_v_1) (by decide)
          obtain ⟨v_3, m_v_3, r_v_3⟩ := ((hp_v_1.2.2 c9_v_1).1)
          refine lv_if_eq (tgt := 171) hx hb dX3_read_25 (by decide) (fun c_25 => ?_) (fun c_25 => ?_)
          · have r_v_1 : RI v_1 1 0 := rc_eq1 r_v_1 rl_0 (ti_eq c_25) (by decide)
            exact (r_v_1.no (by decide)).elim
          · refine lv_aload_n hx hb dX3_read_28 rfl (lv_at hl 1 rfl) ?_
            refine tg_getN (ci := 7) (ts := ty_TAPE) (C := RX7) (T := TX7) (N := 12) hx hb hts inX7 hown hK hw h_p1 rfl rfl 7 (by decide) (hSD.nest tn_97) (fun _ h9 => h9) (ft := vI (-2147483648) 2147483647) rfl dX3_read_29 (fun u_4 hv_u_4 m_u_4 => ?_)
            obtain ⟨vu_4, rfl, r_vu_4⟩ := hv_u_4
            have q_vu_4 : sg_2.1 7 = vu_4 := OV.eqI (V := vw_TAPE) hw.2.2.1 o_p1 m_u_4 (by decide)
            refine lv_istore (lv' := [(4, .int vu_4), (0, .ref p0), (1, .ref p1), (2, .ref p2), (3, .int x3)]) hx hb dX3_read_32 hl (by decide) rfl (fun ls hl => ?_)
            rcases (show ((-2147483648) ≤ vu_4.toInt ∧ vu_4.toInt ≤ 127) ∨ (128 ≤ vu_4.toInt ∧ vu_4.toInt ≤ 128) ∨ (129 ≤ vu_4.toInt ∧ vu_4.toInt ≤ 129) ∨ (130 ≤ vu_4.toInt ∧ vu_4.toInt ≤ 130) ∨ (131 ≤ vu_4.toInt ∧ vu_4.toInt ≤ 131) ∨ (132 ≤ vu_4.toInt ∧ vu_4.toInt ≤ 132) ∨ (133 ≤ vu_4.toInt ∧ vu_4.toInt ≤ 133) ∨ (134 ≤ vu_4.toInt ∧ vu_4.toInt ≤ 134) ∨ (135 ≤ vu_4.toInt ∧ vu_4.toInt ≤ 135) ∨ (136 ≤ vu_4.toInt ∧ vu_4.toInt ≤ 136) ∨ (137 ≤ vu_4.toInt ∧ vu_4.toInt ≤ 2147483647) by have k1 := r_vu_4.1; have k2 := r_vu_4.2; omega) with h_9 | h_9 | h_9 | h_9 | h_9 | h_9 | h_9 | h_9 | h_9 | h_9 | h_9
            · have r_vu_4 : RI vu_4 (-2147483648) 127 := h_9
              have k9_9 := h_9
              refine lv_aload_n hx hb dX3_read_34 rfl (lv_at hl 1 rfl) ?_
              refine lv_aload_n hx hb dX3_read_35 rfl (lv_at hl 2 rfl) ?_
              refine lv_iload hx hb dX3_read_36 (lv_at hl 0 rfl) ?_
              refine tk_i (va_runV (As := [.ref p1, .int vu_4]) (rest := []) ⟨hx, hb, hml, hown, hts⟩ (c_X3_beginsLine__12 l D cy z H.size Ps ws hw.1 p0 p1 vu_4 v_3 s0 sg_2 h_p0 h_p1 r_vu_4 r_v_3 m_v_3 o_p0 o_p1) (cwV 2 hts (gV tw_446 tw_448 ts_1 tw_11 tw_449) rfl rfl rfl (by decide +kernel) ⟨Nat.le_of_ble_eq_true rfl, Nat.le_of_ble_eq_true rfl⟩) (tg_preV hw hK hSD hA (ci := 3) (q := (RX3, TX3, 9)) rfl h_p0 rfl) rfl rfl hl.1 rfl (lv_room (Nat.le_of_ble_eq_true rfl)) dX3_read_38 ⟨Nat.le_of_ble_eq_true rfl, Nat.le_of_ble_eq_true rfl⟩) hw hA ⟨by decide, by decide⟩ (fun v_5 ws H locs hp_v_5 hw hF9 => ?_)
              have m_u_4 := FLD.over hF9 m_u_4 (by decide)
              obtain ⟨hfn, hp_v_5⟩ := hp_v_5
              have o_p2 := OV.over (V := vw_WORLD) hF9 o_p2 (by decide)
              obtain ⟨sg_6, q_sg_6⟩ : ∃ q9 : OS, (f_X3_beginsLine__12 vu_4 s0 sg_2).1 = q9 := ⟨_, rfl⟩
              have o_p0 : OV vw_POST Ps ws p0 sg_6 := by rw [← q_sg_6]; exact hfn.1
              obtain ⟨sg_7, q_sg_7⟩ : ∃ q9 : OS, (f_X3_beginsLine__12 vu_4 s0 sg_2).2.1 = q9 := ⟨_, rfl⟩
              have o_p1 : OV vw_TAPE Ps ws p1 sg_7 := by rw [← q_sg_7]; exact hfn.2.1
              have q_v_5 : (f_X3_beginsLine__12 vu_4 s0 sg_2).2.2 = v_5 := hfn.2.2.1
              have r_v_5 : RI v_5 0 0 := hp_v_5.1
              by_cases c9_v_5 : v_5 = 0
              · have r_v_5 : RI v_5 0 0 := by rw [c9_v_5]; exact rl_0
                obtain ⟨v_8, m_v_8, r_v_8⟩ := ((hp_v_5.2.1 c9_v_5).1)
                refine lv_if_ne (tgt := 46) hx hb dX3_read_41 (by decide) (fun c_41 => ?_) (fun c_41 => ?_)
                · exact absurd (r_v_5.eq.trans rl_0.eq.symm) ((ti_ne c_41))
                · refine lv_iconst (v := (-1)) hx hb dX3_read_44 (by decide) ?_
                  simp only [f_X3_read__1_14, ↓reduceIte, eq_false c_18, q_sg_2, q_v_1, eq_false c9_v_1, eq_false c_25, q_vu_4, eq_true k9_9, q_sg_6, q_sg_7, q_v_5, eq_true c9_v_5, eq_true c_41] at hE
                  subst hQ
                  exact W.iret (v := (-1)) hx hb hr (fun t ht hW => ⟨⟨(-1), ws, rfl, ⟨⟨⟨(by rw [hR, ← hE]; exact o_p0), (by rw [hR, ← hE]; exact o_p1), (by rw [hR, ← hE]; exact o_p2), (by rw [hR, ← hE]), trivial⟩, rl_m1.to (by decide), (fun _ => trivial), (fun h0 => trivial)⟩, hw.1, hw.2.2.2.2.1⟩, by rw [ht]; exact hw.2.1, va_K.moved hW.alike hK, hw.2.2.1⟩, hw.2.2.2.1.F ht⟩) hw.2.2.2.1.2.2 dX3_read_45
              · exact absurd (Int32.toInt_inj.mp (by rw [Int32.toInt_zero]; unfold RI at r_v_5; omega)) c9_v_5
            · have r_vu_4 : RI vu_4 128 128 := h_9
              have n9_0 : ¬ ((-2147483648) ≤ vu_4.toInt ∧ vu_4.toInt ≤ 127) := by omega
              have k9_9 := h_9
              refine lv_aload_n hx hb dX3_read_34 rfl (lv_at hl 1 rfl) ?_
              refine lv_aload_n hx hb dX3_read_35 rfl (lv_at hl 2 rfl) ?_
              refine lv_iload hx hb dX3_read_36 (lv_at hl 0 rfl) ?_
              refine tk_i (va_runV (As := [.ref p1, .int vu_4]) (rest := []) ⟨hx, hb, hml, hown, hts⟩ (c_X3_beginsLine__13 l D cy z H.size Ps ws hw.1 p0 p1 vu_4 v_3 s0 sg_2 h_p0 h_p1 r_vu_4 r_v_3 m_v_3 o_p0 o_p1) (cwV 2 hts (gV tw_446 tw_448 ts_1 tw_11 tw_449) rfl rfl rfl (by decide +kernel) ⟨Nat.le_of_ble_eq_true rfl, Nat.le_of_ble_eq_true rfl⟩) (tg_preV hw hK hSD hA (ci := 3) (q := (RX3, TX3, 9)) rfl h_p0 rfl) rfl rfl hl.1 rfl (lv_room (Nat.le_of_ble_eq_true rfl)) dX3_read_38 ⟨Nat.le_of_ble_eq_true rfl, Nat.le_of_ble_eq_true rfl⟩) hw hA ⟨by decide, by decide⟩ (fun v_9 ws H locs hp_v_9 hw hF9 => ?_)
              obtain ⟨hfn, hp_v_9⟩ := hp_v_9
              have o_p2 := OV.over (V := vw_WORLD) hF9 o_p2 (by decide)
              obtain ⟨sg_10, q_sg_10⟩ : ∃ q9 : OS, (f_X3_beginsLine__13 vu_4 s0 sg_2).1 = q9 := ⟨_, rfl⟩
              have o_p0 : OV vw_POST Ps ws p0 sg_10 := by rw [← q_sg_10]; exact hfn.1
              obtain ⟨sg_11, q_sg_11⟩ : ∃ q9 : OS, (f_X3_beginsLine__13 vu_4 s0 sg_2).2.1 = q9 := ⟨_, rfl⟩
              have o_p1 : OV vw_TAPE Ps ws p1 sg_11 := by rw [← q_sg_11]; exact hfn.2.1
              have q_v_9 : (f_X3_beginsLine__13 vu_4 s0 sg_2).2.2 = v_9 := hfn.2.2.1
              have r_v_9 : RI v_9 0 1 := hp_v_9.1
              by_cases c9_v_9 : v_9 = 0
              · have r_v_9 : RI v_9 0 0 := by rw [c9_v_9]; exact rl_0
                obtain ⟨v_12, m_v_12, r_v_12⟩ := ((hp_v_9.2.1 c9_v_9).1)
                refine lv_if_ne (tgt := 46) hx hb dX3_read_41 (by decide) (fun c_41 => ?_) (fun c_41 => ?_)
                · exact absurd (r_v_9.eq.trans rl_0.eq.symm) ((ti_ne c_41))
                · refine lv_iconst (v := (-1)) hx hb dX3_read_44 (by decide) ?_
                  simp only [f_X3_read__1_14, ↓reduceIte, eq_false c_18, q_sg_2, q_v_1, eq_false c9_v_1, eq_false c_25, q_vu_4, eq_false n9_0, eq_true k9_9, q_sg_10, q_sg_11, q_v_9, eq_true c9_v_9, eq_true c_41] at hE
                  subst hQ
                  exact W.iret (v := (-1)) hx hb hr (fun t ht hW => ⟨⟨(-1), ws, rfl, ⟨⟨⟨(by rw [hR, ← hE]; exact o_p0), (by rw [hR, ← hE]; exact o_p1), (by rw [hR, ← hE]; exact o_p2), (by rw [hR, ← hE]), trivial⟩, rl_m1.to (by decide), (fun _ => trivial), (fun h0 => trivial)⟩, hw.1, hw.2.2.2.2.1⟩, by rw [ht]; exact hw.2.1, va_K.moved hW.alike hK, hw.2.2.1⟩, hw.2.2.2.1.F ht⟩) hw.2.2.2.1.2.2 dX3_read_45
              · have r_v_9 : RI v_9 1 1 := rc_neL r_v_9 rl_0 (ti_ne c9_v_9) (by decide)
                obtain ⟨v_13, m_v_13, r_v_13⟩ := ((hp_v_9.2.2 c9_v_9).1)
                have x_MLT_p0_0 := ((hp_v_9.2.2 c9_v_9).2.1)
                refine lv_if_ne (tgt := 46) hx hb dX3_read_41 (by decide) (fun c_41 => ?_) (fun c_41 => ?_)
                · refine lv_iload hx hb dX3_read_46 (lv_at hl 0 rfl) ?_
                  have w_48 := r_vu_4
                  by_cases cl_48 : vu_4.toInt < 132 ∨ 136 < vu_4.toInt
                  · refine lv_tableOut (tgt := 147) hx hb dX3_read_48 cl_48 (by decide) ?_
                    refine lv_aload_n hx hb dX3_read_147 rfl (lv_at hl 1 rfl) ?_
                    refine lv_aload_n hx hb dX3_read_148 rfl (lv_at hl 2 rfl) ?_
                    refine lv_aload_n hx hb dX3_read_149 rfl (lv_at hl 3 rfl) ?_
                    refine lv_iload hx hb dX3_read_150 (lv_at hl 0 rfl) ?_
                    refine lv_sipush (v := 128) hx hb dX3_read_152 (by decide) ?_
                    refine lv_isub hx hb dX3_read_155 (lv_topi (fun v_14 e_v_14 => ?_))
                    obtain ⟨t_v_14, r_v_14⟩ := tq_sub (lo := 0) (hi := 0) r_vu_4 rl_128 (by decide +kernel) e_v_14
                    have t_v_14 : v_14.toInt = vu_4.toInt - 128 := t_v_14
                    have q_v_14 : vu_4 - (128 : Int32) = v_14 := e_v_14.symm
                    refine tk_v (va_runV (As := [.ref p1, .ref p2, .int v_14]) (rest := []) ⟨hx, hb, hml, hown, hts⟩ (c_X3_readNamed__4 l D cy z H.size Ps ws hw.1 p0 p1 p2 v_14 sg_10 sg_11 s2 h_p0 h_p1 h_p2 r_v_14 x_MLT_p0_0 o_p0 o_p1 o_p2) (cwV 3 hts (gV tw_499 tw_501 ts_6 tw_11 tw_502) rfl rfl rfl (by decide +kernel) ⟨Nat.le_of_ble_eq_true rfl, Nat.le_of_ble_eq_true rfl⟩) (tg_preV hw hK hSD hA (ci := 3) (q := (RX3, TX3, 9)) rfl h_p0 rfl) rfl rfl hl.1 rfl (lv_room (Nat.le_of_ble_eq_true rfl)) dX3_read_156 ⟨Nat.le_of_ble_eq_true rfl, Nat.le_of_ble_eq_true rfl⟩) hw hA ⟨by decide, by decide⟩ (fun ws H locs hp_v_15 hw hF9 => ?_)
                    obtain ⟨hfn, hp_v_15⟩ := hp_v_15
                    obtain ⟨sg_16, q_sg_16⟩ : ∃ q9 : OS, (f_X3_readNamed__4 v_14 sg_10 sg_11 s2).1 = q9 := ⟨_, rfl⟩
                    have o_p0 : OV vw_POST Ps ws p0 sg_16 := by rw [← q_sg_16]; exact hfn.1
                    obtain ⟨sg_17, q_sg_17⟩ : ∃ q9 : OS, (f_X3_readNamed__4 v_14 sg_10 sg_11 s2).2.1 = q9 := ⟨_, rfl⟩
                    have o_p1 : OV vw_TAPE Ps ws p1 sg_17 := by rw [← q_sg_17]; exact hfn.2.1
                    obtain ⟨sg_18, q_sg_18⟩ : ∃ q9 : OS, (f_X3_readNamed__4 v_14 sg_10 sg_11 s2).2.2 = q9 := ⟨_, rfl⟩
                    have o_p2 : OV vw_WORLD Ps ws p2 sg_18 := by rw [← q_sg_18]; exact hfn.2.2.1
                    refine lv_aload_n hx hb dX3_read_159 rfl (lv_at hl 2 rfl) ?_
                    refine lv_bipush (v := 59) hx hb dX3_read_160 (by decide) ?_
                    refine tk_v (va_runV (As := [.int 59]) (rest := []) ⟨hx, hb, hml, hown, hts⟩ (c_X7_passOnly__3 l D cy z H.size Ps ws hw.1 p1 59 sg_17 h_p1 (rl_59.to (by decide)) o_p1) (cwV 1 hts (gV tw_513 tw_514 tw_515 tw_2 tw_516) rfl rfl rfl (by decide +kernel) ⟨Nat.le_of_ble_eq_true rfl, Nat.le_of_ble_eq_true rfl⟩) (tg_preV hw hK hSD hA (ci := 7) (q := (RX7, TX7, 12)) rfl h_p1 rfl) rfl rfl hl.1 rfl (lv_room (Nat.le_of_ble_eq_true rfl)) dX3_read_162 ⟨Nat.le_of_ble_eq_true rfl, Nat.le_of_ble_eq_true rfl⟩) hw hA ⟨by decide, by decide⟩ (fun ws H locs hp_v_19 hw hF9 => ?_)
                    obtain ⟨hfn, hp_v_19⟩ := hp_v_19
                    have o_p0 := OV.over (V := vw_POST) hF9 o_p0 (by decide)
                    have o_p2 := OV.over (V := vw_WORLD) hF9 o_p2 (by decide)
                    obtain ⟨sg_20, q_sg_20⟩ : ∃ q9 : OS, (f_X7_passOnly__3 (59 : Int32) sg_17) = q9 := ⟨_, rfl⟩
                    have o_p1 : OV vw_TAPE Ps ws p1 sg_20 := by rw [← q_sg_20]; exact hfn.1
                    obtain ⟨v_21, e_v_21⟩ : ∃ q9 : Int32, q9 = x3 + Int32.ofInt 1 := ⟨_, rfl⟩
                    obtain ⟨t_v_21, r_v_21⟩ := tq_add (lo := 1) (hi := 900) r_x3 (show RI (Int32.ofInt 1) 1 1 by unfold RI; decide +kernel) (by decide +kernel) e_v_21
                    have t_v_21 : v_21.toInt = x3.toInt + 1 := t_v_21
                    refine lv_iinc (v := v_21) (lv' := [(3, .int v_21), (4, .int vu_4), (0, .ref p0), (1, .ref p1), (2, .ref p2)]) hx hb dX3_read_165 hl (k := 4) rfl e_v_21.symm (by decide) rfl (fun ls hl => ?_)
                    have q_v_21 : x3 + (1 : Int32) = v_21 := by rw [e_v_21, show Int32.ofInt 1 = (1 : Int32) by decide]
                    refine lv_goto (tgt := 14) hx hb dX3_read_168 (by decide) ?_
                    simp only [f_X3_read__1_14, ↓reduceIte, eq_false c_18, q_sg_2, q_v_1, eq_false c9_v_1, eq_false c_25, q_vu_4, eq_false n9_0, eq_true k9_9, q_sg_10, q_sg_11, q_v_9, eq_false c9_v_9, eq_false c_41, eq_true cl_48, q_v_14, q_sg_16, q_sg_17, q_sg_18, q_sg_20, q_v_21] at hE
                    exact ih14 v_21 sg_16 sg_20 sg_18 ws _ _ ls (by have q0 := r_v_21.1; have u0 := r_v_21.2; have o0 := r_x3.1; have p0 := r_x3.2; omega) (r_v_21.to (by decide)) o_p0 o_p1 o_p2 hE hw (lv_sub hl [2, 3, 4, 0] rfl)
                  · have e_48 : vu_4.toInt = 132 ∨ vu_4.toInt = 133 ∨ vu_4.toInt = 134 ∨ vu_4.toInt = 135 ∨ vu_4.toInt = 136 := by omega
                    rcases e_48 with h_48 | h_48 | h_48 | h_48 | h_48
                    · exact absurd h_48 (by unfold RI at w_48; omega)
                    · exact absurd h_48 (by unfold RI at w_48; omega)
                    · exact absurd h_48 (by unfold RI at w_48; omega)
                    · exact absurd h_48 (by unfold RI at w_48; omega)
                    · exact absurd h_48 (by unfold RI at w_48; omega)
                · have r_v_9 : RI v_9 1 0 := rc_eq1 r_v_9 rl_0 (ti_eq c_41) (by decide)
                  exact (r_v_9.no (by decide)).elim
            · have r_vu_4 : RI vu_4 129 129 := h_9
              have n9_0 : ¬ ((-2147483648) ≤ vu_4.toInt ∧ vu_4.toInt ≤ 127) := by omega
              have n9_1 : ¬ (128 ≤ vu_4.toInt ∧ vu_4.toInt ≤ 128) := by omega
              have k9_9 := h_9
              refine lv_aload_n hx hb dX3_read_34 rfl (lv_at hl 1 rfl) ?_
              refine lv_aload_n hx hb dX3_read_35 rfl (lv_at hl 2 rfl) ?_
              refine lv_iload hx hb dX3_read_36 (lv_at hl 0 rfl) ?_
              refine tk_i (va_runV (As := [.ref p1, .int vu_4]) (rest := []) ⟨hx, hb, hml, hown, hts⟩ (c_X3_beginsLine__14 l D cy z H.size Ps ws hw.1 p0 p1 vu_4 v_3 s0 sg_2 h_p0 h_p1 r_vu_4 r_v_3 m_v_3 o_p0 o_p1) (cwV 2 hts (gV tw_446 tw_448 ts_1 tw_11 tw_449) rfl rfl rfl (by decide +kernel) ⟨Nat.le_of_ble_eq_true rfl, Nat.le_of_ble_eq_true rfl⟩) (tg_preV hw hK hSD hA (ci := 3) (q := (RX3, TX3, 9)) rfl h_p0 rfl) rfl rfl hl.1 rfl (lv_room (Nat.le_of_ble_eq_true rfl)) dX3_read_38 ⟨Nat.le_of_ble_eq_true rfl, Nat.le_of_ble_eq_true rfl⟩) hw hA ⟨by decide, by decide⟩ (fun v_22 ws H locs hp_v_22 hw hF9 => ?_)
              obtain ⟨hfn, hp_v_22⟩ := hp_v_22
              have o_p2 := OV.over (V := vw_WORLD) hF9 o_p2 (by decide)
              obtain ⟨sg_23, q_sg_23⟩ : ∃ q9 : OS, (f_X3_beginsLine__14 vu_4 s0 sg_2).1 = q9 := ⟨_, rfl⟩
              have o_p0 : OV vw_POST Ps ws p0 sg_23 := by rw [← q_sg_23]; exact hfn.1
              obtain ⟨sg_24, q_sg_24⟩ : ∃ q9 : OS, (f_X3_beginsLine__14 vu_4 s0 sg_2).2.1 = q9 := ⟨_, rfl⟩
              have o_p1 : OV vw_TAPE Ps ws p1 sg_24 := by rw [← q_sg_24]; exact hfn.2.1
              have q_v_22 : (f_X3_beginsLine__14 vu_4 s0 sg_2).2.2 = v_22 := hfn.2.2.1
              have r_v_22 : RI v_22 0 1 := hp_v_22.1
              by_cases c9_v_22 : v_22 = 0
              · have r_v_22 : RI v_22 0 0 := by rw [c9_v_22]; exact rl_0
                obtain ⟨v_25, m_v_25, r_v_25⟩ := ((hp_v_22.2.1 c9_v_22).1)
                refine lv_if_ne (tgt := 46) hx hb dX3_read_41 (by decide) (fun c_41 => ?_) (fun c_41 => ?_)
                · exact absurd (r_v_22.eq.trans rl_0.eq.symm) ((ti_ne c_41))
                · refine lv_iconst (v := (-1)) hx hb dX3_read_44 (by decide) ?_
                  simp only [f_X3_read__1_14, ↓reduceIte, eq_false c_18, q_sg_2, q_v_1, eq_false c9_v_1, eq_false c_25, q_vu_4, eq_false n9_0, eq_false n9_1, eq_true k9_9, q_sg_23, q_sg_24, q_v_22, eq_true c9_v_22, eq_true c_41] at hE
                  subst hQ
                  exact W.iret (v := (-1)) hx hb hr (fun t ht hW => ⟨⟨(-1), ws, rfl, ⟨⟨⟨(by rw [hR, ← hE]; exact o_p0), (by rw [hR, ← hE]; exact o_p1), (by rw [hR, ← hE]; exact o_p2), (by rw [hR, ← hE]), trivial⟩, rl_m1.to (by decide), (fun _ => trivial), (fun h0 => trivial)⟩, hw.1, hw.2.2.2.2.1⟩, by rw [ht]; exact hw.2.1, va_K.moved hW.alike hK, hw.2.2.1⟩, hw.2.2.2.1.F ht⟩) hw.2.2.2.1.2.2 dX3_read_45
              · have r_v_22 : RI v_22 1 1 := rc_neL r_v_22 rl_0 (ti_ne c9_v_22) (by decide)
                obtain ⟨v_26, m_v_26, r_v_26⟩ := ((hp_v_22.2.2 c9_v_22).1)
                have x_MLT_p0_1 := ((hp_v_22.2.2 c9_v_22).2.1)
                refine lv_if_ne (tgt := 46) hx hb dX3_read_41 (by decide) (fun c_41 => ?_) (fun c_41 => ?_)
                · refine lv_iload hx hb dX3_read_46 (lv_at hl 0 rfl) ?_
                  have w_48 := r_vu_4
                  by_cases cl_48 : vu_4.toInt < 132 ∨ 136 < vu_4.toInt
                  · refine lv_tableOut (tgt := 147) hx hb dX3_read_48 cl_48 (by decide) ?_
                    refine lv_aload_n hx hb dX3_read_147 rfl (lv_at hl 1 rfl) ?_
                    refine lv_aload_n hx hb dX3_read_148 rfl (lv_at hl 2 rfl) ?_
                    refine lv_aload_n hx hb dX3_read_149 rfl (lv_at hl 3 rfl) ?_
                    refine lv_iload hx hb dX3_read_150 (lv_at hl 0 rfl) ?_
                    refine lv_sipush (v := 128) hx hb dX3_read_152 (by decide) ?_
                    refine lv_isub hx hb dX3_read_155 (lv_topi (fun v_27 e_v_27 => ?_))
                    obtain ⟨t_v_27, r_v_27⟩ := tq_sub (lo := 1) (hi := 1) r_vu_4 rl_128 (by decide +kernel) e_v_27
                    have t_v_27 : v_27.toInt = vu_4.toInt - 128 := t_v_27
                    have q_v_27 : vu_4 - (128 : Int32) = v_27 := e_v_27.symm
                    refine tk_v (va_runV (As := [.ref p1, .ref p2, .int v_27]) (rest := []) ⟨hx, hb, hml, hown, hts⟩ (c_X3_readNamed__5 l D cy z H.size Ps ws hw.1 p0 p1 p2 v_27 sg_23 sg_24 s2 h_p0 h_p1 h_p2 r_v_27 x_MLT_p0_1 o_p0 o_p1 o_p2) (cwV 3 hts (gV tw_499 tw_501 ts_6 tw_11 tw_502) rfl rfl rfl (by decide +kernel) ⟨Nat.le_of_ble_eq_true rfl, Nat.le_of_ble_eq_true rfl⟩) (tg_preV hw hK hSD hA (ci := 3) (q := (RX3, TX3, 9)) rfl h_p0 rfl) rfl rfl hl.1 rfl (lv_room (Nat.le_of_ble_eq_true rfl)) dX3_read_156 ⟨Nat.le_of_ble_eq_true rfl, Nat.le_of_ble_eq_true rfl⟩) hw hA ⟨by decide, by decide⟩ (fun ws H locs hp_v_28 hw hF9 => ?_)
                    obtain ⟨hfn, hp_v_28⟩ := hp_v_28
                    obtain ⟨sg_29, q_sg_29⟩ : ∃ q9 : OS, (f_X3_readNamed__5 v_27 sg_23 sg_24 s2).1 = q9 := ⟨_, rfl⟩
                    have o_p0 : OV vw_POST Ps ws p0 sg_29 := by rw [← q_sg_29]; exact hfn.1
                    obtain ⟨sg_30, q_sg_30⟩ : ∃ q9 : OS, (f_X3_readNamed__5 v_27 sg_23 sg_24 s2).2.1 = q9 := ⟨_, rfl⟩
                    have o_p1 : OV vw_TAPE Ps ws p1 sg_30 := by rw [← q_sg_30]; exact hfn.2.1
                    obtain ⟨sg_31, q_sg_31⟩ : ∃ q9 : OS, (f_X3_readNamed__5 v_27 sg_23 sg_24 s2).2.2 = q9 := ⟨_, rfl⟩
                    have o_p2 : OV vw_WORLD Ps ws p2 sg_31 := by rw [← q_sg_31]; exact hfn.2.2.1
                    refine lv_aload_n hx hb dX3_read_159 rfl (lv_at hl 2 rfl) ?_
                    refine lv_bipush (v := 59) hx hb dX3_read_160 (by decide) ?_
                    refine tk_v (va_runV (As := [.int 59]) (rest := []) ⟨hx, hb, hml, hown, hts⟩ (c_X7_passOnly__3 l D cy z H.size Ps ws hw.1 p1 59 sg_30 h_p1 (rl_59.to (by decide)) o_p1) (cwV 1 hts (gV tw_513 tw_514 tw_515 tw_2 tw_516) rfl rfl rfl (by decide +kernel) ⟨Nat.le_of_ble_eq_true rfl, Nat.le_of_ble_eq_true rfl⟩) (tg_preV hw hK hSD hA (ci := 7) (q := (RX7, TX7, 12)) rfl h_p1 rfl) rfl rfl hl.1 rfl (lv_room (Nat.le_of_ble_eq_true rfl)) dX3_read_162 ⟨Nat.le_of_ble_eq_true rfl, Nat.le_of_ble_eq_true rfl⟩) hw hA ⟨by decide, by decide⟩ (fun ws H locs hp_v_32 hw hF9 => ?_)
                    obtain ⟨hfn, hp_v_32⟩ := hp_v_32
                    have o_p0 := OV.over (V := vw_POST) hF9 o_p0 (by decide)
                    have o_p2 := OV.over (V := vw_WORLD) hF9 o_p2 (by decide)
                    obtain ⟨sg_33, q_sg_33⟩ : ∃ q9 : OS, (f_X7_passOnly__3 (59 : Int32) sg_30) = q9 := ⟨_, rfl⟩
                    have o_p1 : OV vw_TAPE Ps ws p1 sg_33 := by rw [← q_sg_33]; exact hfn.1
                    obtain ⟨v_34, e_v_34⟩ : ∃ q9 : Int32, q9 = x3 + Int32.ofInt 1 := ⟨_, rfl⟩
                    obtain ⟨t_v_34, r_v_34⟩ := tq_add (lo := 1) (hi := 900) r_x3 (show RI (Int32.ofInt 1) 1 1 by unfold RI; decide +kernel) (by decide +kernel) e_v_34
                    have t_v_34 : v_34.toInt = x3.toInt + 1 := t_v_34
                    refine lv_iinc (v := v_34) (lv' := [(3, .int v_34), (4, .int vu_4), (0, .ref p0), (1, .ref p1), (2, .ref p2)]) hx hb dX3_read_165 hl (k := 4) rfl e_v_34.symm (by decide) rfl (fun ls hl => ?_)
                    have q_v_34 : x3 + (1 : Int32) = v_34 := by rw [e_v_34, show Int32.ofInt 1 = (1 : Int32) by decide]
                    refine lv_goto (tgt := 14) hx hb dX3_read_168 (by decide) ?_
                    simp only [f_X3_read__1_14, ↓reduceIte, eq_false c_18, q_sg_2, q_v_1, eq_false c9_v_1, eq_false c_25, q_vu_4, eq_false n9_0, eq_false n9_1, eq_true k9_9, q_sg_23, q_sg_24, q_v_22, eq_false c9_v_22, eq_false c_41, eq_true cl_48, q_v_27, q_sg_29, q_sg_30, q_sg_31, q_sg_33, q_v_34] at hE
                    exact ih14 v_34 sg_29 sg_33 sg_31 ws _ _ ls (by have q0 := r_v_34.1; have u0 := r_v_34.2; have o0 := r_x3.1; have p0 := r_x3.2; omega) (r_v_34.to (by decide)) o_p0 o_p1 o_p2 hE hw (lv_sub hl [2, 3, 4, 0] rfl)
                  · have e_48 : vu_4.toInt = 132 ∨ vu_4.toInt = 133 ∨ vu_4.toInt = 134 ∨ vu_4.toInt = 135 ∨ vu_4.toInt = 136 := by omega
                    rcases e_48 with h_48 | h_48 | h_48 | h_48 | h_48
                    · exact absurd h_48 (by unfold RI at w_48; omega)
                    · exact absurd h_48 (by unfold RI at w_48; omega)
                    · exact absurd h_48 (by unfold RI at w_48; omega)
                    · exact absurd h_48 (by unfold RI at w_48; omega)
                    · exact absurd h_48 (by unfold RI at w_48; omega)
                · have r_v_22 : RI v_22 1 0 := rc_eq1 r_v_22 rl_0 (ti_eq c_41) (by decide)
                  exact (r_v_22.no (by decide)).elim
            · have r_vu_4 : RI vu_4 130 130 := h_9
              have n9_0 : ¬ ((-2147483648) ≤ vu_4.toInt ∧ vu_4.toInt ≤ 127) := by omega
              have n9_1 : ¬ (128 ≤ vu_4.toInt ∧ vu_4.toInt ≤ 128) := by omega
              have n9_2 : ¬ (129 ≤ vu_4.toInt ∧ vu_4.toInt ≤ 129) := by omega
              have k9_9 := h_9
              refine lv_aload_n hx hb dX3_read_34 rfl (lv_at hl 1 rfl) ?_
              refine lv_aload_n hx hb dX3_read_35 rfl (lv_at hl 2 rfl) ?_
              refine lv_iload hx hb dX3_read_36 (lv_at hl 0 rfl) ?_
              refine tk_i (va_runV (As := [.ref p1, .int vu_4]) (rest := []) ⟨hx, hb, hml, hown, hts⟩ (c_X3_beginsLine__15 l D cy z H.size Ps ws hw.1 p0 p1 vu_4 v_3 s0 sg_2 h_p0 h_p1 r_vu_4 r_v_3 m_v_3 o_p0 o_p1) (cwV 2 hts (gV tw_446 tw_448 ts_1 tw_11 tw_449) rfl rfl rfl (by decide +kernel) ⟨Nat.le_of_ble_eq_true rfl, Nat.le_of_ble_eq_true rfl⟩) (tg_preV hw hK hSD hA (ci := 3) (q := (RX3, TX3, 9)) rfl h_p0 rfl) rfl rfl hl.1 rfl (lv_room (Nat.le_of_ble_eq_true rfl)) dX3_read_38 ⟨Nat.le_of_ble_eq_true rfl, Nat.le_of_ble_eq_true rfl⟩) hw hA ⟨by decide, by decide⟩ (fun v_35 ws H locs hp_v_35 hw hF9 => ?_)
              obtain ⟨hfn, hp_v_35⟩ := hp_v_35
              have o_p2 := OV.over (V := vw_WORLD) hF9 o_p2 (by decide)
              obtain ⟨sg_36, q_sg_36⟩ : ∃ q9 : OS, (f_X3_beginsLine__13 vu_4 s0 sg_2).1 = q9 := ⟨_, rfl⟩
              have o_p0 : OV vw_POST Ps ws p0 sg_36 := by rw [← q_sg_36]; exact hfn.1
              obtain ⟨sg_37, q_sg_37⟩ : ∃ q9 : OS, (f_X3_beginsLine__13 vu_4 s0 sg_2).2.1 = q9 := ⟨_, rfl⟩
              have o_p1 : OV vw_TAPE Ps ws p1 sg_37 := by rw [← q_sg_37]; exact hfn.2.1
              have q_v_35 : (f_X3_beginsLine__13 vu_4 s0 sg_2).2.2 = v_35 := hfn.2.2.1
              have r_v_35 : RI v_35 0 1 := hp_v_35.1
              by_cases c9_v_35 : v_35 = 0
              · have r_v_35 : RI v_35 0 0 := by rw [c9_v_35]; exact rl_0
                obtain ⟨v_38, m_v_38, r_v_38⟩ := ((hp_v_35.2.1 c9_v_35).1)
                refine lv_if_ne (tgt := 46) hx hb dX3_read_41 (by decide) (fun c_41 => ?_) (fun c_41 => ?_)
                · exact absurd (r_v_35.eq.trans rl_0.eq.symm) ((ti_ne c_41))
                · refine lv_iconst (v := (-1)) hx hb dX3_read_44 (by decide) ?_
                  simp only [f_X3_read__1_14, ↓reduceIte, eq_false c_18, q_sg_2, q_v_1, eq_false c9_v_1, eq_false c_25, q_vu_4, eq_false n9_0, eq_false n9_1, eq_false n9_2, eq_true k9_9, q_sg_36, q_sg_37, q_v_35, eq_true c9_v_35, eq_true c_41] at hE
                  subst hQ
                  exact W.iret (v := (-1)) hx hb hr (fun t ht hW => ⟨⟨(-1), ws, rfl, ⟨⟨⟨(by rw [hR, ← hE]; exact o_p0), (by rw [hR, ← hE]; exact o_p1), (by rw [hR, ← hE]; exact o_p2), (by rw [hR, ← hE]), trivial⟩, rl_m1.to (by decide), (fun _ => trivial), (fun h0 => trivial)⟩, hw.1, hw.2.2.2.2.1⟩, by rw [ht]; exact hw.2.1, va_K.moved hW.alike hK, hw.2.2.1⟩, hw.2.2.2.1.F ht⟩) hw.2.2.2.1.2.2 dX3_read_45
              · have r_v_35 : RI v_35 1 1 := rc_neL r_v_35 rl_0 (ti_ne c9_v_35) (by decide)
                obtain ⟨v_39, m_v_39, r_v_39⟩ := ((hp_v_35.2.2 c9_v_35).1)
                have x_MLT_p0_2 := ((hp_v_35.2.2 c9_v_35).2.1)
                refine lv_if_ne (tgt := 46) hx hb dX3_read_41 (by decide) (fun c_41 => ?_) (fun c_41 => ?_)
                · refine lv_iload hx hb dX3_read_46 (lv_at hl 0 rfl) ?_
                  have w_48 := r_vu_4
                  by_cases cl_48 : vu_4.toInt < 132 ∨ 136 < vu_4.toInt
                  · refine lv_tableOut (tgt := 147) hx hb dX3_read_48 cl_48 (by decide) ?_
                    refine lv_aload_n hx hb dX3_read_147 rfl (lv_at hl 1 rfl) ?_
                    refine lv_aload_n hx hb dX3_read_148 rfl (lv_at hl 2 rfl) ?_
                    refine lv_aload_n hx hb dX3_read_149 rfl (lv_at hl 3 rfl) ?_
                    refine lv_iload hx hb dX3_read_150 (lv_at hl 0 rfl) ?_
                    refine lv_sipush (v := 128) hx hb dX3_read_152 (by decide) ?_
                    refine lv_isub hx hb dX3_read_155 (lv_topi (fun v_40 e_v_40 => ?_))
                    obtain ⟨t_v_40, r_v_40⟩ := tq_sub (lo := 2) (hi := 2) r_vu_4 rl_128 (by decide +kernel) e_v_40
                    have t_v_40 : v_40.toInt = vu_4.toInt - 128 := t_v_40
                    have q_v_40 : vu_4 - (128 : Int32) = v_40 := e_v_40.symm
                    refine tk_v (va_runV (As := [.ref p1, .ref p2, .int v_40]) (rest := []) ⟨hx, hb, hml, hown, hts⟩ (c_X3_readNamed__6 l D cy z H.size Ps ws hw.1 p0 p1 p2 v_40 sg_36 sg_37 s2 h_p0 h_p1 h_p2 r_v_40 x_MLT_p0_2 o_p0 o_p1 o_p2) (cwV 3 hts (gV tw_499 tw_501 ts_6 tw_11 tw_502) rfl rfl rfl (by decide +kernel) ⟨Nat.le_of_ble_eq_true rfl, Nat.le_of_ble_eq_true rfl⟩) (tg_preV hw hK hSD hA (ci := 3) (q := (RX3, TX3, 9)) rfl h_p0 rfl) rfl rfl hl.1 rfl (lv_room (Nat.le_of_ble_eq_true rfl)) dX3_read_156 ⟨Nat.le_of_ble_eq_true rfl, Nat.le_of_ble_eq_true rfl⟩) hw hA ⟨by decide, by decide⟩ (fun ws H locs hp_v_41 hw hF9 => ?_)
                    obtain ⟨hfn, hp_v_41⟩ := hp_v_41
                    obtain ⟨sg_42, q_sg_42⟩ : ∃ q9 : OS, (f_X3_readNamed__6 v_40 sg_36 sg_37 s2).1 = q9 := ⟨_, rfl⟩
                    have o_p0 : OV vw_POST Ps ws p0 sg_42 := by rw [← q_sg_42]; exact hfn.1
                    obtain ⟨sg_43, q_sg_43⟩ : ∃ q9 : OS, (f_X3_readNamed__6 v_40 sg_36 sg_37 s2).2.1 = q9 := ⟨_, rfl⟩
                    have o_p1 : OV vw_TAPE Ps ws p1 sg_43 := by rw [← q_sg_43]; exact hfn.2.1
                    obtain ⟨sg_44, q_sg_44⟩ : ∃ q9 : OS, (f_X3_readNamed__6 v_40 sg_36 sg_37 s2).2.2 = q9 := ⟨_, rfl⟩
                    have o_p2 : OV vw_WORLD Ps ws p2 sg_44 := by rw [← q_sg_44]; exact hfn.2.2.1
                    refine lv_aload_n hx hb dX3_read_159 rfl (lv_at hl 2 rfl) ?_
                    refine lv_bipush (v := 59) hx hb dX3_read_160 (by decide) ?_
                    refine tk_v (va_runV (As := [.int 59]) (rest := []) ⟨hx, hb, hml, hown, hts⟩ (c_X7_passOnly__3 l D cy z H.size Ps ws hw.1 p1 59 sg_43 h_p1 (rl_59.to (by decide)) o_p1) (cwV 1 hts (gV tw_513 tw_514 tw_515 tw_2 tw_516) rfl rfl rfl (by decide +kernel) ⟨Nat.le_of_ble_eq_true rfl, Nat.le_of_ble_eq_true rfl⟩) (tg_preV hw hK hSD hA (ci := 7) (q := (RX7, TX7, 12)) rfl h_p1 rfl) rfl rfl hl.1 rfl (lv_room (Nat.le_of_ble_eq_true rfl)) dX3_read_162 ⟨Nat.le_of_ble_eq_true rfl, Nat.le_of_ble_eq_true rfl⟩) hw hA ⟨by decide, by decide⟩ (fun ws H locs hp_v_45 hw hF9 => ?_)
                    obtain ⟨hfn, hp_v_45⟩ := hp_v_45
                    have o_p0 := OV.over (V := vw_POST) hF9 o_p0 (by decide)
                    have o_p2 := OV.over (V := vw_WORLD) hF9 o_p2 (by decide)
                    obtain ⟨sg_46, q_sg_46⟩ : ∃ q9 : OS, (f_X7_passOnly__3 (59 : Int32) sg_43) = q9 := ⟨_, rfl⟩
                    have o_p1 : OV vw_TAPE Ps ws p1 sg_46 := by rw [← q_sg_46]; exact hfn.1
                    obtain ⟨v_47, e_v_47⟩ : ∃ q9 : Int32, q9 = x3 + Int32.ofInt 1 := ⟨_, rfl⟩
                    obtain ⟨t_v_47, r_v_47⟩ := tq_add (lo := 1) (hi := 900) r_x3 (show RI (Int32.ofInt 1) 1 1 by unfold RI; decide +kernel) (by decide +kernel) e_v_47
                    have t_v_47 : v_47.toInt = x3.toInt + 1 := t_v_47
                    refine lv_iinc (v := v_47) (lv' := [(3, .int v_47), (4, .int vu_4), (0, .ref p0), (1, .ref p1), (2, .ref p2)]) hx hb dX3_read_165 hl (k := 4) rfl e_v_47.symm (by decide) rfl (fun ls hl => ?_)
                    have q_v_47 : x3 + (1 : Int32) = v_47 := by rw [e_v_47, show Int32.ofInt 1 = (1 : Int32) by decide]
                    refine lv_goto (tgt := 14) hx hb dX3_read_168 (by decide) ?_
                    simp only [f_X3_read__1_14, ↓reduceIte, eq_false c_18, q_sg_2, q_v_1, eq_false c9_v_1, eq_false c_25, q_vu_4, eq_false n9_0, eq_false n9_1, eq_false n9_2, eq_true k9_9, q_sg_36, q_sg_37, q_v_35, eq_false c9_v_35, eq_false c_41, eq_true cl_48, q_v_40, q_sg_42, q_sg_43, q_sg_44, q_sg_46, q_v_47] at hE
                    exact ih14 v_47 sg_42 sg_46 sg_44 ws _ _ ls (by have q0 := r_v_47.1; have u0 := r_v_47.2; have o0 := r_x3.1; have p0 := r_x3.2; omega) (r_v_47.to (by decide)) o_p0 o_p1 o_p2 hE hw (lv_sub hl [2, 3, 4, 0] rfl)
                  · have e_48 : vu_4.toInt = 132 ∨ vu_4.toInt = 133 ∨ vu_4.toInt = 134 ∨ vu_4.toInt = 135 ∨ vu_4.toInt = 136 := by omega
                    rcases e_48 with h_48 | h_48 | h_48 | h_48 | h_48
                    · exact absurd h_48 (by unfold RI at w_48; omega)
                    · exact absurd h_48 (by unfold RI at w_48; omega)
                    · exact absurd h_48 (by unfold RI at w_48; omega)
                    · exact absurd h_48 (by unfold RI at w_48; omega)
                    · exact absurd h_48 (by unfold RI at w_48; omega)
                · have r_v_35 : RI v_35 1 0 := rc_eq1 r_v_35 rl_0 (ti_eq c_41) (by decide)
                  exact (r_v_35.no (by decide)).elim
            · have r_vu_4 : RI vu_4 131 131 := h_9
              have n9_0 : ¬ ((-2147483648) ≤ vu_4.toInt ∧ vu_4.toInt ≤ 127) := by omega
              have n9_1 : ¬ (128 ≤ vu_4.toInt ∧ vu_4.toInt ≤ 128) := by omega
              have n9_2 : ¬ (129 ≤ vu_4.toInt ∧ vu_4.toInt ≤ 129) := by omega
              have n9_3 : ¬ (130 ≤ vu_4.toInt ∧ vu_4.toInt ≤ 130) := by omega
              have k9_9 := h_9
              refine lv_aload_n hx hb dX3_read_34 rfl (lv_at hl 1 rfl) ?_
              refine lv_aload_n hx hb dX3_read_35 rfl (lv_at hl 2 rfl) ?_
              refine lv_iload hx hb dX3_read_36 (lv_at hl 0 rfl) ?_
              refine tk_i (va_runV (As := [.ref p1, .int vu_4]) (rest := []) ⟨hx, hb, hml, hown, hts⟩ (c_X3_beginsLine__16 l D cy z H.size Ps ws hw.1 p0 p1 vu_4 v_3 s0 sg_2 h_p0 h_p1 r_vu_4 r_v_3 m_v_3 o_p0 o_p1) (cwV 2 hts (gV tw_446 tw_448 ts_1 tw_11 tw_449) rfl rfl rfl (by decide +kernel) ⟨Nat.le_of_ble_eq_true rfl, Nat.le_of_ble_eq_true rfl⟩) (tg_preV hw hK hSD hA (ci := 3) (q := (RX3, TX3, 9)) rfl h_p0 rfl) rfl rfl hl.1 rfl (lv_room (Nat.le_of_ble_eq_true rfl)) dX3_read_38 ⟨Nat.le_of_ble_eq_true rfl, Nat.le_of_ble_eq_true rfl⟩) hw hA ⟨by decide, by decide⟩ (fun v_48 ws H locs hp_v_48 hw hF9 => ?_)
              obtain ⟨hfn, hp_v_48⟩ := hp_v_48
              have o_p2 := OV.over (V := vw_WORLD) hF9 o_p2 (by decide)
              obtain ⟨sg_49, q_sg_49⟩ : ∃ q9 : OS, (f_X3_beginsLine__16 vu_4 s0 sg_2).1 = q9 := ⟨_, rfl⟩
              have o_p0 : OV vw_POST Ps ws p0 sg_49 := by rw [← q_sg_49]; exact hfn.1
              obtain ⟨sg_50, q_sg_50⟩ : ∃ q9 : OS, (f_X3_beginsLine__16 vu_4 s0 sg_2).2.1 = q9 := ⟨_, rfl⟩
              have o_p1 : OV vw_TAPE Ps ws p1 sg_50 := by rw [← q_sg_50]; exact hfn.2.1
              have q_v_48 : (f_X3_beginsLine__16 vu_4 s0 sg_2).2.2 = v_48 := hfn.2.2.1
              have r_v_48 : RI v_48 0 1 := hp_v_48.1
              by_cases c9_v_48 : v_48 = 0
              · have r_v_48 : RI v_48 0 0 := by rw [c9_v_48]; exact rl_0
                obtain ⟨v_51, m_v_51, r_v_51⟩ := ((hp_v_48.2.1 c9_v_48).1)
                refine lv_if_ne (tgt := 46) hx hb dX3_read_41 (by decide) (fun c_41 => ?_) (fun c_41 => ?_)
                · exact absurd (r_v_48.eq.trans rl_0.eq.symm) ((ti_ne c_41))
                · refine lv_iconst (v := (-1)) hx hb dX3_read_44 (by decide) ?_
                  simp only [f_X3_read__1_14, ↓reduceIte, eq_false c_18, q_sg_2, q_v_1, eq_false c9_v_1, eq_false c_25, q_vu_4, eq_false n9_0, eq_false n9_1, eq_false n9_2, eq_false n9_3, eq_true k9_9, q_sg_49, q_sg_50, q_v_48, eq_true c9_v_48, eq_true c_41] at hE
                  subst hQ
                  exact W.iret (v := (-1)) hx hb hr (fun t ht hW => ⟨⟨(-1), ws, rfl, ⟨⟨⟨(by rw [hR, ← hE]; exact o_p0), (by rw [hR, ← hE]; exact o_p1), (by rw [hR, ← hE]; exact o_p2), (by rw [hR, ← hE]), trivial⟩, rl_m1.to (by decide), (fun _ => trivial), (fun h0 => trivial)⟩, hw.1, hw.2.2.2.2.1⟩, by rw [ht]; exact hw.2.1, va_K.moved hW.alike hK, hw.2.2.1⟩, hw.2.2.2.1.F ht⟩) hw.2.2.2.1.2.2 dX3_read_45
              · have r_v_48 : RI v_48 1 1 := rc_neL r_v_48 rl_0 (ti_ne c9_v_48) (by decide)
                obtain ⟨v_52, m_v_52, r_v_52⟩ := ((hp_v_48.2.2 c9_v_48).1)
                have x_MLT_p0_3 := ((hp_v_48.2.2 c9_v_48).2.1)
                refine lv_if_ne (tgt := 46) hx hb dX3_read_41 (by decide) (fun c_41 => ?_) (fun c_41 => ?_)
                · refine lv_iload hx hb dX3_read_46 (lv_at hl 0 rfl) ?_
                  have w_48 := r_vu_4
                  by_cases cl_48 : vu_4.toInt < 132 ∨ 136 < vu_4.toInt
                  · refine lv_tableOut (tgt := 147) hx hb dX3_read_48 cl_48 (by decide) ?_
                    refine lv_aload_n hx hb dX3_read_147 rfl (lv_at hl 1 rfl) ?_
                    refine lv_aload_n hx hb dX3_read_148 rfl (lv_at hl 2 rfl) ?_
                    refine lv_aload_n hx hb dX3_read_149 rfl (lv_at hl 3 rfl) ?_
                    refine lv_iload hx hb dX3_read_150 (lv_at hl 0 rfl) ?_
                    refine lv_sipush (v := 128) hx hb dX3_read_152 (by decide) ?_
                    refine lv_isub hx hb dX3_read_155 (lv_topi (fun v_53 e_v_53 => ?_))
                    obtain ⟨t_v_53, r_v_53⟩ := tq_sub (lo := 3) (hi := 3) r_vu_4 rl_128 (by decide +kernel) e_v_53
                    have t_v_53 : v_53.toInt = vu_4.toInt - 128 := t_v_53
                    have q_v_53 : vu_4 - (128 : Int32) = v_53 := e_v_53.symm
                    refine tk_v (va_runV (As := [.ref p1, .ref p2, .int v_53]) (rest := []) ⟨hx, hb, hml, hown, hts⟩ (c_X3_readNamed__7 l D cy z H.size Ps ws hw.1 p0 p1 p2 v_53 sg_49 sg_50 s2 h_p0 h_p1 h_p2 r_v_53 x_MLT_p0_3 o_p0 o_p1 o_p2) (cwV 3 hts (gV tw_499 tw_501 ts_6 tw_11 tw_502) rfl rfl rfl (by decide +kernel) ⟨Nat.le_of_ble_eq_true rfl, Nat.le_of_ble_eq_true rfl⟩) (tg_preV hw hK hSD hA (ci := 3) (q := (RX3, TX3, 9)) rfl h_p0 rfl) rfl rfl hl.1 rfl (lv_room (Nat.le_of_ble_eq_true rfl)) dX3_read_156 ⟨Nat.le_of_ble_eq_true rfl, Nat.le_of_ble_eq_true rfl⟩) hw hA ⟨by decide, by decide⟩ (fun ws H locs hp_v_54 hw hF9 => ?_)
                    obtain ⟨hfn, hp_v_54⟩ := hp_v_54
                    obtain ⟨sg_55, q_sg_55⟩ : ∃ q9 : OS, (f_X3_readNamed__7 v_53 sg_49 sg_50 s2).1 = q9 := ⟨_, rfl⟩
                    have o_p0 : OV vw_POST Ps ws p0 sg_55 := by rw [← q_sg_55]; exact hfn.1
                    obtain ⟨sg_56, q_sg_56⟩ : ∃ q9 : OS, (f_X3_readNamed__7 v_53 sg_49 sg_50 s2).2.1 = q9 := ⟨_, rfl⟩
                    have o_p1 : OV vw_TAPE Ps ws p1 sg_56 := by rw [← q_sg_56]; exact hfn.2.1
                    obtain ⟨sg_57, q_sg_57⟩ : ∃ q9 : OS, (f_X3_readNamed__7 v_53 sg_49 sg_50 s2).2.2 = q9 := ⟨_, rfl⟩
                    have o_p2 : OV vw_WORLD Ps ws p2 sg_57 := by rw [← q_sg_57]; exact hfn.2.2.1
                    refine lv_aload_n hx hb dX3_read_159 rfl (lv_at hl 2 rfl) ?_
                    refine lv_bipush (v := 59) hx hb dX3_read_160 (by decide) ?_
                    refine tk_v (va_runV (As := [.int 59]) (rest := []) ⟨hx, hb, hml, hown, hts⟩ (c_X7_passOnly__3 l D cy z H.size Ps ws hw.1 p1 59 sg_56 h_p1 (rl_59.to (by decide)) o_p1) (cwV 1 hts (gV tw_513 tw_514 tw_515 tw_2 tw_516) rfl rfl rfl (by decide +kernel) ⟨Nat.le_of_ble_eq_true rfl, Nat.le_of_ble_eq_true rfl⟩) (tg_preV hw hK hSD hA (ci := 7) (q := (RX7, TX7, 12)) rfl h_p1 rfl) rfl rfl hl.1 rfl (lv_room (Nat.le_of_ble_eq_true rfl)) dX3_read_162 ⟨Nat.le_of_ble_eq_true rfl, Nat.le_of_ble_eq_true rfl⟩) hw hA ⟨by decide, by decide⟩ (fun ws H locs hp_v_58 hw hF9 => ?_)
                    obtain ⟨hfn, hp_v_58⟩ := hp_v_58
                    have o_p0 := OV.over (V := vw_POST) hF9 o_p0 (by decide)
                    have o_p2 := OV.over (V := vw_WORLD) hF9 o_p2 (by decide)
                    obtain ⟨sg_59, q_sg_59⟩ : ∃ q9 : OS, (f_X7_passOnly__3 (59 : Int32) sg_56) = q9 := ⟨_, rfl⟩
                    have o_p1 : OV vw_TAPE Ps ws p1 sg_59 := by rw [← q_sg_59]; exact hfn.1
                    obtain ⟨v_60, e_v_60⟩ : ∃ q9 : Int32, q9 = x3 + Int32.ofInt 1 := ⟨_, rfl⟩
                    obtain ⟨t_v_60, r_v_60⟩ := tq_add (lo := 1) (hi := 900) r_x3 (show RI (Int32.ofInt 1) 1 1 by unfold RI; decide +kernel) (by decide +kernel) e_v_60
                    have t_v_60 : v_60.toInt = x3.toInt + 1 := t_v_60
                    refine lv_iinc (v := v_60) (lv' := [(3, .int v_60), (4, .int vu_4), (0, .ref p0), (1, .ref p1), (2, .ref p2)]) hx hb dX3_read_165 hl (k := 4) rfl e_v_60.symm (by decide) rfl (fun ls hl => ?_)
                    have q_v_60 : x3 + (1 : Int32) = v_60 := by rw [e_v_60, show Int32.ofInt 1 = (1 : Int32) by decide]
                    refine lv_goto (tgt := 14) hx hb dX3_read_168 (by decide) ?_
                    simp only [f_X3_read__1_14, ↓reduceIte, eq_false c_18, q_sg_2, q_v_1, eq_false c9_v_1, eq_false c_25, q_vu_4, eq_false n9_0, eq_false n9_1, eq_false n9_2, eq_false n9_3, eq_true k9_9, q_sg_49, q_sg_50, q_v_48, eq_false c9_v_48, eq_false c_41, eq_true cl_48, q_v_53, q_sg_55, q_sg_56, q_sg_57, q_sg_59, q_v_60] at hE
                    exact ih14 v_60 sg_55 sg_59 sg_57 ws _ _ ls (by have q0 := r_v_60.1; have u0 := r_v_60.2; have o0 := r_x3.1; have p0 := r_x3.2; omega) (r_v_60.to (by decide)) o_p0 o_p1 o_p2 hE hw (lv_sub hl [2, 3, 4, 0] rfl)
                  · have e_48 : vu_4.toInt = 132 ∨ vu_4.toInt = 133 ∨ vu_4.toInt = 134 ∨ vu_4.toInt = 135 ∨ vu_4.toInt = 136 := by omega
                    rcases e_48 with h_48 | h_48 | h_48 | h_48 | h_48
                    · exact absurd h_48 (by unfold RI at w_48; omega)
                    · exact absurd h_48 (by unfold RI at w_48; omega)
                    · exact absurd h_48 (by unfold RI at w_48; omega)
                    · exact absurd h_48 (by unfold RI at w_48; omega)
                    · exact absurd h_48 (by unfold RI at w_48; omega)
                · have r_v_48 : RI v_48 1 0 := rc_eq1 r_v_48 rl_0 (ti_eq c_41) (by decide)
                  exact (r_v_48.no (by decide)).elim
            · have r_vu_4 : RI vu_4 132 132 := h_9
              have n9_0 : ¬ ((-2147483648) ≤ vu_4.toInt ∧ vu_4.toInt ≤ 127) := by omega
              have n9_1 : ¬ (128 ≤ vu_4.toInt ∧ vu_4.toInt ≤ 128) := by omega
              have n9_2 : ¬ (129 ≤ vu_4.toInt ∧ vu_4.toInt ≤ 129) := by omega
              have n9_3 : ¬ (130 ≤ vu_4.toInt ∧ vu_4.toInt ≤ 130) := by omega
              have n9_4 : ¬ (131 ≤ vu_4.toInt ∧ vu_4.toInt ≤ 131) := by omega
              have k9_9 := h_9
              refine lv_aload_n hx hb dX3_read_34 rfl (lv_at hl 1 rfl) ?_
              refine lv_aload_n hx hb dX3_read_35 rfl (lv_at hl 2 rfl) ?_
              refine lv_iload hx hb dX3_read_36 (lv_at hl 0 rfl) ?_
              refine tk_i (va_runV (As := [.ref p1, .int vu_4]) (rest := []) ⟨hx, hb, hml, hown, hts⟩ (c_X3_beginsLine__17 l D cy z H.size Ps ws hw.1 p0 p1 vu_4 v_3 s0 sg_2 h_p0 h_p1 r_vu_4 r_v_3 m_v_3 o_p0 o_p1) (cwV 2 hts (gV tw_446 tw_448 ts_1 tw_11 tw_449) rfl rfl rfl (by decide +kernel) ⟨Nat.le_of_ble_eq_true rfl, Nat.le_of_ble_eq_true rfl⟩) (tg_preV hw hK hSD hA (ci := 3) (q := (RX3, TX3, 9)) rfl h_p0 rfl) rfl rfl hl.1 rfl (lv_room (Nat.le_of_ble_eq_true rfl)) dX3_read_38 ⟨Nat.le_of_ble_eq_true rfl, Nat.le_of_ble_eq_true rfl⟩) hw hA ⟨by decide, by decide⟩ (fun v_61 ws H locs hp_v_61 hw hF9 => ?_)
              have m_v_3 := FLD.over hF9 m_v_3 (by decide)
              obtain ⟨hfn, hp_v_61⟩ := hp_v_61
              have o_p2 := OV.over (V := vw_WORLD) hF9 o_p2 (by decide)
              obtain ⟨sg_62, q_sg_62⟩ : ∃ q9 : OS, (f_X3_beginsLine__17 vu_4 s0 sg_2).1 = q9 := ⟨_, rfl⟩
              have o_p0 : OV vw_POST Ps ws p0 sg_62 := by rw [← q_sg_62]; exact hfn.1
              obtain ⟨sg_63, q_sg_63⟩ : ∃ q9 : OS, (f_X3_beginsLine__17 vu_4 s0 sg_2).2.1 = q9 := ⟨_, rfl⟩
              have o_p1 : OV vw_TAPE Ps ws p1 sg_63 := by rw [← q_sg_63]; exact hfn.2.1
              have q_v_61 : (f_X3_beginsLine__17 vu_4 s0 sg_2).2.2 = v_61 := hfn.2.2.1
              have r_v_61 : RI v_61 1 1 := hp_v_61.1
              by_cases c9_v_61 : v_61 = 0
              · exact absurd (ti_eq c9_v_61) (by unfold RI at r_v_61; rw [Int32.toInt_zero]; omega)
              · obtain ⟨v_64, m_v_64, r_v_64⟩ := ((hp_v_61.2.2 c9_v_61).1)
                refine lv_if_ne (tgt := 46) hx hb dX3_read_41 (by decide) (fun c_41 => ?_) (fun c_41 => ?_)
                · refine lv_iload hx hb dX3_read_46 (lv_at hl 0 rfl) ?_
                  have w_48 := r_vu_4
                  by_cases cl_48 : vu_4.toInt < 132 ∨ 136 < vu_4.toInt
                  · refine lv_tableOut (tgt := 147) hx hb dX3_read_48 cl_48 (by decide) ?_
                    exact absurd cl_48 (by unfold RI at w_48; omega)
                  · have e_48 : vu_4.toInt = 132 ∨ vu_4.toInt = 133 ∨ vu_4.toInt = 134 ∨ vu_4.toInt = 135 ∨ vu_4.toInt = 136 := by omega
                    rcases e_48 with h_48 | h_48 | h_48 | h_48 | h_48
                    · refine lv_tableIn (tgt := 84) (off := 36) hx hb dX3_read_48 (by omega) (by omega) (by rw [h_48]; rfl) (by decide) ?_
                      have r_vu_4 : RI vu_4 132 132 := ⟨by omega, by omega⟩
                      refine lv_aload_n hx hb dX3_read_84 rfl (lv_at hl 1 rfl) ?_
                      refine lv_aload_n hx hb dX3_read_85 rfl (lv_at hl 2 rfl) ?_
                      refine lv_aload_n hx hb dX3_read_86 rfl (lv_at hl 3 rfl) ?_
                      refine tk_v (va_runV (As := [.ref p1, .ref p2]) (rest := []) ⟨hx, hb, hml, hown, hts⟩ (c_X3_readSits__1 l D cy z H.size Ps ws hw.1 p0 p1 p2 sg_62 sg_63 s2 h_p0 h_p1 h_p2 o_p0 o_p1 o_p2) (cwV 2 hts (gV tw_452 tw_454 ts_2 tw_11 tw_455) rfl rfl rfl (by decide +kernel) ⟨Nat.le_of_ble_eq_true rfl, Nat.le_of_ble_eq_true rfl⟩) (tg_preV hw hK hSD hA (ci := 3) (q := (RX3, TX3, 9)) rfl h_p0 rfl) rfl rfl hl.1 rfl (lv_room (Nat.le_of_ble_eq_true rfl)) dX3_read_87 ⟨Nat.le_of_ble_eq_true rfl, Nat.le_of_ble_eq_true rfl⟩) hw hA ⟨by decide, by decide⟩ (fun ws H locs hp_v_65 hw hF9 => ?_)
                      obtain ⟨hfn, hp_v_65⟩ := hp_v_65
                      obtain ⟨sg_66, q_sg_66⟩ : ∃ q9 : OS, (f_X3_readSits__1 sg_62 sg_63 s2).1 = q9 := ⟨_, rfl⟩
                      have o_p0 : OV vw_POST Ps ws p0 sg_66 := by rw [← q_sg_66]; exact hfn.1
                      obtain ⟨sg_67, q_sg_67⟩ : ∃ q9 : OS, (f_X3_readSits__1 sg_62 sg_63 s2).2.1 = q9 := ⟨_, rfl⟩
                      have o_p1 : OV vw_TAPE Ps ws p1 sg_67 := by rw [← q_sg_67]; exact hfn.2.1
                      obtain ⟨sg_68, q_sg_68⟩ : ∃ q9 : OS, (f_X3_readSits__1 sg_62 sg_63 s2).2.2 = q9 := ⟨_, rfl⟩
                      have o_p2 : OV vw_WORLD Ps ws p2 sg_68 := by rw [← q_sg_68]; exact hfn.2.2.1
                      refine lv_goto (tgt := 159) hx hb dX3_read_90 (by decide) ?_
                      refine lv_aload_n hx hb dX3_read_159 rfl (lv_at hl 2 rfl) ?_
                      refine lv_bipush (v := 59) hx hb dX3_read_160 (by decide) ?_
                      refine tk_v (va_runV (As := [.int 59]) (rest := []) ⟨hx, hb, hml, hown, hts⟩ (c_X7_passOnly__3 l D cy z H.size Ps ws hw.1 p1 59 sg_67 h_p1 (rl_59.to (by decide)) o_p1) (cwV 1 hts (gV tw_513 tw_514 tw_515 tw_2 tw_516) rfl rfl rfl (by decide +kernel) ⟨Nat.le_of_ble_eq_true rfl, Nat.le_of_ble_eq_true rfl⟩) (tg_preV hw hK hSD hA (ci := 7) (q := (RX7, TX7, 12)) rfl h_p1 rfl) rfl rfl hl.1 rfl (lv_room (Nat.le_of_ble_eq_true rfl)) dX3_read_162 ⟨Nat.le_of_ble_eq_true rfl, Nat.le_of_ble_eq_true rfl⟩) hw hA ⟨by decide, by decide⟩ (fun ws H locs hp_v_69 hw hF9 => ?_)
                      obtain ⟨hfn, hp_v_69⟩ := hp_v_69
                      have o_p0 := OV.over (V := vw_POST) hF9 o_p0 (by decide)
                      have o_p2 := OV.over (V := vw_WORLD) hF9 o_p2 (by decide)
                      obtain ⟨sg_70, q_sg_70⟩ : ∃ q9 : OS, (f_X7_passOnly__3 (59 : Int32) sg_67) = q9 := ⟨_, rfl⟩
                      have o_p1 : OV vw_TAPE Ps ws p1 sg_70 := by rw [← q_sg_70]; exact hfn.1
                      obtain ⟨v_71, e_v_71⟩ : ∃ q9 : Int32, q9 = x3 + Int32.ofInt 1 := ⟨_, rfl⟩
                      obtain ⟨t_v_71, r_v_71⟩ := tq_add (lo := 1) (hi := 900) r_x3 (show RI (Int32.ofInt 1) 1 1 by unfold RI; decide +kernel) (by decide +kernel) e_v_71
                      have t_v_71 : v_71.toInt = x3.toInt + 1 := t_v_71
                      refine lv_iinc (v := v_71) (lv' := [(3, .int v_71), (4, .int vu_4), (0, .ref p0), (1, .ref p1), (2, .ref p2)]) hx hb dX3_read_165 hl (k := 4) rfl e_v_71.symm (by decide) rfl (fun ls hl => ?_)
                      have q_v_71 : x3 + (1 : Int32) = v_71 := by rw [e_v_71, show Int32.ofInt 1 = (1 : Int32) by decide]
                      refine lv_goto (tgt := 14) hx hb dX3_read_168 (by decide) ?_
                      simp only [f_X3_read__1_14, ↓reduceIte, eq_false c_18, q_sg_2, q_v_1, eq_false c9_v_1, eq_false c_25, q_vu_4, eq_false n9_0, eq_false n9_1, eq_false n9_2, eq_false n9_3, eq_false n9_4, eq_true k9_9, q_sg_62, q_sg_63, q_v_61, eq_false c9_v_61, eq_false c_41, q_sg_66, q_sg_67, q_sg_68, q_sg_70, q_v_71] at hE
                      exact ih14 v_71 sg_66 sg_70 sg_68 ws _ _ ls (by have q0 := r_v_71.1; have u0 := r_v_71.2; have o0 := r_x3.1; have p0 := r_x3.2; omega) (r_v_71.to (by decide)) o_p0 o_p1 o_p2 hE hw (lv_sub hl [2, 3, 4, 0] rfl)
                    · exact absurd h_48 (by unfold RI at w_48; omega)
                    · exact absurd h_48 (by unfold RI at w_48; omega)
                    · exact absurd h_48 (by unfold RI at w_48; omega)
                    · exact absurd h_48 (by unfold RI at w_48; omega)
                · have r_v_61 : RI v_61 1 0 := rc_eq1 r_v_61 rl_0 (ti_eq c_41) (by decide)
                  exact (r_v_61.no (by decide)).elim
            · have r_vu_4 : RI vu_4 133 133 := h_9
              have n9_0 : ¬ ((-2147483648) ≤ vu_4.toInt ∧ vu_4.toInt ≤ 127) := by omega
              have n9_1 : ¬ (128 ≤ vu_4.toInt ∧ vu_4.toInt ≤ 128) := by omega
              have n9_2 : ¬ (129 ≤ vu_4.toInt ∧ vu_4.toInt ≤ 129) := by omega
              have n9_3 : ¬ (130 ≤ vu_4.toInt ∧ vu_4.toInt ≤ 130) := by omega
              have n9_4 : ¬ (131 ≤ vu_4.toInt ∧ vu_4.toInt ≤ 131) := by omega
              have n9_5 : ¬ (132 ≤ vu_4.toInt ∧ vu_4.toInt ≤ 132) := by omega
              have k9_9 := h_9
              refine lv_aload_n hx hb dX3_read_34 rfl (lv_at hl 1 rfl) ?_
              refine lv_aload_n hx hb dX3_read_35 rfl (lv_at hl 2 rfl) ?_
              refine lv_iload hx hb dX3_read_36 (lv_at hl 0 rfl) ?_
              refine tk_i (va_runV (As := [.ref p1, .int vu_4]) (rest := []) ⟨hx, hb, hml, hown, hts⟩ (c_X3_beginsLine__18 l D cy z H.size Ps ws hw.1 p0 p1 vu_4 v_3 s0 sg_2 h_p0 h_p1 r_vu_4 r_v_3 m_v_3 o_p0 o_p1) (cwV 2 hts (gV tw_446 tw_448 ts_1 tw_11 tw_449) rfl rfl rfl (by decide +kernel) ⟨Nat.le_of_ble_eq_true rfl, Nat.le_of_ble_eq_true rfl⟩) (tg_preV hw hK hSD hA (ci := 3) (q := (RX3, TX3, 9)) rfl h_p0 rfl) rfl rfl hl.1 rfl (lv_room (Nat.le_of_ble_eq_true rfl)) dX3_read_38 ⟨Nat.le_of_ble_eq_true rfl, Nat.le_of_ble_eq_true rfl⟩) hw hA ⟨by decide, by decide⟩ (fun v_72 ws H locs hp_v_72 hw hF9 => ?_)
              have m_v_3 := FLD.over hF9 m_v_3 (by decide)
              obtain ⟨hfn, hp_v_72⟩ := hp_v_72
              have o_p2 := OV.over (V := vw_WORLD) hF9 o_p2 (by decide)
              obtain ⟨sg_73, q_sg_73⟩ : ∃ q9 : OS, (f_X3_beginsLine__17 vu_4 s0 sg_2).1 = q9 := ⟨_, rfl⟩
              have o_p0 : OV vw_POST Ps ws p0 sg_73 := by rw [← q_sg_73]; exact hfn.1
              obtain ⟨sg_74, q_sg_74⟩ : ∃ q9 : OS, (f_X3_beginsLine__17 vu_4 s0 sg_2).2.1 = q9 := ⟨_, rfl⟩
              have o_p1 : OV vw_TAPE Ps ws p1 sg_74 := by rw [← q_sg_74]; exact hfn.2.1
              have q_v_72 : (f_X3_beginsLine__17 vu_4 s0 sg_2).2.2 = v_72 := hfn.2.2.1
              have r_v_72 : RI v_72 1 1 := hp_v_72.1
              by_cases c9_v_72 : v_72 = 0
              · exact absurd (ti_eq c9_v_72) (by unfold RI at r_v_72; rw [Int32.toInt_zero]; omega)
              · obtain ⟨v_75, m_v_75, r_v_75⟩ := ((hp_v_72.2.2 c9_v_72).1)
                refine lv_if_ne (tgt := 46) hx hb dX3_read_41 (by decide) (fun c_41 => ?_) (fun c_41 => ?_)
                · refine lv_iload hx hb dX3_read_46 (lv_at hl 0 rfl) ?_
                  have w_48 := r_vu_4
                  by_cases cl_48 : vu_4.toInt < 132 ∨ 136 < vu_4.toInt
                  · refine lv_tableOut (tgt := 147) hx hb dX3_read_48 cl_48 (by decide) ?_
                    exact absurd cl_48 (by unfold RI at w_48; omega)
                  · have e_48 : vu_4.toInt = 132 ∨ vu_4.toInt = 133 ∨ vu_4.toInt = 134 ∨ vu_4.toInt = 135 ∨ vu_4.toInt = 136 := by omega
                    rcases e_48 with h_48 | h_48 | h_48 | h_48 | h_48
                    · exact absurd h_48 (by unfold RI at w_48; omega)
                    · refine lv_tableIn (tgt := 93) (off := 45) hx hb dX3_read_48 (by omega) (by omega) (by rw [h_48]; rfl) (by decide) ?_
                      have r_vu_4 : RI vu_4 133 133 := ⟨by omega, by omega⟩
                      refine lv_aload_n hx hb dX3_read_93 rfl (lv_at hl 1 rfl) ?_
                      refine lv_aload_n hx hb dX3_read_94 rfl (lv_at hl 2 rfl) ?_
                      refine lv_aload_n hx hb dX3_read_95 rfl (lv_at hl 3 rfl) ?_
                      refine tk_v (va_runV (As := [.ref p1, .ref p2]) (rest := []) ⟨hx, hb, hml, hown, hts⟩ (c_X3_readHas__1 l D cy z H.size Ps ws hw.1 p0 p1 p2 sg_73 sg_74 s2 h_p0 h_p1 h_p2 o_p0 o_p1 o_p2) (cwV 2 hts (gV tw_469 tw_471 ts_3 tw_11 tw_472) rfl rfl rfl (by decide +kernel) ⟨Nat.le_of_ble_eq_true rfl, Nat.le_of_ble_eq_true rfl⟩) (tg_preV hw hK hSD hA (ci := 3) (q := (RX3, TX3, 9)) rfl h_p0 rfl) rfl rfl hl.1 rfl (lv_room (Nat.le_of_ble_eq_true rfl)) dX3_read_96 ⟨Nat.le_of_ble_eq_true rfl, Nat.le_of_ble_eq_true rfl⟩) hw hA ⟨by decide, by decide⟩ (fun ws H locs hp_v_76 hw hF9 => ?_)
                      obtain ⟨hfn, hp_v_76⟩ := hp_v_76
                      obtain ⟨sg_77, q_sg_77⟩ : ∃ q9 : OS, (f_X3_readHas__1 sg_73 sg_74 s2).1 = q9 := ⟨_, rfl⟩
                      have o_p0 : OV vw_POST Ps ws p0 sg_77 := by rw [← q_sg_77]; exact hfn.1
                      obtain ⟨sg_78, q_sg_78⟩ : ∃ q9 : OS, (f_X3_readHas__1 sg_73 sg_74 s2).2.1 = q9 := ⟨_, rfl⟩
                      have o_p1 : OV vw_TAPE Ps ws p1 sg_78 := by rw [← q_sg_78]; exact hfn.2.1
                      obtain ⟨sg_79, q_sg_79⟩ : ∃ q9 : OS, (f_X3_readHas__1 sg_73 sg_74 s2).2.2 = q9 := ⟨_, rfl⟩
                      have o_p2 : OV vw_WORLD Ps ws p2 sg_79 := by rw [← q_sg_79]; exact hfn.2.2.1
                      refine lv_goto (tgt := 159) hx hb dX3_read_99 (by decide) ?_
                      refine lv_aload_n hx hb dX3_read_159 rfl (lv_at hl 2 rfl) ?_
                      refine lv_bipush (v := 59) hx hb dX3_read_160 (by decide) ?_
                      refine tk_v (va_runV (As := [.int 59]) (rest := []) ⟨hx, hb, hml, hown, hts⟩ (c_X7_passOnly__3 l D cy z H.size Ps ws hw.1 p1 59 sg_78 h_p1 (rl_59.to (by decide)) o_p1) (cwV 1 hts (gV tw_513 tw_514 tw_515 tw_2 tw_516) rfl rfl rfl (by decide +kernel) ⟨Nat.le_of_ble_eq_true rfl, Nat.le_of_ble_eq_true rfl⟩) (tg_preV hw hK hSD hA (ci := 7) (q := (RX7, TX7, 12)) rfl h_p1 rfl) rfl rfl hl.1 rfl (lv_room (Nat.le_of_ble_eq_true rfl)) dX3_read_162 ⟨Nat.le_of_ble_eq_true rfl, Nat.le_of_ble_eq_true rfl⟩) hw hA ⟨by decide, by decide⟩ (fun ws H locs hp_v_80 hw hF9 => ?_)
                      obtain ⟨hfn, hp_v_80⟩ := hp_v_80
                      have o_p0 := OV.over (V := vw_POST) hF9 o_p0 (by decide)
                      have o_p2 := OV.over (V := vw_WORLD) hF9 o_p2 (by decide)
                      obtain ⟨sg_81, q_sg_81⟩ : ∃ q9 : OS, (f_X7_passOnly__3 (59 : Int32) sg_78) = q9 := ⟨_, rfl⟩
                      have o_p1 : OV vw_TAPE Ps ws p1 sg_81 := by rw [← q_sg_81]; exact hfn.1
                      obtain ⟨v_82, e_v_82⟩ : ∃ q9 : Int32, q9 = x3 + Int32.ofInt 1 := ⟨_, rfl⟩
                      obtain ⟨t_v_82, r_v_82⟩ := tq_add (lo := 1) (hi := 900) r_x3 (show RI (Int32.ofInt 1) 1 1 by unfold RI; decide +kernel) (by decide +kernel) e_v_82
                      have t_v_82 : v_82.toInt = x3.toInt + 1 := t_v_82
                      refine lv_iinc (v := v_82) (lv' := [(3, .int v_82), (4, .int vu_4), (0, .ref p0), (1, .ref p1), (2, .ref p2)]) hx hb dX3_read_165 hl (k := 4) rfl e_v_82.symm (by decide) rfl (fun ls hl => ?_)
                      have q_v_82 : x3 + (1 : Int32) = v_82 := by rw [e_v_82, show Int32.ofInt 1 = (1 : Int32) by decide]
                      refine lv_goto (tgt := 14) hx hb dX3_read_168 (by decide) ?_
                      simp only [f_X3_read__1_14, ↓reduceIte, eq_false c_18, q_sg_2, q_v_1, eq_false c9_v_1, eq_false c_25, q_vu_4, eq_false n9_0, eq_false n9_1, eq_false n9_2, eq_false n9_3, eq_false n9_4, eq_false n9_5, eq_true k9_9, q_sg_73, q_sg_74, q_v_72, eq_false c9_v_72, eq_false c_41, q_sg_77, q_sg_78, q_sg_79, q_sg_81, q_v_82] at hE
                      exact ih14 v_82 sg_77 sg_81 sg_79 ws _ _ ls (by have q0 := r_v_82.1; have u0 := r_v_82.2; have o0 := r_x3.1; have p0 := r_x3.2; omega) (r_v_82.to (by decide)) o_p0 o_p1 o_p2 hE hw (lv_sub hl [2, 3, 4, 0] rfl)
                    · exact absurd h_48 (by unfold RI at w_48; omega)
                    · exact absurd h_48 (by unfold RI at w_48; omega)
                    · exact absurd h_48 (by unfold RI at w_48; omega)
                · have r_v_72 : RI v_72 1 0 := rc_eq1 r_v_72 rl_0 (ti_eq c_41) (by decide)
                  exact (r_v_72.no (by decide)).elim
            · have r_vu_4 : RI vu_4 134 134 := h_9
              have n9_0 : ¬ ((-2147483648) ≤ vu_4.toInt ∧ vu_4.toInt ≤ 127) := by omega
              have n9_1 : ¬ (128 ≤ vu_4.toInt ∧ vu_4.toInt ≤ 128) := by omega
              have n9_2 : ¬ (129 ≤ vu_4.toInt ∧ vu_4.toInt ≤ 129) := by omega
              have n9_3 : ¬ (130 ≤ vu_4.toInt ∧ vu_4.toInt ≤ 130) := by omega
              have n9_4 : ¬ (131 ≤ vu_4.toInt ∧ vu_4.toInt ≤ 131) := by omega
              have n9_5 : ¬ (132 ≤ vu_4.toInt ∧ vu_4.toInt ≤ 132) := by omega
              have n9_6 : ¬ (133 ≤ vu_4.toInt ∧ vu_4.toInt ≤ 133) := by omega
              have k9_9 := h_9
              refine lv_aload_n hx hb dX3_read_34 rfl (lv_at hl 1 rfl) ?_
              refine lv_aload_n hx hb dX3_read_35 rfl (lv_at hl 2 rfl) ?_
              refine lv_iload hx hb dX3_read_36 (lv_at hl 0 rfl) ?_
              refine tk_i (va_runV (As := [.ref p1, .int vu_4]) (rest := []) ⟨hx, hb, hml, hown, hts⟩ (c_X3_beginsLine__19 l D cy z H.size Ps ws hw.1 p0 p1 vu_4 v_3 s0 sg_2 h_p0 h_p1 r_vu_4 r_v_3 m_v_3 o_p0 o_p1) (cwV 2 hts (gV tw_446 tw_448 ts_1 tw_11 tw_449) rfl rfl rfl (by decide +kernel) ⟨Nat.le_of_ble_eq_true rfl, Nat.le_of_ble_eq_true rfl⟩) (tg_preV hw hK hSD hA (ci := 3) (q := (RX3, TX3, 9)) rfl h_p0 rfl) rfl rfl hl.1 rfl (lv_room (Nat.le_of_ble_eq_true rfl)) dX3_read_38 ⟨Nat.le_of_ble_eq_true rfl, Nat.le_of_ble_eq_true rfl⟩) hw hA ⟨by decide, by decide⟩ (fun v_83 ws H locs hp_v_83 hw hF9 => ?_)
              have m_v_3 := FLD.over hF9 m_v_3 (by decide)
              obtain ⟨hfn, hp_v_83⟩ := hp_v_83
              have o_p2 := OV.over (V := vw_WORLD) hF9 o_p2 (by decide)
              obtain ⟨sg_84, q_sg_84⟩ : ∃ q9 : OS, (f_X3_beginsLine__17 vu_4 s0 sg_2).1 = q9 := ⟨_, rfl⟩
              have o_p0 : OV vw_POST Ps ws p0 sg_84 := by rw [← q_sg_84]; exact hfn.1
              obtain ⟨sg_85, q_sg_85⟩ : ∃ q9 : OS, (f_X3_beginsLine__17 vu_4 s0 sg_2).2.1 = q9 := ⟨_, rfl⟩
              have o_p1 : OV vw_TAPE Ps ws p1 sg_85 := by rw [← q_sg_85]; exact hfn.2.1
              have q_v_83 : (f_X3_beginsLine__17 vu_4 s0 sg_2).2.2 = v_83 := hfn.2.2.1
              have r_v_83 : RI v_83 1 1 := hp_v_83.1
              by_cases c9_v_83 : v_83 = 0
              · exact absurd (ti_eq c9_v_83) (by unfold RI at r_v_83; rw [Int32.toInt_zero]; omega)
              · obtain ⟨v_86, m_v_86, r_v_86⟩ := ((hp_v_83.2.2 c9_v_83).1)
                refine lv_if_ne (tgt := 46) hx hb dX3_read_41 (by decide) (fun c_41 => ?_) (fun c_41 => ?_)
                · refine lv_iload hx hb dX3_read_46 (lv_at hl 0 rfl) ?_
                  have w_48 := r_vu_4
                  by_cases cl_48 : vu_4.toInt < 132 ∨ 136 < vu_4.toInt
                  · refine lv_tableOut (tgt := 147) hx hb dX3_read_48 cl_48 (by decide) ?_
                    exact absurd cl_48 (by unfold RI at w_48; omega)
                  · have e_48 : vu_4.toInt = 132 ∨ vu_4.toInt = 133 ∨ vu_4.toInt = 134 ∨ vu_4.toInt = 135 ∨ vu_4.toInt = 136 := by omega
                    rcases e_48 with h_48 | h_48 | h_48 | h_48 | h_48
                    · exact absurd h_48 (by unfold RI at w_48; omega)
                    · exact absurd h_48 (by unfold RI at w_48; omega)
                    · refine lv_tableIn (tgt := 102) (off := 54) hx hb dX3_read_48 (by omega) (by omega) (by rw [h_48]; rfl) (by decide) ?_
                      have r_vu_4 : RI vu_4 134 134 := ⟨by omega, by omega⟩
                      refine lv_aload_n hx hb dX3_read_102 rfl (lv_at hl 1 rfl) ?_
                      refine lv_aload_n hx hb dX3_read_103 rfl (lv_at hl 2 rfl) ?_
                      refine tk_v (va_runV (As := [.ref p1]) (rest := []) ⟨hx, hb, hml, hown, hts⟩ (c_X3_readQuarrel__1 l D cy z H.size Ps ws hw.1 p0 p1 sg_84 sg_85 h_p0 h_p1 o_p0 o_p1) (cwV 1 hts (gV tw_491 tw_493 ts_4 tw_11 tw_494) rfl rfl rfl (by decide +kernel) ⟨Nat.le_of_ble_eq_true rfl, Nat.le_of_ble_eq_true rfl⟩) (tg_preV hw hK hSD hA (ci := 3) (q := (RX3, TX3, 9)) rfl h_p0 rfl) rfl rfl hl.1 rfl (lv_room (Nat.le_of_ble_eq_true rfl)) dX3_read_104 ⟨Nat.le_of_ble_eq_true rfl, Nat.le_of_ble_eq_true rfl⟩) hw hA ⟨by decide, by decide⟩ (fun ws H locs hp_v_87 hw hF9 => ?_)
                      obtain ⟨hfn, hp_v_87⟩ := hp_v_87
                      have o_p2 := OV.over (V := vw_WORLD) hF9 o_p2 (by decide)
                      obtain ⟨sg_88, q_sg_88⟩ : ∃ q9 : OS, (f_X3_readQuarrel__1 sg_84 sg_85).1 = q9 := ⟨_, rfl⟩
                      have o_p0 : OV vw_POST Ps ws p0 sg_88 := by rw [← q_sg_88]; exact hfn.1
                      obtain ⟨sg_89, q_sg_89⟩ : ∃ q9 : OS, (f_X3_readQuarrel__1 sg_84 sg_85).2 = q9 := ⟨_, rfl⟩
                      have o_p1 : OV vw_TAPE Ps ws p1 sg_89 := by rw [← q_sg_89]; exact hfn.2.1
                      refine lv_goto (tgt := 159) hx hb dX3_read_107 (by decide) ?_
                      refine lv_aload_n hx hb dX3_read_159 rfl (lv_at hl 2 rfl) ?_
                      refine lv_bipush (v := 59) hx hb dX3_read_160 (by decide) ?_
                      refine tk_v (va_runV (As := [.int 59]) (rest := []) ⟨hx, hb, hml, hown, hts⟩ (c_X7_passOnly__3 l D cy z H.size Ps ws hw.1 p1 59 sg_89 h_p1 (rl_59.to (by decide)) o_p1) (cwV 1 hts (gV tw_513 tw_514 tw_515 tw_2 tw_516) rfl rfl rfl (by decide +kernel) ⟨Nat.le_of_ble_eq_true rfl, Nat.le_of_ble_eq_true rfl⟩) (tg_preV hw hK hSD hA (ci := 7) (q := (RX7, TX7, 12)) rfl h_p1 rfl) rfl rfl hl.1 rfl (lv_room (Nat.le_of_ble_eq_true rfl)) dX3_read_162 ⟨Nat.le_of_ble_eq_true rfl, Nat.le_of_ble_eq_true rfl⟩) hw hA ⟨by decide, by decide⟩ (fun ws H locs hp_v_90 hw hF9 => ?_)
                      obtain ⟨hfn, hp_v_90⟩ := hp_v_90
                      have o_p0 := OV.over (V := vw_POST) hF9 o_p0 (by decide)
                      have o_p2 := OV.over (V := vw_WORLD) hF9 o_p2 (by decide)
                      obtain ⟨sg_91, q_sg_91⟩ : ∃ q9 : OS, (f_X7_passOnly__3 (59 : Int32) sg_89) = q9 := ⟨_, rfl⟩
                      have o_p1 : OV vw_TAPE Ps ws p1 sg_91 := by rw [← q_sg_91]; exact hfn.1
                      obtain ⟨v_92, e_v_92⟩ : ∃ q9 : Int32, q9 = x3 + Int32.ofInt 1 := ⟨_, rfl⟩
                      obtain ⟨t_v_92, r_v_92⟩ := tq_add (lo := 1) (hi := 900) r_x3 (show RI (Int32.ofInt 1) 1 1 by unfold RI; decide +kernel) (by decide +kernel) e_v_92
                      have t_v_92 : v_92.toInt = x3.toInt + 1 := t_v_92
                      refine lv_iinc (v := v_92) (lv' := [(3, .int v_92), (4, .int vu_4), (0, .ref p0), (1, .ref p1), (2, .ref p2)]) hx hb dX3_read_165 hl (k := 4) rfl e_v_92.symm (by decide) rfl (fun ls hl => ?_)
                      have q_v_92 : x3 + (1 : Int32) = v_92 := by rw [e_v_92, show Int32.ofInt 1 = (1 : Int32) by decide]
                      refine lv_goto (tgt := 14) hx hb dX3_read_168 (by decide) ?_
                      simp only [f_X3_read__1_14, ↓reduceIte, eq_false c_18, q_sg_2, q_v_1, eq_false c9_v_1, eq_false c_25, q_vu_4, eq_false n9_0, eq_false n9_1, eq_false n9_2, eq_false n9_3, eq_false n9_4, eq_false n9_5, eq_false n9_6, eq_true k9_9, q_sg_84, q_sg_85, q_v_83, eq_false c9_v_83, eq_false c_41, q_sg_88, q_sg_89, q_sg_91, q_v_92] at hE
                      exact ih14 v_92 sg_88 sg_91 s2 ws _ _ ls (by have q0 := r_v_92.1; have u0 := r_v_92.2; have o0 := r_x3.1; have p0 := r_x3.2; omega) (r_v_92.to (by decide)) o_p0 o_p1 o_p2 hE hw (lv_sub hl [2, 3, 4, 0] rfl)
                    · exact absurd h_48 (by unfold RI at w_48; omega)
                    · exact absurd h_48 (by unfold RI at w_48; omega)
                · have r_v_83 : RI v_83 1 0 := rc_eq1 r_v_83 rl_0 (ti_eq c_41) (by decide)
                  exact (r_v_83.no (by decide)).elim
            · have r_vu_4 : RI vu_4 135 135 := h_9
              have n9_0 : ¬ ((-2147483648) ≤ vu_4.toInt ∧ vu_4.toInt ≤ 127) := by omega
              have n9_1 : ¬ (128 ≤ vu_4.toInt ∧ vu_4.toInt ≤ 128) := by omega
              have n9_2 : ¬ (129 ≤ vu_4.toInt ∧ vu_4.toInt ≤ 129) := by omega
              have n9_3 : ¬ (130 ≤ vu_4.toInt ∧ vu_4.toInt ≤ 130) := by omega
              have n9_4 : ¬ (131 ≤ vu_4.toInt ∧ vu_4.toInt ≤ 131) := by omega
              have n9_5 : ¬ (132 ≤ vu_4.toInt ∧ vu_4.toInt ≤ 132) := by omega
              have n9_6 : ¬ (133 ≤ vu_4.toInt ∧ vu_4.toInt ≤ 133) := by omega
              have n9_7 : ¬ (134 ≤ vu_4.toInt ∧ vu_4.toInt ≤ 134) := by omega
              have k9_9 := h_9
              refine lv_aload_n hx hb dX3_read_34 rfl (lv_at hl 1 rfl) ?_
              refine lv_aload_n hx hb dX3_read_35 rfl (lv_at hl 2 rfl) ?_
              refine lv_iload hx hb dX3_read_36 (lv_at hl 0 rfl) ?_
              refine tk_i (va_runV (As := [.ref p1, .int vu_4]) (rest := []) ⟨hx, hb, hml, hown, hts⟩ (c_X3_beginsLine__20 l D cy z H.size Ps ws hw.1 p0 p1 vu_4 v_3 s0 sg_2 h_p0 h_p1 r_vu_4 r_v_3 m_v_3 o_p0 o_p1) (cwV 2 hts (gV tw_446 tw_448 ts_1 tw_11 tw_449) rfl rfl rfl (by decide +kernel) ⟨Nat.le_of_ble_eq_true rfl, Nat.le_of_ble_eq_true rfl⟩) (tg_preV hw hK hSD hA (ci := 3) (q := (RX3, TX3, 9)) rfl h_p0 rfl) rfl rfl hl.1 rfl (lv_room (Nat.le_of_ble_eq_true rfl)) dX3_read_38 ⟨Nat.le_of_ble_eq_true rfl, Nat.le_of_ble_eq_true rfl⟩) hw hA ⟨by decide, by decide⟩ (fun v_93 ws H locs hp_v_93 hw hF9 => ?_)
              obtain ⟨hfn, hp_v_93⟩ := hp_v_93
              have o_p2 := OV.over (V := vw_WORLD) hF9 o_p2 (by decide)
              obtain ⟨sg_94, q_sg_94⟩ : ∃ q9 : OS, (f_X3_beginsLine__20 vu_4 s0 sg_2).1 = q9 := ⟨_, rfl⟩
              have o_p0 : OV vw_POST Ps ws p0 sg_94 := by rw [← q_sg_94]; exact hfn.1
              obtain ⟨sg_95, q_sg_95⟩ : ∃ q9 : OS, (f_X3_beginsLine__20 vu_4 s0 sg_2).2.1 = q9 := ⟨_, rfl⟩
              have o_p1 : OV vw_TAPE Ps ws p1 sg_95 := by rw [← q_sg_95]; exact hfn.2.1
              have q_v_93 : (f_X3_beginsLine__20 vu_4 s0 sg_2).2.2 = v_93 := hfn.2.2.1
              have r_v_93 : RI v_93 0 1 := hp_v_93.1
              by_cases c9_v_93 : v_93 = 0
              · have r_v_93 : RI v_93 0 0 := by rw [c9_v_93]; exact rl_0
                obtain ⟨v_96, m_v_96, r_v_96⟩ := ((hp_v_93.2.1 c9_v_93).1)
                refine lv_if_ne (tgt := 46) hx hb dX3_read_41 (by decide) (fun c_41 => ?_) (fun c_41 => ?_)
                · exact absurd (r_v_93.eq.trans rl_0.eq.symm) ((ti_ne c_41))
                · refine lv_iconst (v := (-1)) hx hb dX3_read_44 (by decide) ?_
                  simp only [f_X3_read__1_14, ↓reduceIte, eq_false c_18, q_sg_2, q_v_1, eq_false c9_v_1, eq_false c_25, q_vu_4, eq_false n9_0, eq_false n9_1, eq_false n9_2, eq_false n9_3, eq_false n9_4, eq_false n9_5, eq_false n9_6, eq_false n9_7, eq_true k9_9, q_sg_94, q_sg_95, q_v_93, eq_true c9_v_93, eq_true c_41] at hE
                  subst hQ
                  exact W.iret (v := (-1)) hx hb hr (fun t ht hW => ⟨⟨(-1), ws, rfl, ⟨⟨⟨(by rw [hR, ← hE]; exact o_p0), (by rw [hR, ← hE]; exact o_p1), (by rw [hR, ← hE]; exact o_p2), (by rw [hR, ← hE]), trivial⟩, rl_m1.to (by decide), (fun _ => trivial), (fun h0 => trivial)⟩, hw.1, hw.2.2.2.2.1⟩, by rw [ht]; exact hw.2.1, va_K.moved hW.alike hK, hw.2.2.1⟩, hw.2.2.2.1.F ht⟩) hw.2.2.2.1.2.2 dX3_read_45
              · have r_v_93 : RI v_93 1 1 := rc_neL r_v_93 rl_0 (ti_ne c9_v_93) (by decide)
                obtain ⟨v_97, m_v_97, r_v_97⟩ := ((hp_v_93.2.2 c9_v_93).1)
                refine lv_if_ne (tgt := 46) hx hb dX3_read_41 (by decide) (fun c_41 => ?_) (fun c_41 => ?_)
                · refine lv_iload hx hb dX3_read_46 (lv_at hl 0 rfl) ?_
                  have w_48 := r_vu_4
                  by_cases cl_48 : vu_4.toInt < 132 ∨ 136 < vu_4.toInt
                  · refine lv_tableOut (tgt := 147) hx hb dX3_read_48 cl_48 (by decide) ?_
                    exact absurd cl_48 (by unfold RI at w_48; omega)
                  · have e_48 : vu_4.toInt = 132 ∨ vu_4.toInt = 133 ∨ vu_4.toInt = 134 ∨ vu_4.toInt = 135 ∨ vu_4.toInt = 136 := by omega
                    rcases e_48 with h_48 | h_48 | h_48 | h_48 | h_48
                    · exact absurd h_48 (by unfold RI at w_48; omega)
                    · exact absurd h_48 (by unfold RI at w_48; omega)
                    · exact absurd h_48 (by unfold RI at w_48; omega)
                    · refine lv_tableIn (tgt := 110) (off := 62) hx hb dX3_read_48 (by omega) (by omega) (by rw [h_48]; rfl) (by decide) ?_
                      have r_vu_4 : RI vu_4 135 135 := ⟨by omega, by omega⟩
                      refine lv_aload_n hx hb dX3_read_110 rfl (lv_at hl 1 rfl) ?_
                      refine lv_aload_n hx hb dX3_read_111 rfl (lv_at hl 2 rfl) ?_
                      refine lv_iconst (v := 0) hx hb dX3_read_112 (by decide) ?_
                      refine lv_iconst (v := 5) hx hb dX3_read_113 (by decide) ?_
                      refine tk_i (va_runV (As := [.int 0, .int 5]) (rest := [.ref p0]) ⟨hx, hb, hml, hown, hts⟩ (c_X7_takeNumber__4 l D cy z H.size Ps ws hw.1 p1 0 5 v_97 sg_95 h_p1 (rl_0.to (by decide)) (rl_5.to (by decide)) r_v_97 m_v_97 o_p1) (cwV 2 hts (gV tw_477 tw_478 tw_479 tw_2 tw_480) rfl rfl rfl (by decide +kernel) ⟨Nat.le_of_ble_eq_true rfl, Nat.le_of_ble_eq_true rfl⟩) (tg_preV hw hK hSD hA (ci := 7) (q := (RX7, TX7, 12)) rfl h_p1 rfl) rfl rfl hl.1 rfl (lv_room (Nat.le_of_ble_eq_true rfl)) dX3_read_114 ⟨Nat.le_of_ble_eq_true rfl, Nat.le_of_ble_eq_true rfl⟩) hw hA ⟨by decide, by decide⟩ (fun v_98 ws H locs hp_v_98 hw hF9 => ?_)
                      obtain ⟨hfn, hp_v_98⟩ := hp_v_98
                      have o_p0 := OV.over (V := vw_POST) hF9 o_p0 (by decide)
                      have o_p2 := OV.over (V := vw_WORLD) hF9 o_p2 (by decide)
                      obtain ⟨sg_99, q_sg_99⟩ : ∃ q9 : OS, (f_X7_takeNumber__4 (0 : Int32) (5 : Int32) sg_95).1 = q9 := ⟨_, rfl⟩
                      have o_p1 : OV vw_TAPE Ps ws p1 sg_99 := by rw [← q_sg_99]; exact hfn.1
                      have q_v_98 : (f_X7_takeNumber__4 (0 : Int32) (5 : Int32) sg_95).2 = v_98 := hfn.2.1
                      have r_v_98 : RI v_98 (-2147483648) 2147483647 := hp_v_98.1
                      refine tg_put (ci := 3) (ts := ty_POST) (v := .int v_98) (ty := .int) (C := RX3) (T := TX3) (N := 9) hx hb hts inX3 tyX3 tyX3_ok nmX3 hown hK hw h_p0 rfl rfl 5 (by decide) (hts _ tw_213) (fun _ h9 => h9) rfl (by decide +kernel) rfl rfl (ft := vI (-2147483648) 2147483647) rfl ⟨_, rfl, r_v_98⟩ (by decide) dX3_read_117 (fun ws H locs hw n_k_100 hF9 => ?_)
                      have o_p1 := OV.over (V := vw_TAPE) hF9 o_p1 (by decide)
                      have o_p2 := OV.over (V := vw_WORLD) hF9 o_p2 (by decide)
                      obtain ⟨sg_101, q_sg_101⟩ : ∃ q9 : OS, sI sg_94 5 v_98 = q9 := ⟨_, rfl⟩
                      have o_p0 : OV vw_POST Ps ws p0 sg_101 := by rw [← q_sg_101]; exact OV.putI (V := vw_POST) hF9 n_k_100 o_p0 (by decide)
                      refine lv_aload_n hx hb dX3_read_120 rfl (lv_at hl 1 rfl) ?_
                      refine lv_iconst (v := 1) hx hb dX3_read_121 (by decide) ?_
                      refine tg_put (ci := 3) (ts := ty_POST) (v := .int 1) (ty := .boolean) (C := RX3) (T := TX3) (N := 9) hx hb hts inX3 tyX3 tyX3_ok nmX3 hown hK hw h_p0 rfl rfl 7 (by decide) (hts _ tw_219) (fun _ h9 => h9) rfl (by decide +kernel) rfl rfl (ft := vI 0 1) rfl ⟨_, rfl, (rl_1.to (by decide))⟩ (by decide) dX3_read_122 (fun ws H locs hw n_k_102 hF9 => ?_)
                      have n_k_100 := FLD.over hF9 n_k_100 (by decide)
                      have o_p1 := OV.over (V := vw_TAPE) hF9 o_p1 (by decide)
                      have o_p2 := OV.over (V := vw_WORLD) hF9 o_p2 (by decide)
                      obtain ⟨sg_103, q_sg_103⟩ : ∃ q9 : OS, sI sg_101 7 (1 : Int32) = q9 := ⟨_, rfl⟩
                      have o_p0 : OV vw_POST Ps ws p0 sg_103 := by rw [← q_sg_103]; exact OV.putI (V := vw_POST) hF9 n_k_102 o_p0 (by decide)
                      refine lv_goto (tgt := 159) hx hb dX3_read_125 (by decide) ?_
                      refine lv_aload_n hx hb dX3_read_159 rfl (lv_at hl 2 rfl) ?_
                      refine lv_bipush (v := 59) hx hb dX3_read_160 (by decide) ?_
                      refine tk_v (va_runV (As := [.int 59]) (rest := []) ⟨hx, hb, hml, hown, hts⟩ (c_X7_passOnly__3 l D cy z H.size Ps ws hw.1 p1 59 sg_99 h_p1 (rl_59.to (by decide)) o_p1) (cwV 1 hts (gV tw_513 tw_514 tw_515 tw_2 tw_516) rfl rfl rfl (by decide +kernel) ⟨Nat.le_of_ble_eq_true rfl, Nat.le_of_ble_eq_true rfl⟩) (tg_preV hw hK hSD hA (ci := 7) (q := (RX7, TX7, 12)) rfl h_p1 rfl) rfl rfl hl.1 rfl (lv_room (Nat.le_of_ble_eq_true rfl)) dX3_read_162 ⟨Nat.le_of_ble_eq_true rfl, Nat.le_of_ble_eq_true rfl⟩) hw hA ⟨by decide, by decide⟩ (fun ws H locs hp_v_104 hw hF9 => ?_)
                      have n_k_100 := FLD.over hF9 n_k_100 (by decide)
                      have n_k_102 := FLD.over hF9 n_k_102 (by decide)
                      obtain ⟨hfn, hp_v_104⟩ := hp_v_104
                      have o_p0 := OV.over (V := vw_POST) hF9 o_p0 (by decide)
                      have o_p2 := OV.over (V := vw_WORLD) hF9 o_p2 (by decide)
                      obtain ⟨sg_105, q_sg_105⟩ : ∃ q9 : OS, (f_X7_passOnly__3 (59 : Int32) sg_99) = q9 := ⟨_, rfl⟩
                      have o_p1 : OV vw_TAPE Ps ws p1 sg_105 := by rw [← q_sg_105]; exact hfn.1
                      obtain ⟨v_106, e_v_106⟩ : ∃ q9 : Int32, q9 = x3 + Int32.ofInt 1 := ⟨_, rfl⟩
                      obtain ⟨t_v_106, r_v_106⟩ := tq_add (lo := 1) (hi := 900) r_x3 (show RI (Int32.ofInt 1) 1 1 by unfold RI; decide +kernel) (by decide +kernel) e_v_106
                      have t_v_106 : v_106.toInt = x3.toInt + 1 := t_v_106
                      refine lv_iinc (v := v_106) (lv' := [(3, .int v_106), (4, .int vu_4), (0, .ref p0), (1, .ref p1), (2, .ref p2)]) hx hb dX3_read_165 hl (k := 4) rfl e_v_106.symm (by decide) rfl (fun ls hl => ?_)
                      have q_v_106 : x3 + (1 : Int32) = v_106 := by rw [e_v_106, show Int32.ofInt 1 = (1 : Int32) by decide]
                      refine lv_goto (tgt := 14) hx hb dX3_read_168 (by decide) ?_
                      simp only [f_X3_read__1_14, ↓reduceIte, eq_false c_18, q_sg_2, q_v_1, eq_false c9_v_1, eq_false c_25, q_vu_4, eq_false n9_0, eq_false n9_1, eq_false n9_2, eq_false n9_3, eq_false n9_4, eq_false n9_5, eq_false n9_6, eq_false n9_7, eq_true k9_9, q_sg_94, q_sg_95, q_v_93, eq_false c9_v_93, eq_false c_41, q_sg_99, q_v_98, q_sg_101, q_sg_103, q_sg_105, q_v_106] at hE
                      exact ih14 v_106 sg_103 sg_105 s2 ws _ _ ls (by have q0 := r_v_106.1; have u0 := r_v_106.2; have o0 := r_x3.1; have p0 := r_x3.2; omega) (r_v_106.to (by decide)) o_p0 o_p1 o_p2 hE hw (lv_sub hl [2, 3, 4, 0] rfl)
                    · exact absurd h_48 (by unfold RI at w_48; omega)
                · have r_v_93 : RI v_93 1 0 := rc_eq1 r_v_93 rl_0 (ti_eq c_41) (by decide)
                  exact (r_v_93.no (by decide)).elim
            · have r_vu_4 : RI vu_4 136 136 := h_9
              have n9_0 : ¬ ((-2147483648) ≤ vu_4.toInt ∧ vu_4.toInt ≤ 127) := by omega
              have n9_1 : ¬ (128 ≤ vu_4.toInt ∧ vu_4.toInt ≤ 128) := by omega
              have n9_2 : ¬ (129 ≤ vu_4.toInt ∧ vu_4.toInt ≤ 129) := by omega
              have n9_3 : ¬ (130 ≤ vu_4.toInt ∧ vu_4.toInt ≤ 130) := by omega
              have n9_4 : ¬ (131 ≤ vu_4.toInt ∧ vu_4.toInt ≤ 131) := by omega
              have n9_5 : ¬ (132 ≤ vu_4.toInt ∧ vu_4.toInt ≤ 132) := by omega
              have n9_6 : ¬ (133 ≤ vu_4.toInt ∧ vu_4.toInt ≤ 133) := by omega
              have n9_7 : ¬ (134 ≤ vu_4.toInt ∧ vu_4.toInt ≤ 134) := by omega
              have n9_8 : ¬ (135 ≤ vu_4.toInt ∧ vu_4.toInt ≤ 135) := by omega
              have k9_9 := h_9
              refine lv_aload_n hx hb dX3_read_34 rfl (lv_at hl 1 rfl) ?_
              refine lv_aload_n hx hb dX3_read_35 rfl (lv_at hl 2 rfl) ?_
              refine lv_iload hx hb dX3_read_36 (lv_at hl 0 rfl) ?_
              refine tk_i (va_runV (As := [.ref p1, .int vu_4]) (rest := []) ⟨hx, hb, hml, hown, hts⟩ (c_X3_beginsLine__21 l D cy z H.size Ps ws hw.1 p0 p1 vu_4 v_3 s0 sg_2 h_p0 h_p1 r_vu_4 r_v_3 m_v_3 o_p0 o_p1) (cwV 2 hts (gV tw_446 tw_448 ts_1 tw_11 tw_449) rfl rfl rfl (by decide +kernel) ⟨Nat.le_of_ble_eq_true rfl, Nat.le_of_ble_eq_true rfl⟩) (tg_preV hw hK hSD hA (ci := 3) (q := (RX3, TX3, 9)) rfl h_p0 rfl) rfl rfl hl.1 rfl (lv_room (Nat.le_of_ble_eq_true rfl)) dX3_read_38 ⟨Nat.le_of_ble_eq_true rfl, Nat.le_of_ble_eq_true rfl⟩) hw hA ⟨by decide, by decide⟩ (fun v_107 ws H locs hp_v_107 hw hF9 => ?_)
              obtain ⟨hfn, hp_v_107⟩ := hp_v_107
              have o_p2 := OV.over (V := vw_WORLD) hF9 o_p2 (by decide)
              obtain ⟨sg_108, q_sg_108⟩ : ∃ q9 : OS, (f_X3_beginsLine__21 vu_4 s0 sg_2).1 = q9 := ⟨_, rfl⟩
              have o_p0 : OV vw_POST Ps ws p0 sg_108 := by rw [← q_sg_108]; exact hfn.1
              obtain ⟨sg_109, q_sg_109⟩ : ∃ q9 : OS, (f_X3_beginsLine__21 vu_4 s0 sg_2).2.1 = q9 := ⟨_, rfl⟩
              have o_p1 : OV vw_TAPE Ps ws p1 sg_109 := by rw [← q_sg_109]; exact hfn.2.1
              have q_v_107 : (f_X3_beginsLine__21 vu_4 s0 sg_2).2.2 = v_107 := hfn.2.2.1
              have r_v_107 : RI v_107 0 1 := hp_v_107.1
              by_cases c9_v_107 : v_107 = 0
              · have r_v_107 : RI v_107 0 0 := by rw [c9_v_107]; exact rl_0
                obtain ⟨v_110, m_v_110, r_v_110⟩ := ((hp_v_107.2.1 c9_v_107).1)
                refine lv_if_ne (tgt := 46) hx hb dX3_read_41 (by decide) (fun c_41 => ?_) (fun c_41 => ?_)
                · exact absurd (r_v_107.eq.trans rl_0.eq.symm) ((ti_ne c_41))
                · refine lv_iconst (v := (-1)) hx hb dX3_read_44 (by decide) ?_
                  simp only [f_X3_read__1_14, ↓reduceIte, eq_false c_18, q_sg_2, q_v_1, eq_false c9_v_1, eq_false c_25, q_vu_4, eq_false n9_0, eq_false n9_1, eq_false n9_2, eq_false n9_3, eq_false n9_4, eq_false n9_5, eq_false n9_6, eq_false n9_7, eq_false n9_8, eq_true k9_9, q_sg_108, q_sg_109, q_v_107, eq_true c9_v_107, eq_true c_41] at hE
                  subst hQ
                  exact W.iret (v := (-1)) hx hb hr (fun t ht hW => ⟨⟨(-1), ws, rfl, ⟨⟨⟨(by rw [hR, ← hE]; exact o_p0), (by rw [hR, ← hE]; exact o_p1), (by rw [hR, ← hE]; exact o_p2), (by rw [hR, ← hE]), trivial⟩, rl_m1.to (by decide), (fun _ => trivial), (fun h0 => trivial)⟩, hw.1, hw.2.2.2.2.1⟩, by rw [ht]; exact hw.2.1, va_K.moved hW.alike hK, hw.2.2.1⟩, hw.2.2.2.1.F ht⟩) hw.2.2.2.1.2.2 dX3_read_45
              · have r_v_107 : RI v_107 1 1 := rc_neL r_v_107 rl_0 (ti_ne c9_v_107) (by decide)
                obtain ⟨v_111, m_v_111, r_v_111⟩ := ((hp_v_107.2.2 c9_v_107).1)
                refine lv_if_ne (tgt := 46) hx hb dX3_read_41 (by decide) (fun c_41 => ?_) (fun c_41 => ?_)
                · refine lv_iload hx hb dX3_read_46 (lv_at hl 0 rfl) ?_
                  have w_48 := r_vu_4
                  by_cases cl_48 : vu_4.toInt < 132 ∨ 136 < vu_4.toInt
                  · refine lv_tableOut (tgt := 147) hx hb dX3_read_48 cl_48 (by decide) ?_
                    exact absurd cl_48 (by unfold RI at w_48; omega)
                  · have e_48 : vu_4.toInt = 132 ∨ vu_4.toInt = 133 ∨ vu_4.toInt = 134 ∨ vu_4.toInt = 135 ∨ vu_4.toInt = 136 := by omega
                    rcases e_48 with h_48 | h_48 | h_48 | h_48 | h_48
                    · exact absurd h_48 (by unfold RI at w_48; omega)
                    · exact absurd h_48 (by unfold RI at w_48; omega)
                    · exact absurd h_48 (by unfold RI at w_48; omega)
                    · exact absurd h_48 (by unfold RI at w_48; omega)
                    · refine lv_tableIn (tgt := 128) (off := 80) hx hb dX3_read_48 (by omega) (by omega) (by rw [h_48]; rfl) (by decide) ?_
                      have r_vu_4 : RI vu_4 136 136 := ⟨by omega, by omega⟩
                      refine lv_aload_n hx hb dX3_read_128 rfl (lv_at hl 1 rfl) ?_
                      refine lv_aload_n hx hb dX3_read_129 rfl (lv_at hl 2 rfl) ?_
                      refine lv_iconst (v := 1) hx hb dX3_read_130 (by decide) ?_
                      refine lv_bipush (v := 20) hx hb dX3_read_131 (by decide) ?_
                      refine tk_i (va_runV (As := [.int 1, .int 20]) (rest := [.ref p0]) ⟨hx, hb, hml, hown, hts⟩ (c_X7_takeNumber__4 l D cy z H.size Ps ws hw.1 p1 1 20 v_111 sg_109 h_p1 (rl_1.to (by decide)) (rl_20.to (by decide)) r_v_111 m_v_111 o_p1) (cwV 2 hts (gV tw_477 tw_478 tw_479 tw_2 tw_480) rfl rfl rfl (by decide +kernel) ⟨Nat.le_of_ble_eq_true rfl, Nat.le_of_ble_eq_true rfl⟩) (tg_preV hw hK hSD hA (ci := 7) (q := (RX7, TX7, 12)) rfl h_p1 rfl) rfl rfl hl.1 rfl (lv_room (Nat.le_of_ble_eq_true rfl)) dX3_read_133 ⟨Nat.le_of_ble_eq_true rfl, Nat.le_of_ble_eq_true rfl⟩) hw hA ⟨by decide, by decide⟩ (fun v_112 ws H locs hp_v_112 hw hF9 => ?_)
                      obtain ⟨hfn, hp_v_112⟩ := hp_v_112
                      have o_p0 := OV.over (V := vw_POST) hF9 o_p0 (by decide)
                      have o_p2 := OV.over (V := vw_WORLD) hF9 o_p2 (by decide)
                      obtain ⟨sg_113, q_sg_113⟩ : ∃ q9 : OS, (f_X7_takeNumber__4 (1 : Int32) (20 : Int32) sg_109).1 = q9 := ⟨_, rfl⟩
                      have o_p1 : OV vw_TAPE Ps ws p1 sg_113 := by rw [← q_sg_113]; exact hfn.1
                      have q_v_112 : (f_X7_takeNumber__4 (1 : Int32) (20 : Int32) sg_109).2 = v_112 := hfn.2.1
                      have r_v_112 : RI v_112 (-2147483648) 2147483647 := hp_v_112.1
                      refine tg_put (ci := 3) (ts := ty_POST) (v := .int v_112) (ty := .int) (C := RX3) (T := TX3) (N := 9) hx hb hts inX3 tyX3 tyX3_ok nmX3 hown hK hw h_p0 rfl rfl 6 (by decide) (hts _ tw_216) (fun _ h9 => h9) rfl (by decide +kernel) rfl rfl (ft := vI (-2147483648) 2147483647) rfl ⟨_, rfl, r_v_112⟩ (by decide) dX3_read_136 (fun ws H locs hw n_k_114 hF9 => ?_)
                      have o_p1 := OV.over (V := vw_TAPE) hF9 o_p1 (by decide)
                      have o_p2 := OV.over (V := vw_WORLD) hF9 o_p2 (by decide)
                      obtain ⟨sg_115, q_sg_115⟩ : ∃ q9 : OS, sI sg_108 6 v_112 = q9 := ⟨_, rfl⟩
                      have o_p0 : OV vw_POST Ps ws p0 sg_115 := by rw [← q_sg_115]; exact OV.putI (V := vw_POST) hF9 n_k_114 o_p0 (by decide)
                      refine lv_aload_n hx hb dX3_read_139 rfl (lv_at hl 1 rfl) ?_
                      refine lv_iconst (v := 1) hx hb dX3_read_140 (by decide) ?_
                      refine tg_put (ci := 3) (ts := ty_POST) (v := .int 1) (ty := .boolean) (C := RX3) (T := TX3) (N := 9) hx hb hts inX3 tyX3 tyX3_ok nmX3 hown hK hw h_p0 rfl rfl 8 (by decide) (hts _ tw_220) (fun _ h9 => h9) rfl (by decide +kernel) rfl rfl (ft := vI 0 1) rfl ⟨_, rfl, (rl_1.to (by decide))⟩ (by decide) dX3_read_141 (fun ws H locs hw n_k_116 hF9 => ?_)
                      have n_k_114 := FLD.over hF9 n_k_114 (by decide)
                      have o_p1 := OV.over (V := vw_TAPE) hF9 o_p1 (by decide)
                      have o_p2 := OV.over (V := vw_WORLD) hF9 o_p2 (by decide)
                      obtain ⟨sg_117, q_sg_117⟩ : ∃ q9 : OS, sI sg_115 8 (1 : Int32) = q9 := ⟨_, rfl⟩
                      have o_p0 : OV vw_POST Ps ws p0 sg_117 := by rw [← q_sg_117]; exact OV.putI (V := vw_POST) hF9 n_k_116 o_p0 (by decide)
                      refine lv_goto (tgt := 159) hx hb dX3_read_144 (by decide) ?_
                      refine lv_aload_n hx hb dX3_read_159 rfl (lv_at hl 2 rfl) ?_
                      refine lv_bipush (v := 59) hx hb dX3_read_160 (by decide) ?_
                      refine tk_v (va_runV (As := [.int 59]) (rest := []) ⟨hx, hb, hml, hown, hts⟩ (c_X7_passOnly__3 l D cy z H.size Ps ws hw.1 p1 59 sg_113 h_p1 (rl_59.to (by decide)) o_p1) (cwV 1 hts (gV tw_513 tw_514 tw_515 tw_2 tw_516) rfl rfl rfl (by decide +kernel) ⟨Nat.le_of_ble_eq_true rfl, Nat.le_of_ble_eq_true rfl⟩) (tg_preV hw hK hSD hA (ci := 7) (q := (RX7, TX7, 12)) rfl h_p1 rfl) rfl rfl hl.1 rfl (lv_room (Nat.le_of_ble_eq_true rfl)) dX3_read_162 ⟨Nat.le_of_ble_eq_true rfl, Nat.le_of_ble_eq_true rfl⟩) hw hA ⟨by decide, by decide⟩ (fun ws H locs hp_v_118 hw hF9 => ?_)
                      have n_k_114 := FLD.over hF9 n_k_114 (by decide)
                      have n_k_116 := FLD.over hF9 n_k_116 (by decide)
                      obtain ⟨hfn, hp_v_118⟩ := hp_v_118
                      have o_p0 := OV.over (V := vw_POST) hF9 o_p0 (by decide)
                      have o_p2 := OV.over (V := vw_WORLD) hF9 o_p2 (by decide)
                      obtain ⟨sg_119, q_sg_119⟩ : ∃ q9 : OS, (f_X7_passOnly__3 (59 : Int32) sg_113) = q9 := ⟨_, rfl⟩
                      have o_p1 : OV vw_TAPE Ps ws p1 sg_119 := by rw [← q_sg_119]; exact hfn.1
                      obtain ⟨v_120, e_v_120⟩ : ∃ q9 : Int32, q9 = x3 + Int32.ofInt 1 := ⟨_, rfl⟩
                      obtain ⟨t_v_120, r_v_120⟩ := tq_add (lo := 1) (hi := 900) r_x3 (show RI (Int32.ofInt 1) 1 1 by unfold RI; decide +kernel) (by decide +kernel) e_v_120
                      have t_v_120 : v_120.toInt = x3.toInt + 1 := t_v_120
                      refine lv_iinc (v := v_120) (lv' := [(3, .int v_120), (4, .int vu_4), (0, .ref p0), (1, .ref p1), (2, .ref p2)]) hx hb dX3_read_165 hl (k := 4) rfl e_v_120.symm (by decide) rfl (fun ls hl => ?_)
                      have q_v_120 : x3 + (1 : Int32) = v_120 := by rw [e_v_120, show Int32.ofInt 1 = (1 : Int32) by decide]
                      refine lv_goto (tgt := 14) hx hb dX3_read_168 (by decide) ?_
                      simp only [f_X3_read__1_14, ↓reduceIte, eq_false c_18, q_sg_2, q_v_1, eq_false c9_v_1, eq_false c_25, q_vu_4, eq_false n9_0, eq_false n9_1, eq_false n9_2, eq_false n9_3, eq_false n9_4, eq_false n9_5, eq_false n9_6, eq_false n9_7, eq_false n9_8, eq_true k9_9, q_sg_108, q_sg_109, q_v_107, eq_false c9_v_107, eq_false c_41, q_sg_113, q_v_112, q_sg_115, q_sg_117, q_sg_119, q_v_120] at hE
                      exact ih14 v_120 sg_117 sg_119 s2 ws _ _ ls (by have q0 := r_v_120.1; have u0 := r_v_120.2; have o0 := r_x3.1; have p0 := r_x3.2; omega) (r_v_120.to (by decide)) o_p0 o_p1 o_p2 hE hw (lv_sub hl [2, 3, 4, 0] rfl)
                · have r_v_107 : RI v_107 1 0 := rc_eq1 r_v_107 rl_0 (ti_eq c_41) (by decide)
                  exact (r_v_107.no (by decide)).elim
            · have r_vu_4 : RI vu_4 137 2147483647 := h_9
              have n9_0 : ¬ ((-2147483648) ≤ vu_4.toInt ∧ vu_4.toInt ≤ 127) := by omega
              have n9_1 : ¬ (128 ≤ vu_4.toInt ∧ vu_4.toInt ≤ 128) := by omega
              have n9_2 : ¬ (129 ≤ vu_4.toInt ∧ vu_4.toInt ≤ 129) := by omega
              have n9_3 : ¬ (130 ≤ vu_4.toInt ∧ vu_4.toInt ≤ 130) := by omega
              have n9_4 : ¬ (131 ≤ vu_4.toInt ∧ vu_4.toInt ≤ 131) := by omega
              have n9_5 : ¬ (132 ≤ vu_4.toInt ∧ vu_4.toInt ≤ 132) := by omega
              have n9_6 : ¬ (133 ≤ vu_4.toInt ∧ vu_4.toInt ≤ 133) := by omega
              have n9_7 : ¬ (134 ≤ vu_4.toInt ∧ vu_4.toInt ≤ 134) := by omega
              have n9_8 : ¬ (135 ≤ vu_4.toInt ∧ vu_4.toInt ≤ 135) := by omega
              have n9_9 : ¬ (136 ≤ vu_4.toInt ∧ vu_4.toInt ≤ 136) := by omega
              refine lv_aload_n hx hb dX3_read_34 rfl (lv_at hl 1 rfl) ?_
              refine lv_aload_n hx hb dX3_read_35 rfl (lv_at hl 2 rfl) ?_
              refine lv_iload hx hb dX3_read_36 (lv_at hl 0 rfl) ?_
              refine tk_i (va_runV (As := [.ref p1, .int vu_4]) (rest := []) ⟨hx, hb, hml, hown, hts⟩ (c_X3_beginsLine__22 l D cy z H.size Ps ws hw.1 p0 p1 vu_4 v_3 s0 sg_2 h_p0 h_p1 r_vu_4 r_v_3 m_v_3 o_p0 o_p1) (cwV 2 hts (gV tw_446 tw_448 ts_1 tw_11 tw_449) rfl rfl rfl (by decide +kernel) ⟨Nat.le_of_ble_eq_true rfl, Nat.le_of_ble_eq_true rfl⟩) (tg_preV hw hK hSD hA (ci := 3) (q := (RX3, TX3, 9)) rfl h_p0 rfl) rfl rfl hl.1 rfl (lv_room (Nat.le_of_ble_eq_true rfl)) dX3_read_38 ⟨Nat.le_of_ble_eq_true rfl, Nat.le_of_ble_eq_true rfl⟩) hw hA ⟨by decide, by decide⟩ (fun v_121 ws H locs hp_v_121 hw hF9 => ?_)
              have m_u_4 := FLD.over hF9 m_u_4 (by decide)
              obtain ⟨hfn, hp_v_121⟩ := hp_v_121
              have o_p2 := OV.over (V := vw_WORLD) hF9 o_p2 (by decide)
              obtain ⟨sg_122, q_sg_122⟩ : ∃ q9 : OS, (f_X3_beginsLine__12 vu_4 s0 sg_2).1 = q9 := ⟨_, rfl⟩
              have o_p0 : OV vw_POST Ps ws p0 sg_122 := by rw [← q_sg_122]; exact hfn.1
              obtain ⟨sg_123, q_sg_123⟩ : ∃ q9 : OS, (f_X3_beginsLine__12 vu_4 s0 sg_2).2.1 = q9 := ⟨_, rfl⟩
              have o_p1 : OV vw_TAPE Ps ws p1 sg_123 := by rw [← q_sg_123]; exact hfn.2.1
              have q_v_121 : (f_X3_beginsLine__12 vu_4 s0 sg_2).2.2 = v_121 := hfn.2.2.1
              have r_v_121 : RI v_121 0 0 := hp_v_121.1
              by_cases c9_v_121 : v_121 = 0
              · have r_v_121 : RI v_121 0 0 := by rw [c9_v_121]; exact rl_0
                obtain ⟨v_124, m_v_124, r_v_124⟩ := ((hp_v_121.2.1 c9_v_121).1)
                refine lv_if_ne (tgt := 46) hx hb dX3_read_41 (by decide) (fun c_41 => ?_) (fun c_41 => ?_)
                · exact absurd (r_v_121.eq.trans rl_0.eq.symm) ((ti_ne c_41))
                · refine lv_iconst (v := (-1)) hx hb dX3_read_44 (by decide) ?_
                  simp only [f_X3_read__1_14, ↓reduceIte, eq_false c_18, q_sg_2, q_v_1, eq_false c9_v_1, eq_false c_25, q_vu_4, eq_false n9_0, eq_false n9_1, eq_false n9_2, eq_false n9_3, eq_false n9_4, eq_false n9_5, eq_false n9_6, eq_false n9_7, eq_false n9_8, eq_false n9_9, q_sg_122, q_sg_123, q_v_121, eq_true c9_v_121, eq_true c_41] at hE
                  subst hQ
                  exact W.iret (v := (-1)) hx hb hr (fun t ht hW => ⟨⟨(-1), ws, rfl, ⟨⟨⟨(by rw [hR, ← hE]; exact o_p0), (by rw [hR, ← hE]; exact o_p1), (by rw [hR, ← hE]; exact o_p2), (by rw [hR, ← hE]), trivial⟩, rl_m1.to (by decide), (fun _ => trivial), (fun h0 => trivial)⟩, hw.1, hw.2.2.2.2.1⟩, by rw [ht]; exact hw.2.1, va_K.moved hW.alike hK, hw.2.2.1⟩, hw.2.2.2.1.F ht⟩) hw.2.2.2.1.2.2 dX3_read_45
              · exact absurd (Int32.toInt_inj.mp (by rw [Int32.toInt_zero]; unfold RI at r_v_121; omega)) c9_v_121
  refine lv_aload_n hx hb dX3_read_0 rfl (lv_at hl 2 rfl) ?_
  refine lv_aload_n hx hb dX3_read_1 rfl (lv_at hl 0 rfl) ?_
  refine tk_v (va_runV (As := [.ref p0]) (rest := []) ⟨hx, hb, hml, hown, hts⟩ (c_X8_begin__1 l D cy z s.heap.size Ps w0 hw.1 p2 p0 s2 s0 h_p2 h_p0 o_p2 o_p0) (cwV 1 hts (gV tw_416 tw_417 tw_418 tw_12 tw_419) rfl rfl rfl (by decide +kernel) ⟨Nat.le_of_ble_eq_true rfl, Nat.le_of_ble_eq_true rfl⟩) (tg_preV hw hK hSD hA (ci := 8) (q := (RX8, TX8, 13)) rfl h_p2 rfl) rfl rfl hl.1 rfl (lv_room (Nat.le_of_ble_eq_true rfl)) dX3_read_2 ⟨Nat.le_of_ble_eq_true rfl, Nat.le_of_ble_eq_true rfl⟩) hw hA ⟨by decide, by decide⟩ (fun ws H locs hp_v_125 hw hF9 => ?_)
  obtain ⟨hfn, hp_v_125⟩ := hp_v_125
  have o_p1 := OV.over (V := vw_TAPE) hF9 o_p1 (by decide)
  obtain ⟨sg_126, q_sg_126⟩ : ∃ q9 : OS, (f_X8_begin__1 s2 s0).1 = q9 := ⟨_, rfl⟩
  have o_p2 : OV vw_WORLD Ps ws p2 sg_126 := by rw [← q_sg_126]; exact hfn.1
  obtain ⟨sg_127, q_sg_127⟩ : ∃ q9 : OS, (f_X8_begin__1 s2 s0).2 = q9 := ⟨_, rfl⟩
  have o_p0 : OV vw_POST Ps ws p0 sg_127 := by rw [← q_sg_127]; exact hfn.2.1
  refine lv_aload_n hx hb dX3_read_5 rfl (lv_at hl 1 rfl) ?_
  refine lv_sipush (v := 900) hx hb dX3_read_6 (by decide) ?_
  refine tk_v (va_runV (As := [.int 900]) (rest := []) ⟨hx, hb, hml, hown, hts⟩ (c_X7_startText__3 l D cy z H.size Ps ws hw.1 p1 900 s1 h_p1 rl_900 o_p1) (cwV 1 hts (gV tw_420 tw_421 tw_422 tw_2 tw_423) rfl rfl rfl (by decide +kernel) ⟨Nat.le_of_ble_eq_true rfl, Nat.le_of_ble_eq_true rfl⟩) (tg_preV hw hK hSD hA (ci := 7) (q := (RX7, TX7, 12)) rfl h_p1 rfl) rfl rfl hl.1 rfl (lv_room (Nat.le_of_ble_eq_true rfl)) dX3_read_9 ⟨Nat.le_of_ble_eq_true rfl, Nat.le_of_ble_eq_true rfl⟩) hw hA ⟨by decide, by decide⟩ (fun ws H locs hp_v_128 hw hF9 => ?_)
  obtain ⟨hfn, hp_v_128⟩ := hp_v_128
  have o_p0 := OV.over (V := vw_POST) hF9 o_p0 (by decide)
  have o_p2 := OV.over (V := vw_WORLD) hF9 o_p2 (by decide)
  obtain ⟨sg_129, q_sg_129⟩ : ∃ q9 : OS, (f_X7_startText__3 (900 : Int32) s1) = q9 := ⟨_, rfl⟩
  have o_p1 : OV vw_TAPE Ps ws p1 sg_129 := by rw [← q_sg_129]; exact hfn.1
  obtain ⟨v_130, m_v_130, r_v_130⟩ := (hp_v_128.1)
  refine lv_iconst (v := 0) hx hb dX3_read_12 (by decide) ?_
  refine lv_istore_n (lv' := [(3, .int 0), (0, .ref p0), (1, .ref p1), (2, .ref p2)]) hx hb dX3_read_13 rfl hl (by decide) rfl (fun ls hl => ?_)
  simp only [f_X3_read__1, ↓reduceIte, q_sg_126, q_sg_127, q_sg_129] at hE
  exact B14 4294967298 0 sg_127 sg_129 sg_126 ws _ _ ls (by have q0 := rl_0.1; have u0 := rl_0.2; omega) (rl_0.to (by decide)) o_p0 o_p1 o_p2 hE hw (lv_sub hl [1, 2, 3, 0] rfl)
