abbrev wr_X10_wordOf__8 : List (Nat × Nat) := []
abbrev wa_X10_wordOf__8 : List Nat := []
set_option maxHeartbeats 4000000 in
set_option maxRecDepth 100000 in
theorem c_X10_wordOf__8 (l : Launch) (D : va_G) (cy : Nat → ClassId) (z : Nat → Nat) (sz : Nat) (Ps : PSI) (w0 : va_W) (hT : HT cy GG Ps w0) (p0 : Int32) (r_p0 : RI p0 0 27) : Met l yX10_wordOf (Cond.code yX10_wordOf cX10_wordOf 1 (some .long) :: gT) ({ frames := 2, cells := 0, slots := 0, locals := 400 } : Room) (va_Pc [.int p0] (PRE D cy z w0 sz)) (va_Ql (fun (r : Int64) (u : Unit) => ((f_X10_wordOf__7 p0) = r ∧ True) ∧ (RJ r 257 8935713994)) (BB D cy (va_A w0 sz) (fun (u : Unit) => w0)) (va_A w0 sz)) 0 0 (va_A w0 sz) := by
  refine Met.ofW (cc := cX10_wordOf) (maxL := 1) (ret := (some .long)) (by decide) rfl ?_
  intro p e s m args below meth c s₁ B hml hv
  obtain ⟨rfl, hsz, hP, hK, hD0, hSD⟩ := hv
  have hx := B.exec
  have hb := B.bytes
  have hr := B.returns
  have hlocks := B.notSynchronized
  have hts : ∀ w ∈ gT, w.before _ s = true := fun w h => atoms_spec (ws := Cond.code yX10_wordOf cX10_wordOf 1 (some .long) :: gT) B.pre w (List.mem_cons_of_mem _ h)
  have hown : s.vm.findClass RX10 = some m.cls := findClass_of_methodNamed B.named
  subst hsz
  have hD := hD0.self (sz := s.heap.size)
  generalize hAe : va_A w0 s.heap.size = A at hD hSD ⊢
  have hA : ∀ q : Nat, s.heap.size ≤ q → A q := fun q h => by rw [← hAe]; exact Or.inr h
  have hl := lv_entry ([.int p0]) (n := 1) (Nat.le_of_ble_eq_true rfl)
  rw [lg_entry_eq]
  generalize (lg_sl ([.int p0]) ++ List.replicate (1 - (lg_sl ([.int p0])).length) Slot.unset).toArray = ls at hl ⊢
  have hl : lv_has ls 1 [(0, .int p0)] := hl
  refine nameQ (fun Q hQ => ?_)
  have hw : WD D cy GG A s wr_X10_wordOf__8 wa_X10_wordOf__8 Ps w0 Ps w0 s.heap [] := ⟨hT, hP, hD, va_S.rf, FR.rf, hT.1, [], (List.append_nil _).symm⟩
  obtain ⟨R9, hR⟩ : ∃ q9 : Int64, f_X10_wordOf__7 p0 = q9 := ⟨_, rfl⟩
  have hE := hR
  refine lv_iload_n hx hb dX10_wordOf_0 rfl (lv_at hl 0 rfl) ?_
  have w_1 := r_p0
  by_cases cl_1 : p0.toInt < 0 ∨ 26 < p0.toInt
  · refine lv_tableOut (tgt := 547) hx hb dX10_wordOf_1 cl_1 (by decide) ?_
    refine lv_bipush (v := 110) hx hb dX10_wordOf_547 (by decide) ?_
    refine lv_bipush (v := 117) hx hb dX10_wordOf_549 (by decide) ?_
    refine lv_bipush (v := 109) hx hb dX10_wordOf_551 (by decide) ?_
    refine lv_bipush (v := 98) hx hb dX10_wordOf_553 (by decide) ?_
    refine lv_bipush (v := 101) hx hb dX10_wordOf_555 (by decide) ?_
    refine lv_bipush (v := 114) hx hb dX10_wordOf_557 (by decide) ?_
    refine lv_iconst (v := 0) hx hb dX10_wordOf_559 (by decide) ?_
    refine tk_lr (va_runS (As := [.int 110, .int 117, .int 109, .int 98, .int 101, .int 114, .int 0]) (rest := []) ⟨hx, hb, hml, hown, hts⟩ (c_X10_spelt__30 l D cy z s.heap.size Ps w0 hw.1 110 117 109 98 101 114 0 rl_110 rl_117 rl_109 rl_98 rl_101 rl_114 rl_0) (va_cwS 7 hts (gS tw_1325 tw_1326 tw_15 tw_1327) rfl rfl rfl (by decide +kernel) ⟨Nat.le_of_ble_eq_true rfl, Nat.le_of_ble_eq_true rfl⟩) (tg_preS hw hK hSD hA) rfl rfl hl.1 rfl (lv_room (Nat.le_of_ble_eq_true rfl)) dX10_wordOf_560 ⟨Nat.le_of_ble_eq_true rfl, Nat.le_of_ble_eq_true rfl⟩) hw hA (fun v_1  H locs hp_v_1 hw => ?_)
    obtain ⟨hfn, hp_v_1⟩ := hp_v_1
    have q_v_1 : (f_X10_spelt__30 (110 : Int32) (117 : Int32) (109 : Int32) (98 : Int32) (101 : Int32) (114 : Int32) (0 : Int32)) = v_1 := hfn.1
    have r_v_1 : RJ v_1 212302449 212302449 := hp_v_1
    simp only [f_X10_wordOf__7, ↓reduceIte, eq_true cl_1, q_v_1] at hE
    subst hQ
    exact W.lret (v := v_1) hx hb hr (fun t ht hW => ⟨⟨v_1, (), rfl, ⟨⟨(by rw [hR, ← hE]), trivial⟩, r_v_1.to (by decide)⟩, by rw [ht]; exact hw.2.1, va_K.moved hW.alike hK, hw.2.2.1⟩, hw.2.2.2.1.F ht⟩) hw.2.2.2.1.2.2 dX10_wordOf_563
  · have e_1 : p0.toInt = 0 ∨ p0.toInt = 1 ∨ p0.toInt = 2 ∨ p0.toInt = 3 ∨ p0.toInt = 4 ∨ p0.toInt = 5 ∨ p0.toInt = 6 ∨ p0.toInt = 7 ∨ p0.toInt = 8 ∨ p0.toInt = 9 ∨ p0.toInt = 10 ∨ p0.toInt = 11 ∨ p0.toInt = 12 ∨ p0.toInt = 13 ∨ p0.toInt = 14 ∨ p0.toInt = 15 ∨ p0.toInt = 16 ∨ p0.toInt = 17 ∨ p0.toInt = 18 ∨ p0.toInt = 19 ∨ p0.toInt = 20 ∨ p0.toInt = 21 ∨ p0.toInt = 22 ∨ p0.toInt = 23 ∨ p0.toInt = 24 ∨ p0.toInt = 25 ∨ p0.toInt = 26 := by omega
    rcases e_1 with h_1 | h_1 | h_1 | h_1 | h_1 | h_1 | h_1 | h_1 | h_1 | h_1 | h_1 | h_1 | h_1 | h_1 | h_1 | h_1 | h_1 | h_1 | h_1 | h_1 | h_1 | h_1 | h_1 | h_1 | h_1 | h_1 | h_1
    · refine lv_tableIn (tgt := 124) (off := 123) hx hb dX10_wordOf_1 (by omega) (by omega) (by rw [h_1]; rfl) (by decide) ?_
      have r_p0 : RI p0 0 0 := ⟨by omega, by omega⟩
      refine lv_bipush (v := 105) hx hb dX10_wordOf_124 (by decide) ?_
      refine lv_bipush (v := 100) hx hb dX10_wordOf_126 (by decide) ?_
      refine lv_bipush (v := 101) hx hb dX10_wordOf_128 (by decide) ?_
      refine lv_bipush (v := 97) hx hb dX10_wordOf_130 (by decide) ?_
      refine lv_iconst (v := 0) hx hb dX10_wordOf_132 (by decide) ?_
      refine lv_iconst (v := 0) hx hb dX10_wordOf_133 (by decide) ?_
      refine lv_iconst (v := 0) hx hb dX10_wordOf_134 (by decide) ?_
      refine tk_lr (va_runS (As := [.int 105, .int 100, .int 101, .int 97, .int 0, .int 0, .int 0]) (rest := []) ⟨hx, hb, hml, hown, hts⟩ (c_X10_spelt__31 l D cy z s.heap.size Ps w0 hw.1 105 100 101 97 0 0 0 rl_105 rl_100 rl_101 rl_97 rl_0 rl_0 rl_0) (va_cwS 7 hts (gS tw_1325 tw_1326 tw_15 tw_1327) rfl rfl rfl (by decide +kernel) ⟨Nat.le_of_ble_eq_true rfl, Nat.le_of_ble_eq_true rfl⟩) (tg_preS hw hK hSD hA) rfl rfl hl.1 rfl (lv_room (Nat.le_of_ble_eq_true rfl)) dX10_wordOf_135 ⟨Nat.le_of_ble_eq_true rfl, Nat.le_of_ble_eq_true rfl⟩) hw hA (fun v_2  H locs hp_v_2 hw => ?_)
      obtain ⟨hfn, hp_v_2⟩ := hp_v_2
      have q_v_2 : (f_X10_spelt__31 (105 : Int32) (100 : Int32) (101 : Int32) (97 : Int32) (0 : Int32) (0 : Int32) (0 : Int32)) = v_2 := hfn.1
      have r_v_2 : RJ v_2 180199 180199 := hp_v_2
      simp only [f_X10_wordOf__7, ↓reduceIte, eq_false cl_1, eq_true h_1, q_v_2] at hE
      subst hQ
      exact W.lret (v := v_2) hx hb hr (fun t ht hW => ⟨⟨v_2, (), rfl, ⟨⟨(by rw [hR, ← hE]), trivial⟩, r_v_2.to (by decide)⟩, by rw [ht]; exact hw.2.1, va_K.moved hW.alike hK, hw.2.2.1⟩, hw.2.2.2.1.F ht⟩) hw.2.2.2.1.2.2 dX10_wordOf_138
    · refine lv_tableIn (tgt := 139) (off := 138) hx hb dX10_wordOf_1 (by omega) (by omega) (by rw [h_1]; rfl) (by decide) ?_
      have r_p0 : RI p0 1 1 := ⟨by omega, by omega⟩
      have n_1_0 : ¬ (p0.toInt = 0) := by omega
      refine lv_bipush (v := 114) hx hb dX10_wordOf_139 (by decide) ?_
      refine lv_bipush (v := 111) hx hb dX10_wordOf_141 (by decide) ?_
      refine lv_bipush (v := 111) hx hb dX10_wordOf_143 (by decide) ?_
      refine lv_bipush (v := 109) hx hb dX10_wordOf_145 (by decide) ?_
      refine lv_iconst (v := 0) hx hb dX10_wordOf_147 (by decide) ?_
      refine lv_iconst (v := 0) hx hb dX10_wordOf_148 (by decide) ?_
      refine lv_iconst (v := 0) hx hb dX10_wordOf_149 (by decide) ?_
      refine tk_lr (va_runS (As := [.int 114, .int 111, .int 111, .int 109, .int 0, .int 0, .int 0]) (rest := []) ⟨hx, hb, hml, hown, hts⟩ (c_X10_spelt__32 l D cy z s.heap.size Ps w0 hw.1 114 111 111 109 0 0 0 rl_114 rl_111 rl_111 rl_109 rl_0 rl_0 rl_0) (va_cwS 7 hts (gS tw_1325 tw_1326 tw_15 tw_1327) rfl rfl rfl (by decide +kernel) ⟨Nat.le_of_ble_eq_true rfl, Nat.le_of_ble_eq_true rfl⟩) (tg_preS hw hK hSD hA) rfl rfl hl.1 rfl (lv_room (Nat.le_of_ble_eq_true rfl)) dX10_wordOf_150 ⟨Nat.le_of_ble_eq_true rfl, Nat.le_of_ble_eq_true rfl⟩) hw hA (fun v_3  H locs hp_v_3 hw => ?_)
      obtain ⟨hfn, hp_v_3⟩ := hp_v_3
      have q_v_3 : (f_X10_spelt__31 (114 : Int32) (111 : Int32) (111 : Int32) (109 : Int32) (0 : Int32) (0 : Int32) (0 : Int32)) = v_3 := hfn.1
      have r_v_3 : RJ v_3 365647 365647 := hp_v_3
      simp only [f_X10_wordOf__7, ↓reduceIte, eq_false cl_1, eq_false n_1_0, eq_true h_1, q_v_3] at hE
      subst hQ
      exact W.lret (v := v_3) hx hb hr (fun t ht hW => ⟨⟨v_3, (), rfl, ⟨⟨(by rw [hR, ← hE]), trivial⟩, r_v_3.to (by decide)⟩, by rw [ht]; exact hw.2.1, va_K.moved hW.alike hK, hw.2.2.1⟩, hw.2.2.2.1.F ht⟩) hw.2.2.2.1.2.2 dX10_wordOf_153
    · refine lv_tableIn (tgt := 154) (off := 153) hx hb dX10_wordOf_1 (by omega) (by omega) (by rw [h_1]; rfl) (by decide) ?_
      have r_p0 : RI p0 2 2 := ⟨by omega, by omega⟩
      have n_1_0 : ¬ (p0.toInt = 0) := by omega
      have n_1_1 : ¬ (p0.toInt = 1) := by omega
      refine lv_bipush (v := 112) hx hb dX10_wordOf_154 (by decide) ?_
      refine lv_bipush (v := 97) hx hb dX10_wordOf_156 (by decide) ?_
      refine lv_bipush (v := 114) hx hb dX10_wordOf_158 (by decide) ?_
      refine lv_bipush (v := 99) hx hb dX10_wordOf_160 (by decide) ?_
      refine lv_bipush (v := 101) hx hb dX10_wordOf_162 (by decide) ?_
      refine lv_bipush (v := 108) hx hb dX10_wordOf_164 (by decide) ?_
      refine lv_iconst (v := 0) hx hb dX10_wordOf_166 (by decide) ?_
      refine tk_lr (va_runS (As := [.int 112, .int 97, .int 114, .int 99, .int 101, .int 108, .int 0]) (rest := []) ⟨hx, hb, hml, hown, hts⟩ (c_X10_spelt__33 l D cy z s.heap.size Ps w0 hw.1 112 97 114 99 101 108 0 rl_112 rl_97 rl_114 rl_99 rl_101 rl_108 rl_0) (va_cwS 7 hts (gS tw_1325 tw_1326 tw_15 tw_1327) rfl rfl rfl (by decide +kernel) ⟨Nat.le_of_ble_eq_true rfl, Nat.le_of_ble_eq_true rfl⟩) (tg_preS hw hK hSD hA) rfl rfl hl.1 rfl (lv_room (Nat.le_of_ble_eq_true rfl)) dX10_wordOf_167 ⟨Nat.le_of_ble_eq_true rfl, Nat.le_of_ble_eq_true rfl⟩) hw hA (fun v_4  H locs hp_v_4 hw => ?_)
      obtain ⟨hfn, hp_v_4⟩ := hp_v_4
      have q_v_4 : (f_X10_spelt__30 (112 : Int32) (97 : Int32) (114 : Int32) (99 : Int32) (101 : Int32) (108 : Int32) (0 : Int32)) = v_4 := hfn.1
      have r_v_4 : RJ v_4 230470581 230470581 := hp_v_4
      simp only [f_X10_wordOf__7, ↓reduceIte, eq_false cl_1, eq_false n_1_0, eq_false n_1_1, eq_true h_1, q_v_4] at hE
      subst hQ
      exact W.lret (v := v_4) hx hb hr (fun t ht hW => ⟨⟨v_4, (), rfl, ⟨⟨(by rw [hR, ← hE]), trivial⟩, r_v_4.to (by decide)⟩, by rw [ht]; exact hw.2.1, va_K.moved hW.alike hK, hw.2.2.1⟩, hw.2.2.2.1.F ht⟩) hw.2.2.2.1.2.2 dX10_wordOf_170
    · refine lv_tableIn (tgt := 171) (off := 170) hx hb dX10_wordOf_1 (by omega) (by omega) (by rw [h_1]; rfl) (by decide) ?_
      have r_p0 : RI p0 3 3 := ⟨by omega, by omega⟩
      have n_1_0 : ¬ (p0.toInt = 0) := by omega
      have n_1_1 : ¬ (p0.toInt = 1) := by omega
      have n_1_2 : ¬ (p0.toInt = 2) := by omega
      refine lv_bipush (v := 112) hx hb dX10_wordOf_171 (by decide) ?_
      refine lv_bipush (v := 101) hx hb dX10_wordOf_173 (by decide) ?_
      refine lv_bipush (v := 114) hx hb dX10_wordOf_175 (by decide) ?_
      refine lv_bipush (v := 115) hx hb dX10_wordOf_177 (by decide) ?_
      refine lv_bipush (v := 111) hx hb dX10_wordOf_179 (by decide) ?_
      refine lv_bipush (v := 110) hx hb dX10_wordOf_181 (by decide) ?_
      refine lv_iconst (v := 0) hx hb dX10_wordOf_183 (by decide) ?_
      refine tk_lr (va_runS (As := [.int 112, .int 101, .int 114, .int 115, .int 111, .int 110, .int 0]) (rest := []) ⟨hx, hb, hml, hown, hts⟩ (c_X10_spelt__34 l D cy z s.heap.size Ps w0 hw.1 112 101 114 115 111 110 0 rl_112 rl_101 rl_114 rl_115 rl_111 rl_110 rl_0) (va_cwS 7 hts (gS tw_1325 tw_1326 tw_15 tw_1327) rfl rfl rfl (by decide +kernel) ⟨Nat.le_of_ble_eq_true rfl, Nat.le_of_ble_eq_true rfl⟩) (tg_preS hw hK hSD hA) rfl rfl hl.1 rfl (lv_room (Nat.le_of_ble_eq_true rfl)) dX10_wordOf_184 ⟨Nat.le_of_ble_eq_true rfl, Nat.le_of_ble_eq_true rfl⟩) hw hA (fun v_5  H locs hp_v_5 hw => ?_)
      obtain ⟨hfn, hp_v_5⟩ := hp_v_5
      have q_v_5 : (f_X10_spelt__30 (112 : Int32) (101 : Int32) (114 : Int32) (115 : Int32) (111 : Int32) (110 : Int32) (0 : Int32)) = v_5 := hfn.1
      have r_v_5 : RJ v_5 232608281 232608281 := hp_v_5
      simp only [f_X10_wordOf__7, ↓reduceIte, eq_false cl_1, eq_false n_1_0, eq_false n_1_1, eq_false n_1_2, eq_true h_1, q_v_5] at hE
      subst hQ
      exact W.lret (v := v_5) hx hb hr (fun t ht hW => ⟨⟨v_5, (), rfl, ⟨⟨(by rw [hR, ← hE]), trivial⟩, r_v_5.to (by decide)⟩, by rw [ht]; exact hw.2.1, va_K.moved hW.alike hK, hw.2.2.1⟩, hw.2.2.2.1.F ht⟩) hw.2.2.2.1.2.2 dX10_wordOf_187
    · refine lv_tableIn (tgt := 188) (off := 187) hx hb dX10_wordOf_1 (by omega) (by omega) (by rw [h_1]; rfl) (by decide) ?_
      have r_p0 : RI p0 4 4 := ⟨by omega, by omega⟩
      have n_1_0 : ¬ (p0.toInt = 0) := by omega
      have n_1_1 : ¬ (p0.toInt = 1) := by omega
      have n_1_2 : ¬ (p0.toInt = 2) := by omega
      have n_1_3 : ¬ (p0.toInt = 3) := by omega
      refine lv_bipush (v := 115) hx hb dX10_wordOf_188 (by decide) ?_
      refine lv_bipush (v := 105) hx hb dX10_wordOf_190 (by decide) ?_
      refine lv_bipush (v := 116) hx hb dX10_wordOf_192 (by decide) ?_
      refine lv_bipush (v := 115) hx hb dX10_wordOf_194 (by decide) ?_
      refine lv_iconst (v := 0) hx hb dX10_wordOf_196 (by decide) ?_
      refine lv_iconst (v := 0) hx hb dX10_wordOf_197 (by decide) ?_
      refine lv_iconst (v := 0) hx hb dX10_wordOf_198 (by decide) ?_
      refine tk_lr (va_runS (As := [.int 115, .int 105, .int 116, .int 115, .int 0, .int 0, .int 0]) (rest := []) ⟨hx, hb, hml, hown, hts⟩ (c_X10_spelt__35 l D cy z s.heap.size Ps w0 hw.1 115 105 116 115 0 0 0 rl_115 rl_105 rl_116 rl_115 rl_0 rl_0 rl_0) (va_cwS 7 hts (gS tw_1325 tw_1326 tw_15 tw_1327) rfl rfl rfl (by decide +kernel) ⟨Nat.le_of_ble_eq_true rfl, Nat.le_of_ble_eq_true rfl⟩) (tg_preS hw hK hSD hA) rfl rfl hl.1 rfl (lv_room (Nat.le_of_ble_eq_true rfl)) dX10_wordOf_199 ⟨Nat.le_of_ble_eq_true rfl, Nat.le_of_ble_eq_true rfl⟩) hw hA (fun v_6  H locs hp_v_6 hw => ?_)
      obtain ⟨hfn, hp_v_6⟩ := hp_v_6
      have q_v_6 : (f_X10_spelt__31 (115 : Int32) (105 : Int32) (116 : Int32) (115 : Int32) (0 : Int32) (0 : Int32) (0 : Int32)) = v_6 := hfn.1
      have r_v_6 : RJ v_6 381097 381097 := hp_v_6
      simp only [f_X10_wordOf__7, ↓reduceIte, eq_false cl_1, eq_false n_1_0, eq_false n_1_1, eq_false n_1_2, eq_false n_1_3, eq_true h_1, q_v_6] at hE
      subst hQ
      exact W.lret (v := v_6) hx hb hr (fun t ht hW => ⟨⟨v_6, (), rfl, ⟨⟨(by rw [hR, ← hE]), trivial⟩, r_v_6.to (by decide)⟩, by rw [ht]; exact hw.2.1, va_K.moved hW.alike hK, hw.2.2.1⟩, hw.2.2.2.1.F ht⟩) hw.2.2.2.1.2.2 dX10_wordOf_202
    · refine lv_tableIn (tgt := 203) (off := 202) hx hb dX10_wordOf_1 (by omega) (by omega) (by rw [h_1]; rfl) (by decide) ?_
      have r_p0 : RI p0 5 5 := ⟨by omega, by omega⟩
      have n_1_0 : ¬ (p0.toInt = 0) := by omega
      have n_1_1 : ¬ (p0.toInt = 1) := by omega
      have n_1_2 : ¬ (p0.toInt = 2) := by omega
      have n_1_3 : ¬ (p0.toInt = 3) := by omega
      have n_1_4 : ¬ (p0.toInt = 4) := by omega
      refine lv_bipush (v := 104) hx hb dX10_wordOf_203 (by decide) ?_
      refine lv_bipush (v := 97) hx hb dX10_wordOf_205 (by decide) ?_
      refine lv_bipush (v := 115) hx hb dX10_wordOf_207 (by decide) ?_
      refine lv_iconst (v := 0) hx hb dX10_wordOf_209 (by decide) ?_
      refine lv_iconst (v := 0) hx hb dX10_wordOf_210 (by decide) ?_
      refine lv_iconst (v := 0) hx hb dX10_wordOf_211 (by decide) ?_
      refine lv_iconst (v := 0) hx hb dX10_wordOf_212 (by decide) ?_
      refine tk_lr (va_runS (As := [.int 104, .int 97, .int 115, .int 0, .int 0, .int 0, .int 0]) (rest := []) ⟨hx, hb, hml, hown, hts⟩ (c_X10_spelt__36 l D cy z s.heap.size Ps w0 hw.1 104 97 115 0 0 0 0 rl_104 rl_97 rl_115 rl_0 rl_0 rl_0 rl_0) (va_cwS 7 hts (gS tw_1325 tw_1326 tw_15 tw_1327) rfl rfl rfl (by decide +kernel) ⟨Nat.le_of_ble_eq_true rfl, Nat.le_of_ble_eq_true rfl⟩) (tg_preS hw hK hSD hA) rfl rfl hl.1 rfl (lv_room (Nat.le_of_ble_eq_true rfl)) dX10_wordOf_213 ⟨Nat.le_of_ble_eq_true rfl, Nat.le_of_ble_eq_true rfl⟩) hw hA (fun v_7  H locs hp_v_7 hw => ?_)
      obtain ⟨hfn, hp_v_7⟩ := hp_v_7
      have q_v_7 : (f_X10_spelt__36 (104 : Int32) (97 : Int32) (115 : Int32) (0 : Int32) (0 : Int32) (0 : Int32) (0 : Int32)) = v_7 := hfn.1
      have r_v_7 : RJ v_7 5878 5878 := hp_v_7
      simp only [f_X10_wordOf__7, ↓reduceIte, eq_false cl_1, eq_false n_1_0, eq_false n_1_1, eq_false n_1_2, eq_false n_1_3, eq_false n_1_4, eq_true h_1, q_v_7] at hE
      subst hQ
      exact W.lret (v := v_7) hx hb hr (fun t ht hW => ⟨⟨v_7, (), rfl, ⟨⟨(by rw [hR, ← hE]), trivial⟩, r_v_7.to (by decide)⟩, by rw [ht]; exact hw.2.1, va_K.moved hW.alike hK, hw.2.2.1⟩, hw.2.2.2.1.F ht⟩) hw.2.2.2.1.2.2 dX10_wordOf_216
    · refine lv_tableIn (tgt := 217) (off := 216) hx hb dX10_wordOf_1 (by omega) (by omega) (by rw [h_1]; rfl) (by decide) ?_
      have r_p0 : RI p0 6 6 := ⟨by omega, by omega⟩
      have n_1_0 : ¬ (p0.toInt = 0) := by omega
      have n_1_1 : ¬ (p0.toInt = 1) := by omega
      have n_1_2 : ¬ (p0.toInt = 2) := by omega
      have n_1_3 : ¬ (p0.toInt = 3) := by omega
      have n_1_4 : ¬ (p0.toInt = 4) := by omega
      have n_1_5 : ¬ (p0.toInt = 5) := by omega
      refine lv_bipush (v := 113) hx hb dX10_wordOf_217 (by decide) ?_
      refine lv_bipush (v := 117) hx hb dX10_wordOf_219 (by decide) ?_
      refine lv_bipush (v := 97) hx hb dX10_wordOf_221 (by decide) ?_
      refine lv_bipush (v := 114) hx hb dX10_wordOf_223 (by decide) ?_
      refine lv_bipush (v := 114) hx hb dX10_wordOf_225 (by decide) ?_
      refine lv_bipush (v := 101) hx hb dX10_wordOf_227 (by decide) ?_
      refine lv_bipush (v := 108) hx hb dX10_wordOf_229 (by decide) ?_
      refine tk_lr (va_runS (As := [.int 113, .int 117, .int 97, .int 114, .int 114, .int 101, .int 108]) (rest := []) ⟨hx, hb, hml, hown, hts⟩ (c_X10_spelt__37 l D cy z s.heap.size Ps w0 hw.1 113 117 97 114 114 101 108 rl_113 rl_117 rl_97 rl_114 rl_114 rl_101 rl_108) (va_cwS 7 hts (gS tw_1325 tw_1326 tw_15 tw_1327) rfl rfl rfl (by decide +kernel) ⟨Nat.le_of_ble_eq_true rfl, Nat.le_of_ble_eq_true rfl⟩) (tg_preS hw hK hSD hA) rfl rfl hl.1 rfl (lv_room (Nat.le_of_ble_eq_true rfl)) dX10_wordOf_231 ⟨Nat.le_of_ble_eq_true rfl, Nat.le_of_ble_eq_true rfl⟩) hw hA (fun v_8  H locs hp_v_8 hw => ?_)
      obtain ⟨hfn, hp_v_8⟩ := hp_v_8
      have q_v_8 : (f_X10_spelt__37 (113 : Int32) (117 : Int32) (97 : Int32) (114 : Int32) (114 : Int32) (101 : Int32) (108 : Int32)) = v_8 := hfn.1
      have r_v_8 : RJ v_8 6888374364 6888374364 := hp_v_8
      simp only [f_X10_wordOf__7, ↓reduceIte, eq_false cl_1, eq_false n_1_0, eq_false n_1_1, eq_false n_1_2, eq_false n_1_3, eq_false n_1_4, eq_false n_1_5, eq_true h_1, q_v_8] at hE
      subst hQ
      exact W.lret (v := v_8) hx hb hr (fun t ht hW => ⟨⟨v_8, (), rfl, ⟨⟨(by rw [hR, ← hE]), trivial⟩, r_v_8.to (by decide)⟩, by rw [ht]; exact hw.2.1, va_K.moved hW.alike hK, hw.2.2.1⟩, hw.2.2.2.1.F ht⟩) hw.2.2.2.1.2.2 dX10_wordOf_234
    · refine lv_tableIn (tgt := 235) (off := 234) hx hb dX10_wordOf_1 (by omega) (by omega) (by rw [h_1]; rfl) (by decide) ?_
      have r_p0 : RI p0 7 7 := ⟨by omega, by omega⟩
      have n_1_0 : ¬ (p0.toInt = 0) := by omega
      have n_1_1 : ¬ (p0.toInt = 1) := by omega
      have n_1_2 : ¬ (p0.toInt = 2) := by omega
      have n_1_3 : ¬ (p0.toInt = 3) := by omega
      have n_1_4 : ¬ (p0.toInt = 4) := by omega
      have n_1_5 : ¬ (p0.toInt = 5) := by omega
      have n_1_6 : ¬ (p0.toInt = 6) := by omega
      refine lv_bipush (v := 108) hx hb dX10_wordOf_235 (by decide) ?_
      refine lv_bipush (v := 101) hx hb dX10_wordOf_237 (by decide) ?_
      refine lv_bipush (v := 97) hx hb dX10_wordOf_239 (by decide) ?_
      refine lv_bipush (v := 107) hx hb dX10_wordOf_241 (by decide) ?_
      refine lv_iconst (v := 0) hx hb dX10_wordOf_243 (by decide) ?_
      refine lv_iconst (v := 0) hx hb dX10_wordOf_244 (by decide) ?_
      refine lv_iconst (v := 0) hx hb dX10_wordOf_245 (by decide) ?_
      refine tk_lr (va_runS (As := [.int 108, .int 101, .int 97, .int 107, .int 0, .int 0, .int 0]) (rest := []) ⟨hx, hb, hml, hown, hts⟩ (c_X10_spelt__38 l D cy z s.heap.size Ps w0 hw.1 108 101 97 107 0 0 0 rl_108 rl_101 rl_97 rl_107 rl_0 rl_0 rl_0) (va_cwS 7 hts (gS tw_1325 tw_1326 tw_15 tw_1327) rfl rfl rfl (by decide +kernel) ⟨Nat.le_of_ble_eq_true rfl, Nat.le_of_ble_eq_true rfl⟩) (tg_preS hw hK hSD hA) rfl rfl hl.1 rfl (lv_room (Nat.le_of_ble_eq_true rfl)) dX10_wordOf_246 ⟨Nat.le_of_ble_eq_true rfl, Nat.le_of_ble_eq_true rfl⟩) hw hA (fun v_9  H locs hp_v_9 hw => ?_)
      obtain ⟨hfn, hp_v_9⟩ := hp_v_9
      have q_v_9 : (f_X10_spelt__31 (108 : Int32) (101 : Int32) (97 : Int32) (107 : Int32) (0 : Int32) (0 : Int32) (0 : Int32)) = v_9 := hfn.1
      have r_v_9 : RJ v_9 239879 239879 := hp_v_9
      simp only [f_X10_wordOf__7, ↓reduceIte, eq_false cl_1, eq_false n_1_0, eq_false n_1_1, eq_false n_1_2, eq_false n_1_3, eq_false n_1_4, eq_false n_1_5, eq_false n_1_6, eq_true h_1, q_v_9] at hE
      subst hQ
      exact W.lret (v := v_9) hx hb hr (fun t ht hW => ⟨⟨v_9, (), rfl, ⟨⟨(by rw [hR, ← hE]), trivial⟩, r_v_9.to (by decide)⟩, by rw [ht]; exact hw.2.1, va_K.moved hW.alike hK, hw.2.2.1⟩, hw.2.2.2.1.F ht⟩) hw.2.2.2.1.2.2 dX10_wordOf_249
    · refine lv_tableIn (tgt := 250) (off := 249) hx hb dX10_wordOf_1 (by omega) (by omega) (by rw [h_1]; rfl) (by decide) ?_
      have r_p0 : RI p0 8 8 := ⟨by omega, by omega⟩
      have n_1_0 : ¬ (p0.toInt = 0) := by omega
      have n_1_1 : ¬ (p0.toInt = 1) := by omega
      have n_1_2 : ¬ (p0.toInt = 2) := by omega
      have n_1_3 : ¬ (p0.toInt = 3) := by omega
      have n_1_4 : ¬ (p0.toInt = 4) := by omega
      have n_1_5 : ¬ (p0.toInt = 5) := by omega
      have n_1_6 : ¬ (p0.toInt = 6) := by omega
      have n_1_7 : ¬ (p0.toInt = 7) := by omega
      refine lv_bipush (v := 103) hx hb dX10_wordOf_250 (by decide) ?_
      refine lv_bipush (v := 117) hx hb dX10_wordOf_252 (by decide) ?_
      refine lv_bipush (v := 101) hx hb dX10_wordOf_254 (by decide) ?_
      refine lv_bipush (v := 115) hx hb dX10_wordOf_256 (by decide) ?_
      refine lv_bipush (v := 115) hx hb dX10_wordOf_258 (by decide) ?_
      refine lv_iconst (v := 0) hx hb dX10_wordOf_260 (by decide) ?_
      refine lv_iconst (v := 0) hx hb dX10_wordOf_261 (by decide) ?_
      refine tk_lr (va_runS (As := [.int 103, .int 117, .int 101, .int 115, .int 115, .int 0, .int 0]) (rest := []) ⟨hx, hb, hml, hown, hts⟩ (c_X10_spelt__39 l D cy z s.heap.size Ps w0 hw.1 103 117 101 115 115 0 0 rl_103 rl_117 rl_101 rl_115 rl_115 rl_0 rl_0) (va_cwS 7 hts (gS tw_1325 tw_1326 tw_15 tw_1327) rfl rfl rfl (by decide +kernel) ⟨Nat.le_of_ble_eq_true rfl, Nat.le_of_ble_eq_true rfl⟩) (tg_preS hw hK hSD hA) rfl rfl hl.1 rfl (lv_room (Nat.le_of_ble_eq_true rfl)) dX10_wordOf_262 ⟨Nat.le_of_ble_eq_true rfl, Nat.le_of_ble_eq_true rfl⟩) hw hA (fun v_10  H locs hp_v_10 hw => ?_)
      obtain ⟨hfn, hp_v_10⟩ := hp_v_10
      have q_v_10 : (f_X10_spelt__39 (103 : Int32) (117 : Int32) (101 : Int32) (115 : Int32) (115 : Int32) (0 : Int32) (0 : Int32)) = v_10 := hfn.1
      have r_v_10 : RJ v_10 4137607 4137607 := hp_v_10
      simp only [f_X10_wordOf__7, ↓reduceIte, eq_false cl_1, eq_false n_1_0, eq_false n_1_1, eq_false n_1_2, eq_false n_1_3, eq_false n_1_4, eq_false n_1_5, eq_false n_1_6, eq_false n_1_7, eq_true h_1, q_v_10] at hE
      subst hQ
      exact W.lret (v := v_10) hx hb hr (fun t ht hW => ⟨⟨v_10, (), rfl, ⟨⟨(by rw [hR, ← hE]), trivial⟩, r_v_10.to (by decide)⟩, by rw [ht]; exact hw.2.1, va_K.moved hW.alike hK, hw.2.2.1⟩, hw.2.2.2.1.F ht⟩) hw.2.2.2.1.2.2 dX10_wordOf_265
    · refine lv_tableIn (tgt := 266) (off := 265) hx hb dX10_wordOf_1 (by omega) (by omega) (by rw [h_1]; rfl) (by decide) ?_
      have r_p0 : RI p0 9 9 := ⟨by omega, by omega⟩
      have n_1_0 : ¬ (p0.toInt = 0) := by omega
      have n_1_1 : ¬ (p0.toInt = 1) := by omega
      have n_1_2 : ¬ (p0.toInt = 2) := by omega
      have n_1_3 : ¬ (p0.toInt = 3) := by omega
      have n_1_4 : ¬ (p0.toInt = 4) := by omega
      have n_1_5 : ¬ (p0.toInt = 5) := by omega
      have n_1_6 : ¬ (p0.toInt = 6) := by omega
      have n_1_7 : ¬ (p0.toInt = 7) := by omega
      have n_1_8 : ¬ (p0.toInt = 8) := by omega
      refine lv_bipush (v := 106) hx hb dX10_wordOf_266 (by decide) ?_
      refine lv_bipush (v := 111) hx hb dX10_wordOf_268 (by decide) ?_
      refine lv_bipush (v := 105) hx hb dX10_wordOf_270 (by decide) ?_
      refine lv_bipush (v := 110) hx hb dX10_wordOf_272 (by decide) ?_
      refine lv_bipush (v := 115) hx hb dX10_wordOf_274 (by decide) ?_
      refine lv_iconst (v := 0) hx hb dX10_wordOf_276 (by decide) ?_
      refine lv_iconst (v := 0) hx hb dX10_wordOf_277 (by decide) ?_
      refine tk_lr (va_runS (As := [.int 106, .int 111, .int 105, .int 110, .int 115, .int 0, .int 0]) (rest := []) ⟨hx, hb, hml, hown, hts⟩ (c_X10_spelt__40 l D cy z s.heap.size Ps w0 hw.1 106 111 105 110 115 0 0 rl_106 rl_111 rl_105 rl_110 rl_115 rl_0 rl_0) (va_cwS 7 hts (gS tw_1325 tw_1326 tw_15 tw_1327) rfl rfl rfl (by decide +kernel) ⟨Nat.le_of_ble_eq_true rfl, Nat.le_of_ble_eq_true rfl⟩) (tg_preS hw hK hSD hA) rfl rfl hl.1 rfl (lv_room (Nat.le_of_ble_eq_true rfl)) dX10_wordOf_278 ⟨Nat.le_of_ble_eq_true rfl, Nat.le_of_ble_eq_true rfl⟩) hw hA (fun v_11  H locs hp_v_11 hw => ?_)
      obtain ⟨hfn, hp_v_11⟩ := hp_v_11
      have q_v_11 : (f_X10_spelt__39 (106 : Int32) (111 : Int32) (105 : Int32) (110 : Int32) (115 : Int32) (0 : Int32) (0 : Int32)) = v_11 := hfn.1
      have r_v_11 : RJ v_11 5616613 5616613 := hp_v_11
      simp only [f_X10_wordOf__7, ↓reduceIte, eq_false cl_1, eq_false n_1_0, eq_false n_1_1, eq_false n_1_2, eq_false n_1_3, eq_false n_1_4, eq_false n_1_5, eq_false n_1_6, eq_false n_1_7, eq_false n_1_8, eq_true h_1, q_v_11] at hE
      subst hQ
      exact W.lret (v := v_11) hx hb hr (fun t ht hW => ⟨⟨v_11, (), rfl, ⟨⟨(by rw [hR, ← hE]), trivial⟩, r_v_11.to (by decide)⟩, by rw [ht]; exact hw.2.1, va_K.moved hW.alike hK, hw.2.2.1⟩, hw.2.2.2.1.F ht⟩) hw.2.2.2.1.2.2 dX10_wordOf_281
    · refine lv_tableIn (tgt := 282) (off := 281) hx hb dX10_wordOf_1 (by omega) (by omega) (by rw [h_1]; rfl) (by decide) ?_
      have r_p0 : RI p0 10 10 := ⟨by omega, by omega⟩
      have n_1_0 : ¬ (p0.toInt = 0) := by omega
      have n_1_1 : ¬ (p0.toInt = 1) := by omega
      have n_1_2 : ¬ (p0.toInt = 2) := by omega
      have n_1_3 : ¬ (p0.toInt = 3) := by omega
      have n_1_4 : ¬ (p0.toInt = 4) := by omega
      have n_1_5 : ¬ (p0.toInt = 5) := by omega
      have n_1_6 : ¬ (p0.toInt = 6) := by omega
      have n_1_7 : ¬ (p0.toInt = 7) := by omega
      have n_1_8 : ¬ (p0.toInt = 8) := by omega
      have n_1_9 : ¬ (p0.toInt = 9) := by omega
      refine lv_bipush (v := 115) hx hb dX10_wordOf_282 (by decide) ?_
      refine lv_bipush (v := 116) hx hb dX10_wordOf_284 (by decide) ?_
      refine lv_bipush (v := 97) hx hb dX10_wordOf_286 (by decide) ?_
      refine lv_bipush (v := 110) hx hb dX10_wordOf_288 (by decide) ?_
      refine lv_bipush (v := 100) hx hb dX10_wordOf_290 (by decide) ?_
      refine lv_bipush (v := 115) hx hb dX10_wordOf_292 (by decide) ?_
      refine lv_iconst (v := 0) hx hb dX10_wordOf_294 (by decide) ?_
      refine tk_lr (va_runS (As := [.int 115, .int 116, .int 97, .int 110, .int 100, .int 115, .int 0]) (rest := []) ⟨hx, hb, hml, hown, hts⟩ (c_X10_spelt__41 l D cy z s.heap.size Ps w0 hw.1 115 116 97 110 100 115 0 rl_115 rl_116 rl_97 rl_110 rl_100 rl_115 rl_0) (va_cwS 7 hts (gS tw_1325 tw_1326 tw_15 tw_1327) rfl rfl rfl (by decide +kernel) ⟨Nat.le_of_ble_eq_true rfl, Nat.le_of_ble_eq_true rfl⟩) (tg_preS hw hK hSD hA) rfl rfl hl.1 rfl (lv_room (Nat.le_of_ble_eq_true rfl)) dX10_wordOf_295 ⟨Nat.le_of_ble_eq_true rfl, Nat.le_of_ble_eq_true rfl⟩) hw hA (fun v_12  H locs hp_v_12 hw => ?_)
      obtain ⟨hfn, hp_v_12⟩ := hp_v_12
      have q_v_12 : (f_X10_spelt__30 (115 : Int32) (116 : Int32) (97 : Int32) (110 : Int32) (100 : Int32) (115 : Int32) (0 : Int32)) = v_12 := hfn.1
      have r_v_12 : RJ v_12 283288069 283288069 := hp_v_12
      simp only [f_X10_wordOf__7, ↓reduceIte, eq_false cl_1, eq_false n_1_0, eq_false n_1_1, eq_false n_1_2, eq_false n_1_3, eq_false n_1_4, eq_false n_1_5, eq_false n_1_6, eq_false n_1_7, eq_false n_1_8, eq_false n_1_9, eq_true h_1, q_v_12] at hE
      subst hQ
      exact W.lret (v := v_12) hx hb hr (fun t ht hW => ⟨⟨v_12, (), rfl, ⟨⟨(by rw [hR, ← hE]), trivial⟩, r_v_12.to (by decide)⟩, by rw [ht]; exact hw.2.1, va_K.moved hW.alike hK, hw.2.2.1⟩, hw.2.2.2.1.F ht⟩) hw.2.2.2.1.2.2 dX10_wordOf_298
    · refine lv_tableIn (tgt := 299) (off := 298) hx hb dX10_wordOf_1 (by omega) (by omega) (by rw [h_1]; rfl) (by decide) ?_
      have r_p0 : RI p0 11 11 := ⟨by omega, by omega⟩
      have n_1_0 : ¬ (p0.toInt = 0) := by omega
      have n_1_1 : ¬ (p0.toInt = 1) := by omega
      have n_1_2 : ¬ (p0.toInt = 2) := by omega
      have n_1_3 : ¬ (p0.toInt = 3) := by omega
      have n_1_4 : ¬ (p0.toInt = 4) := by omega
      have n_1_5 : ¬ (p0.toInt = 5) := by omega
      have n_1_6 : ¬ (p0.toInt = 6) := by omega
      have n_1_7 : ¬ (p0.toInt = 7) := by omega
      have n_1_8 : ¬ (p0.toInt = 8) := by omega
      have n_1_9 : ¬ (p0.toInt = 9) := by omega
      have n_1_10 : ¬ (p0.toInt = 10) := by omega
      refine lv_bipush (v := 119) hx hb dX10_wordOf_299 (by decide) ?_
      refine lv_bipush (v := 105) hx hb dX10_wordOf_301 (by decide) ?_
      refine lv_bipush (v := 115) hx hb dX10_wordOf_303 (by decide) ?_
      refine lv_bipush (v := 104) hx hb dX10_wordOf_305 (by decide) ?_
      refine lv_bipush (v := 101) hx hb dX10_wordOf_307 (by decide) ?_
      refine lv_bipush (v := 115) hx hb dX10_wordOf_309 (by decide) ?_
      refine lv_iconst (v := 0) hx hb dX10_wordOf_311 (by decide) ?_
      refine tk_lr (va_runS (As := [.int 119, .int 105, .int 115, .int 104, .int 101, .int 115, .int 0]) (rest := []) ⟨hx, hb, hml, hown, hts⟩ (c_X10_spelt__42 l D cy z s.heap.size Ps w0 hw.1 119 105 115 104 101 115 0 rl_119 rl_105 rl_115 rl_104 rl_101 rl_115 rl_0) (va_cwS 7 hts (gS tw_1325 tw_1326 tw_15 tw_1327) rfl rfl rfl (by decide +kernel) ⟨Nat.le_of_ble_eq_true rfl, Nat.le_of_ble_eq_true rfl⟩) (tg_preS hw hK hSD hA) rfl rfl hl.1 rfl (lv_room (Nat.le_of_ble_eq_true rfl)) dX10_wordOf_312 ⟨Nat.le_of_ble_eq_true rfl, Nat.le_of_ble_eq_true rfl⟩) hw hA (fun v_13  H locs hp_v_13 hw => ?_)
      obtain ⟨hfn, hp_v_13⟩ := hp_v_13
      have q_v_13 : (f_X10_spelt__30 (119 : Int32) (105 : Int32) (115 : Int32) (104 : Int32) (101 : Int32) (115 : Int32) (0 : Int32)) = v_13 := hfn.1
      have r_v_13 : RJ v_13 335187793 335187793 := hp_v_13
      simp only [f_X10_wordOf__7, ↓reduceIte, eq_false cl_1, eq_false n_1_0, eq_false n_1_1, eq_false n_1_2, eq_false n_1_3, eq_false n_1_4, eq_false n_1_5, eq_false n_1_6, eq_false n_1_7, eq_false n_1_8, eq_false n_1_9, eq_false n_1_10, eq_true h_1, q_v_13] at hE
      subst hQ
      exact W.lret (v := v_13) hx hb hr (fun t ht hW => ⟨⟨v_13, (), rfl, ⟨⟨(by rw [hR, ← hE]), trivial⟩, r_v_13.to (by decide)⟩, by rw [ht]; exact hw.2.1, va_K.moved hW.alike hK, hw.2.2.1⟩, hw.2.2.2.1.F ht⟩) hw.2.2.2.1.2.2 dX10_wordOf_315
    · refine lv_tableIn (tgt := 316) (off := 315) hx hb dX10_wordOf_1 (by omega) (by omega) (by rw [h_1]; rfl) (by decide) ?_
      have r_p0 : RI p0 12 12 := ⟨by omega, by omega⟩
      have n_1_0 : ¬ (p0.toInt = 0) := by omega
      have n_1_1 : ¬ (p0.toInt = 1) := by omega
      have n_1_2 : ¬ (p0.toInt = 2) := by omega
      have n_1_3 : ¬ (p0.toInt = 3) := by omega
      have n_1_4 : ¬ (p0.toInt = 4) := by omega
      have n_1_5 : ¬ (p0.toInt = 5) := by omega
      have n_1_6 : ¬ (p0.toInt = 6) := by omega
      have n_1_7 : ¬ (p0.toInt = 7) := by omega
      have n_1_8 : ¬ (p0.toInt = 8) := by omega
      have n_1_9 : ¬ (p0.toInt = 9) := by omega
      have n_1_10 : ¬ (p0.toInt = 10) := by omega
      have n_1_11 : ¬ (p0.toInt = 11) := by omega
      refine lv_bipush (v := 103) hx hb dX10_wordOf_316 (by decide) ?_
      refine lv_bipush (v := 117) hx hb dX10_wordOf_318 (by decide) ?_
      refine lv_bipush (v := 101) hx hb dX10_wordOf_320 (by decide) ?_
      refine lv_bipush (v := 115) hx hb dX10_wordOf_322 (by decide) ?_
      refine lv_bipush (v := 115) hx hb dX10_wordOf_324 (by decide) ?_
      refine lv_bipush (v := 101) hx hb dX10_wordOf_326 (by decide) ?_
      refine lv_bipush (v := 115) hx hb dX10_wordOf_328 (by decide) ?_
      refine tk_lr (va_runS (As := [.int 103, .int 117, .int 101, .int 115, .int 115, .int 101, .int 115]) (rest := []) ⟨hx, hb, hml, hown, hts⟩ (c_X10_spelt__43 l D cy z s.heap.size Ps w0 hw.1 103 117 101 115 115 101 115 rl_103 rl_117 rl_101 rl_115 rl_115 rl_101 rl_115) (va_cwS 7 hts (gS tw_1325 tw_1326 tw_15 tw_1327) rfl rfl rfl (by decide +kernel) ⟨Nat.le_of_ble_eq_true rfl, Nat.le_of_ble_eq_true rfl⟩) (tg_preS hw hK hSD hA) rfl rfl hl.1 rfl (lv_room (Nat.le_of_ble_eq_true rfl)) dX10_wordOf_330 ⟨Nat.le_of_ble_eq_true rfl, Nat.le_of_ble_eq_true rfl⟩) hw hA (fun v_14  H locs hp_v_14 hw => ?_)
      obtain ⟨hfn, hp_v_14⟩ := hp_v_14
      have q_v_14 : (f_X10_spelt__37 (103 : Int32) (117 : Int32) (101 : Int32) (115 : Int32) (115 : Int32) (101 : Int32) (115 : Int32)) = v_14 := hfn.1
      have r_v_14 : RJ v_14 3016315657 3016315657 := hp_v_14
      simp only [f_X10_wordOf__7, ↓reduceIte, eq_false cl_1, eq_false n_1_0, eq_false n_1_1, eq_false n_1_2, eq_false n_1_3, eq_false n_1_4, eq_false n_1_5, eq_false n_1_6, eq_false n_1_7, eq_false n_1_8, eq_false n_1_9, eq_false n_1_10, eq_false n_1_11, eq_true h_1, q_v_14] at hE
      subst hQ
      exact W.lret (v := v_14) hx hb hr (fun t ht hW => ⟨⟨v_14, (), rfl, ⟨⟨(by rw [hR, ← hE]), trivial⟩, r_v_14.to (by decide)⟩, by rw [ht]; exact hw.2.1, va_K.moved hW.alike hK, hw.2.2.1⟩, hw.2.2.2.1.F ht⟩) hw.2.2.2.1.2.2 dX10_wordOf_333
    · refine lv_tableIn (tgt := 334) (off := 333) hx hb dX10_wordOf_1 (by omega) (by omega) (by rw [h_1]; rfl) (by decide) ?_
      have r_p0 : RI p0 13 13 := ⟨by omega, by omega⟩
      have n_1_0 : ¬ (p0.toInt = 0) := by omega
      have n_1_1 : ¬ (p0.toInt = 1) := by omega
      have n_1_2 : ¬ (p0.toInt = 2) := by omega
      have n_1_3 : ¬ (p0.toInt = 3) := by omega
      have n_1_4 : ¬ (p0.toInt = 4) := by omega
      have n_1_5 : ¬ (p0.toInt = 5) := by omega
      have n_1_6 : ¬ (p0.toInt = 6) := by omega
      have n_1_7 : ¬ (p0.toInt = 7) := by omega
      have n_1_8 : ¬ (p0.toInt = 8) := by omega
      have n_1_9 : ¬ (p0.toInt = 9) := by omega
      have n_1_10 : ¬ (p0.toInt = 10) := by omega
      have n_1_11 : ¬ (p0.toInt = 11) := by omega
      have n_1_12 : ¬ (p0.toInt = 12) := by omega
      refine lv_bipush (v := 111) hx hb dX10_wordOf_334 (by decide) ?_
      refine lv_bipush (v := 112) hx hb dX10_wordOf_336 (by decide) ?_
      refine lv_bipush (v := 101) hx hb dX10_wordOf_338 (by decide) ?_
      refine lv_bipush (v := 110) hx hb dX10_wordOf_340 (by decide) ?_
      refine lv_iconst (v := 0) hx hb dX10_wordOf_342 (by decide) ?_
      refine lv_iconst (v := 0) hx hb dX10_wordOf_343 (by decide) ?_
      refine lv_iconst (v := 0) hx hb dX10_wordOf_344 (by decide) ?_
      refine tk_lr (va_runS (As := [.int 111, .int 112, .int 101, .int 110, .int 0, .int 0, .int 0]) (rest := []) ⟨hx, hb, hml, hown, hts⟩ (c_X10_spelt__44 l D cy z s.heap.size Ps w0 hw.1 111 112 101 110 0 0 0 rl_111 rl_112 rl_101 rl_110 rl_0 rl_0 rl_0) (va_cwS 7 hts (gS tw_1325 tw_1326 tw_15 tw_1327) rfl rfl rfl (by decide +kernel) ⟨Nat.le_of_ble_eq_true rfl, Nat.le_of_ble_eq_true rfl⟩) (tg_preS hw hK hSD hA) rfl rfl hl.1 rfl (lv_room (Nat.le_of_ble_eq_true rfl)) dX10_wordOf_345 ⟨Nat.le_of_ble_eq_true rfl, Nat.le_of_ble_eq_true rfl⟩) hw hA (fun v_15  H locs hp_v_15 hw => ?_)
      obtain ⟨hfn, hp_v_15⟩ := hp_v_15
      have q_v_15 : (f_X10_spelt__31 (111 : Int32) (112 : Int32) (101 : Int32) (110 : Int32) (0 : Int32) (0 : Int32) (0 : Int32)) = v_15 := hfn.1
      have r_v_15 : RJ v_15 307058 307058 := hp_v_15
      simp only [f_X10_wordOf__7, ↓reduceIte, eq_false cl_1, eq_false n_1_0, eq_false n_1_1, eq_false n_1_2, eq_false n_1_3, eq_false n_1_4, eq_false n_1_5, eq_false n_1_6, eq_false n_1_7, eq_false n_1_8, eq_false n_1_9, eq_false n_1_10, eq_false n_1_11, eq_false n_1_12, eq_true h_1, q_v_15] at hE
      subst hQ
      exact W.lret (v := v_15) hx hb hr (fun t ht hW => ⟨⟨v_15, (), rfl, ⟨⟨(by rw [hR, ← hE]), trivial⟩, r_v_15.to (by decide)⟩, by rw [ht]; exact hw.2.1, va_K.moved hW.alike hK, hw.2.2.1⟩, hw.2.2.2.1.F ht⟩) hw.2.2.2.1.2.2 dX10_wordOf_348
    · refine lv_tableIn (tgt := 349) (off := 348) hx hb dX10_wordOf_1 (by omega) (by omega) (by rw [h_1]; rfl) (by decide) ?_
      have r_p0 : RI p0 14 14 := ⟨by omega, by omega⟩
      have n_1_0 : ¬ (p0.toInt = 0) := by omega
      have n_1_1 : ¬ (p0.toInt = 1) := by omega
      have n_1_2 : ¬ (p0.toInt = 2) := by omega
      have n_1_3 : ¬ (p0.toInt = 3) := by omega
      have n_1_4 : ¬ (p0.toInt = 4) := by omega
      have n_1_5 : ¬ (p0.toInt = 5) := by omega
      have n_1_6 : ¬ (p0.toInt = 6) := by omega
      have n_1_7 : ¬ (p0.toInt = 7) := by omega
      have n_1_8 : ¬ (p0.toInt = 8) := by omega
      have n_1_9 : ¬ (p0.toInt = 9) := by omega
      have n_1_10 : ¬ (p0.toInt = 10) := by omega
      have n_1_11 : ¬ (p0.toInt = 11) := by omega
      have n_1_12 : ¬ (p0.toInt = 12) := by omega
      have n_1_13 : ¬ (p0.toInt = 13) := by omega
      refine lv_bipush (v := 99) hx hb dX10_wordOf_349 (by decide) ?_
      refine lv_bipush (v := 97) hx hb dX10_wordOf_351 (by decide) ?_
      refine lv_bipush (v := 114) hx hb dX10_wordOf_353 (by decide) ?_
      refine lv_bipush (v := 114) hx hb dX10_wordOf_355 (by decide) ?_
      refine lv_bipush (v := 121) hx hb dX10_wordOf_357 (by decide) ?_
      refine lv_iconst (v := 0) hx hb dX10_wordOf_359 (by decide) ?_
      refine lv_iconst (v := 0) hx hb dX10_wordOf_360 (by decide) ?_
      refine tk_lr (va_runS (As := [.int 99, .int 97, .int 114, .int 114, .int 121, .int 0, .int 0]) (rest := []) ⟨hx, hb, hml, hown, hts⟩ (c_X10_spelt__45 l D cy z s.heap.size Ps w0 hw.1 99 97 114 114 121 0 0 rl_99 rl_97 rl_114 rl_114 rl_121 rl_0 rl_0) (va_cwS 7 hts (gS tw_1325 tw_1326 tw_15 tw_1327) rfl rfl rfl (by decide +kernel) ⟨Nat.le_of_ble_eq_true rfl, Nat.le_of_ble_eq_true rfl⟩) (tg_preS hw hK hSD hA) rfl rfl hl.1 rfl (lv_room (Nat.le_of_ble_eq_true rfl)) dX10_wordOf_361 ⟨Nat.le_of_ble_eq_true rfl, Nat.le_of_ble_eq_true rfl⟩) hw hA (fun v_16  H locs hp_v_16 hw => ?_)
      obtain ⟨hfn, hp_v_16⟩ := hp_v_16
      have q_v_16 : (f_X10_spelt__39 (99 : Int32) (97 : Int32) (114 : Int32) (114 : Int32) (121 : Int32) (0 : Int32) (0 : Int32)) = v_16 := hfn.1
      have r_v_16 : RJ v_16 1627639 1627639 := hp_v_16
      simp only [f_X10_wordOf__7, ↓reduceIte, eq_false cl_1, eq_false n_1_0, eq_false n_1_1, eq_false n_1_2, eq_false n_1_3, eq_false n_1_4, eq_false n_1_5, eq_false n_1_6, eq_false n_1_7, eq_false n_1_8, eq_false n_1_9, eq_false n_1_10, eq_false n_1_11, eq_false n_1_12, eq_false n_1_13, eq_true h_1, q_v_16] at hE
      subst hQ
      exact W.lret (v := v_16) hx hb hr (fun t ht hW => ⟨⟨v_16, (), rfl, ⟨⟨(by rw [hR, ← hE]), trivial⟩, r_v_16.to (by decide)⟩, by rw [ht]; exact hw.2.1, va_K.moved hW.alike hK, hw.2.2.1⟩, hw.2.2.2.1.F ht⟩) hw.2.2.2.1.2.2 dX10_wordOf_364
    · refine lv_tableIn (tgt := 365) (off := 364) hx hb dX10_wordOf_1 (by omega) (by omega) (by rw [h_1]; rfl) (by decide) ?_
      have r_p0 : RI p0 15 15 := ⟨by omega, by omega⟩
      have n_1_0 : ¬ (p0.toInt = 0) := by omega
      have n_1_1 : ¬ (p0.toInt = 1) := by omega
      have n_1_2 : ¬ (p0.toInt = 2) := by omega
      have n_1_3 : ¬ (p0.toInt = 3) := by omega
      have n_1_4 : ¬ (p0.toInt = 4) := by omega
      have n_1_5 : ¬ (p0.toInt = 5) := by omega
      have n_1_6 : ¬ (p0.toInt = 6) := by omega
      have n_1_7 : ¬ (p0.toInt = 7) := by omega
      have n_1_8 : ¬ (p0.toInt = 8) := by omega
      have n_1_9 : ¬ (p0.toInt = 9) := by omega
      have n_1_10 : ¬ (p0.toInt = 10) := by omega
      have n_1_11 : ¬ (p0.toInt = 11) := by omega
      have n_1_12 : ¬ (p0.toInt = 12) := by omega
      have n_1_13 : ¬ (p0.toInt = 13) := by omega
      have n_1_14 : ¬ (p0.toInt = 14) := by omega
      refine lv_bipush (v := 100) hx hb dX10_wordOf_365 (by decide) ?_
      refine lv_bipush (v := 97) hx hb dX10_wordOf_367 (by decide) ?_
      refine lv_bipush (v := 121) hx hb dX10_wordOf_369 (by decide) ?_
      refine lv_iconst (v := 0) hx hb dX10_wordOf_371 (by decide) ?_
      refine lv_iconst (v := 0) hx hb dX10_wordOf_372 (by decide) ?_
      refine lv_iconst (v := 0) hx hb dX10_wordOf_373 (by decide) ?_
      refine lv_iconst (v := 0) hx hb dX10_wordOf_374 (by decide) ?_
      refine tk_lr (va_runS (As := [.int 100, .int 97, .int 121, .int 0, .int 0, .int 0, .int 0]) (rest := []) ⟨hx, hb, hml, hown, hts⟩ (c_X10_spelt__46 l D cy z s.heap.size Ps w0 hw.1 100 97 121 0 0 0 0 rl_100 rl_97 rl_121 rl_0 rl_0 rl_0 rl_0) (va_cwS 7 hts (gS tw_1325 tw_1326 tw_15 tw_1327) rfl rfl rfl (by decide +kernel) ⟨Nat.le_of_ble_eq_true rfl, Nat.le_of_ble_eq_true rfl⟩) (tg_preS hw hK hSD hA) rfl rfl hl.1 rfl (lv_room (Nat.le_of_ble_eq_true rfl)) dX10_wordOf_375 ⟨Nat.le_of_ble_eq_true rfl, Nat.le_of_ble_eq_true rfl⟩) hw hA (fun v_17  H locs hp_v_17 hw => ?_)
      obtain ⟨hfn, hp_v_17⟩ := hp_v_17
      have q_v_17 : (f_X10_spelt__36 (100 : Int32) (97 : Int32) (121 : Int32) (0 : Int32) (0 : Int32) (0 : Int32) (0 : Int32)) = v_17 := hfn.1
      have r_v_17 : RJ v_17 2968 2968 := hp_v_17
      simp only [f_X10_wordOf__7, ↓reduceIte, eq_false cl_1, eq_false n_1_0, eq_false n_1_1, eq_false n_1_2, eq_false n_1_3, eq_false n_1_4, eq_false n_1_5, eq_false n_1_6, eq_false n_1_7, eq_false n_1_8, eq_false n_1_9, eq_false n_1_10, eq_false n_1_11, eq_false n_1_12, eq_false n_1_13, eq_false n_1_14, eq_true h_1, q_v_17] at hE
      subst hQ
      exact W.lret (v := v_17) hx hb hr (fun t ht hW => ⟨⟨v_17, (), rfl, ⟨⟨(by rw [hR, ← hE]), trivial⟩, r_v_17.to (by decide)⟩, by rw [ht]; exact hw.2.1, va_K.moved hW.alike hK, hw.2.2.1⟩, hw.2.2.2.1.F ht⟩) hw.2.2.2.1.2.2 dX10_wordOf_378
    · refine lv_tableIn (tgt := 379) (off := 378) hx hb dX10_wordOf_1 (by omega) (by omega) (by rw [h_1]; rfl) (by decide) ?_
      have r_p0 : RI p0 16 16 := ⟨by omega, by omega⟩
      have n_1_0 : ¬ (p0.toInt = 0) := by omega
      have n_1_1 : ¬ (p0.toInt = 1) := by omega
      have n_1_2 : ¬ (p0.toInt = 2) := by omega
      have n_1_3 : ¬ (p0.toInt = 3) := by omega
      have n_1_4 : ¬ (p0.toInt = 4) := by omega
      have n_1_5 : ¬ (p0.toInt = 5) := by omega
      have n_1_6 : ¬ (p0.toInt = 6) := by omega
      have n_1_7 : ¬ (p0.toInt = 7) := by omega
      have n_1_8 : ¬ (p0.toInt = 8) := by omega
      have n_1_9 : ¬ (p0.toInt = 9) := by omega
      have n_1_10 : ¬ (p0.toInt = 10) := by omega
      have n_1_11 : ¬ (p0.toInt = 11) := by omega
      have n_1_12 : ¬ (p0.toInt = 12) := by omega
      have n_1_13 : ¬ (p0.toInt = 13) := by omega
      have n_1_14 : ¬ (p0.toInt = 14) := by omega
      have n_1_15 : ¬ (p0.toInt = 15) := by omega
      refine lv_bipush (v := 111) hx hb dX10_wordOf_379 (by decide) ?_
      refine lv_bipush (v := 114) hx hb dX10_wordOf_381 (by decide) ?_
      refine lv_iconst (v := 0) hx hb dX10_wordOf_383 (by decide) ?_
      refine lv_iconst (v := 0) hx hb dX10_wordOf_384 (by decide) ?_
      refine lv_iconst (v := 0) hx hb dX10_wordOf_385 (by decide) ?_
      refine lv_iconst (v := 0) hx hb dX10_wordOf_386 (by decide) ?_
      refine lv_iconst (v := 0) hx hb dX10_wordOf_387 (by decide) ?_
      refine tk_lr (va_runS (As := [.int 111, .int 114, .int 0, .int 0, .int 0, .int 0, .int 0]) (rest := []) ⟨hx, hb, hml, hown, hts⟩ (c_X10_spelt__47 l D cy z s.heap.size Ps w0 hw.1 111 114 0 0 0 0 0 rl_111 rl_114 rl_0 rl_0 rl_0 rl_0 rl_0) (va_cwS 7 hts (gS tw_1325 tw_1326 tw_15 tw_1327) rfl rfl rfl (by decide +kernel) ⟨Nat.le_of_ble_eq_true rfl, Nat.le_of_ble_eq_true rfl⟩) (tg_preS hw hK hSD hA) rfl rfl hl.1 rfl (lv_room (Nat.le_of_ble_eq_true rfl)) dX10_wordOf_388 ⟨Nat.le_of_ble_eq_true rfl, Nat.le_of_ble_eq_true rfl⟩) hw hA (fun v_18  H locs hp_v_18 hw => ?_)
      obtain ⟨hfn, hp_v_18⟩ := hp_v_18
      have q_v_18 : (f_X10_spelt__47 (111 : Int32) (114 : Int32) (0 : Int32) (0 : Int32) (0 : Int32) (0 : Int32) (0 : Int32)) = v_18 := hfn.1
      have r_v_18 : RJ v_18 423 423 := hp_v_18
      simp only [f_X10_wordOf__7, ↓reduceIte, eq_false cl_1, eq_false n_1_0, eq_false n_1_1, eq_false n_1_2, eq_false n_1_3, eq_false n_1_4, eq_false n_1_5, eq_false n_1_6, eq_false n_1_7, eq_false n_1_8, eq_false n_1_9, eq_false n_1_10, eq_false n_1_11, eq_false n_1_12, eq_false n_1_13, eq_false n_1_14, eq_false n_1_15, eq_true h_1, q_v_18] at hE
      subst hQ
      exact W.lret (v := v_18) hx hb hr (fun t ht hW => ⟨⟨v_18, (), rfl, ⟨⟨(by rw [hR, ← hE]), trivial⟩, r_v_18.to (by decide)⟩, by rw [ht]; exact hw.2.1, va_K.moved hW.alike hK, hw.2.2.1⟩, hw.2.2.2.1.F ht⟩) hw.2.2.2.1.2.2 dX10_wordOf_391
    · refine lv_tableIn (tgt := 392) (off := 391) hx hb dX10_wordOf_1 (by omega) (by omega) (by rw [h_1]; rfl) (by decide) ?_
      have r_p0 : RI p0 17 17 := ⟨by omega, by omega⟩
      have n_1_0 : ¬ (p0.toInt = 0) := by omega
      have n_1_1 : ¬ (p0.toInt = 1) := by omega
      have n_1_2 : ¬ (p0.toInt = 2) := by omega
      have n_1_3 : ¬ (p0.toInt = 3) := by omega
      have n_1_4 : ¬ (p0.toInt = 4) := by omega
      have n_1_5 : ¬ (p0.toInt = 5) := by omega
      have n_1_6 : ¬ (p0.toInt = 6) := by omega
      have n_1_7 : ¬ (p0.toInt = 7) := by omega
      have n_1_8 : ¬ (p0.toInt = 8) := by omega
      have n_1_9 : ¬ (p0.toInt = 9) := by omega
      have n_1_10 : ¬ (p0.toInt = 10) := by omega
      have n_1_11 : ¬ (p0.toInt = 11) := by omega
      have n_1_12 : ¬ (p0.toInt = 12) := by omega
      have n_1_13 : ¬ (p0.toInt = 13) := by omega
      have n_1_14 : ¬ (p0.toInt = 14) := by omega
      have n_1_15 : ¬ (p0.toInt = 15) := by omega
      have n_1_16 : ¬ (p0.toInt = 16) := by omega
      refine lv_bipush (v := 97) hx hb dX10_wordOf_392 (by decide) ?_
      refine lv_bipush (v := 110) hx hb dX10_wordOf_394 (by decide) ?_
      refine lv_bipush (v := 100) hx hb dX10_wordOf_396 (by decide) ?_
      refine lv_iconst (v := 0) hx hb dX10_wordOf_398 (by decide) ?_
      refine lv_iconst (v := 0) hx hb dX10_wordOf_399 (by decide) ?_
      refine lv_iconst (v := 0) hx hb dX10_wordOf_400 (by decide) ?_
      refine lv_iconst (v := 0) hx hb dX10_wordOf_401 (by decide) ?_
      refine tk_lr (va_runS (As := [.int 97, .int 110, .int 100, .int 0, .int 0, .int 0, .int 0]) (rest := []) ⟨hx, hb, hml, hown, hts⟩ (c_X10_spelt__48 l D cy z s.heap.size Ps w0 hw.1 97 110 100 0 0 0 0 rl_97 rl_110 rl_100 rl_0 rl_0 rl_0 rl_0) (va_cwS 7 hts (gS tw_1325 tw_1326 tw_15 tw_1327) rfl rfl rfl (by decide +kernel) ⟨Nat.le_of_ble_eq_true rfl, Nat.le_of_ble_eq_true rfl⟩) (tg_preS hw hK hSD hA) rfl rfl hl.1 rfl (lv_room (Nat.le_of_ble_eq_true rfl)) dX10_wordOf_402 ⟨Nat.le_of_ble_eq_true rfl, Nat.le_of_ble_eq_true rfl⟩) hw hA (fun v_19  H locs hp_v_19 hw => ?_)
      obtain ⟨hfn, hp_v_19⟩ := hp_v_19
      have q_v_19 : (f_X10_spelt__36 (97 : Int32) (110 : Int32) (100 : Int32) (0 : Int32) (0 : Int32) (0 : Int32) (0 : Int32)) = v_19 := hfn.1
      have r_v_19 : RJ v_19 1111 1111 := hp_v_19
      simp only [f_X10_wordOf__7, ↓reduceIte, eq_false cl_1, eq_false n_1_0, eq_false n_1_1, eq_false n_1_2, eq_false n_1_3, eq_false n_1_4, eq_false n_1_5, eq_false n_1_6, eq_false n_1_7, eq_false n_1_8, eq_false n_1_9, eq_false n_1_10, eq_false n_1_11, eq_false n_1_12, eq_false n_1_13, eq_false n_1_14, eq_false n_1_15, eq_false n_1_16, eq_true h_1, q_v_19] at hE
      subst hQ
      exact W.lret (v := v_19) hx hb hr (fun t ht hW => ⟨⟨v_19, (), rfl, ⟨⟨(by rw [hR, ← hE]), trivial⟩, r_v_19.to (by decide)⟩, by rw [ht]; exact hw.2.1, va_K.moved hW.alike hK, hw.2.2.1⟩, hw.2.2.2.1.F ht⟩) hw.2.2.2.1.2.2 dX10_wordOf_405
    · refine lv_tableIn (tgt := 406) (off := 405) hx hb dX10_wordOf_1 (by omega) (by omega) (by rw [h_1]; rfl) (by decide) ?_
      have r_p0 : RI p0 18 18 := ⟨by omega, by omega⟩
      have n_1_0 : ¬ (p0.toInt = 0) := by omega
      have n_1_1 : ¬ (p0.toInt = 1) := by omega
      have n_1_2 : ¬ (p0.toInt = 2) := by omega
      have n_1_3 : ¬ (p0.toInt = 3) := by omega
      have n_1_4 : ¬ (p0.toInt = 4) := by omega
      have n_1_5 : ¬ (p0.toInt = 5) := by omega
      have n_1_6 : ¬ (p0.toInt = 6) := by omega
      have n_1_7 : ¬ (p0.toInt = 7) := by omega
      have n_1_8 : ¬ (p0.toInt = 8) := by omega
      have n_1_9 : ¬ (p0.toInt = 9) := by omega
      have n_1_10 : ¬ (p0.toInt = 10) := by omega
      have n_1_11 : ¬ (p0.toInt = 11) := by omega
      have n_1_12 : ¬ (p0.toInt = 12) := by omega
      have n_1_13 : ¬ (p0.toInt = 13) := by omega
      have n_1_14 : ¬ (p0.toInt = 14) := by omega
      have n_1_15 : ¬ (p0.toInt = 15) := by omega
      have n_1_16 : ¬ (p0.toInt = 16) := by omega
      have n_1_17 : ¬ (p0.toInt = 17) := by omega
      refine lv_bipush (v := 110) hx hb dX10_wordOf_406 (by decide) ?_
      refine lv_bipush (v := 111) hx hb dX10_wordOf_408 (by decide) ?_
      refine lv_bipush (v := 116) hx hb dX10_wordOf_410 (by decide) ?_
      refine lv_iconst (v := 0) hx hb dX10_wordOf_412 (by decide) ?_
      refine lv_iconst (v := 0) hx hb dX10_wordOf_413 (by decide) ?_
      refine lv_iconst (v := 0) hx hb dX10_wordOf_414 (by decide) ?_
      refine lv_iconst (v := 0) hx hb dX10_wordOf_415 (by decide) ?_
      refine tk_lr (va_runS (As := [.int 110, .int 111, .int 116, .int 0, .int 0, .int 0, .int 0]) (rest := []) ⟨hx, hb, hml, hown, hts⟩ (c_X10_spelt__49 l D cy z s.heap.size Ps w0 hw.1 110 111 116 0 0 0 0 rl_110 rl_111 rl_116 rl_0 rl_0 rl_0 rl_0) (va_cwS 7 hts (gS tw_1325 tw_1326 tw_15 tw_1327) rfl rfl rfl (by decide +kernel) ⟨Nat.le_of_ble_eq_true rfl, Nat.le_of_ble_eq_true rfl⟩) (tg_preS hw hK hSD hA) rfl rfl hl.1 rfl (lv_room (Nat.le_of_ble_eq_true rfl)) dX10_wordOf_416 ⟨Nat.le_of_ble_eq_true rfl, Nat.le_of_ble_eq_true rfl⟩) hw hA (fun v_20  H locs hp_v_20 hw => ?_)
      obtain ⟨hfn, hp_v_20⟩ := hp_v_20
      have q_v_20 : (f_X10_spelt__36 (110 : Int32) (111 : Int32) (116 : Int32) (0 : Int32) (0 : Int32) (0 : Int32) (0 : Int32)) = v_20 := hfn.1
      have r_v_20 : RJ v_20 10631 10631 := hp_v_20
      simp only [f_X10_wordOf__7, ↓reduceIte, eq_false cl_1, eq_false n_1_0, eq_false n_1_1, eq_false n_1_2, eq_false n_1_3, eq_false n_1_4, eq_false n_1_5, eq_false n_1_6, eq_false n_1_7, eq_false n_1_8, eq_false n_1_9, eq_false n_1_10, eq_false n_1_11, eq_false n_1_12, eq_false n_1_13, eq_false n_1_14, eq_false n_1_15, eq_false n_1_16, eq_false n_1_17, eq_true h_1, q_v_20] at hE
      subst hQ
      exact W.lret (v := v_20) hx hb hr (fun t ht hW => ⟨⟨v_20, (), rfl, ⟨⟨(by rw [hR, ← hE]), trivial⟩, r_v_20.to (by decide)⟩, by rw [ht]; exact hw.2.1, va_K.moved hW.alike hK, hw.2.2.1⟩, hw.2.2.2.1.F ht⟩) hw.2.2.2.1.2.2 dX10_wordOf_419
    · refine lv_tableIn (tgt := 420) (off := 419) hx hb dX10_wordOf_1 (by omega) (by omega) (by rw [h_1]; rfl) (by decide) ?_
      have r_p0 : RI p0 19 19 := ⟨by omega, by omega⟩
      have n_1_0 : ¬ (p0.toInt = 0) := by omega
      have n_1_1 : ¬ (p0.toInt = 1) := by omega
      have n_1_2 : ¬ (p0.toInt = 2) := by omega
      have n_1_3 : ¬ (p0.toInt = 3) := by omega
      have n_1_4 : ¬ (p0.toInt = 4) := by omega
      have n_1_5 : ¬ (p0.toInt = 5) := by omega
      have n_1_6 : ¬ (p0.toInt = 6) := by omega
      have n_1_7 : ¬ (p0.toInt = 7) := by omega
      have n_1_8 : ¬ (p0.toInt = 8) := by omega
      have n_1_9 : ¬ (p0.toInt = 9) := by omega
      have n_1_10 : ¬ (p0.toInt = 10) := by omega
      have n_1_11 : ¬ (p0.toInt = 11) := by omega
      have n_1_12 : ¬ (p0.toInt = 12) := by omega
      have n_1_13 : ¬ (p0.toInt = 13) := by omega
      have n_1_14 : ¬ (p0.toInt = 14) := by omega
      have n_1_15 : ¬ (p0.toInt = 15) := by omega
      have n_1_16 : ¬ (p0.toInt = 16) := by omega
      have n_1_17 : ¬ (p0.toInt = 17) := by omega
      have n_1_18 : ¬ (p0.toInt = 18) := by omega
      refine lv_bipush (v := 111) hx hb dX10_wordOf_420 (by decide) ?_
      refine lv_bipush (v := 112) hx hb dX10_wordOf_422 (by decide) ?_
      refine lv_bipush (v := 101) hx hb dX10_wordOf_424 (by decide) ?_
      refine lv_bipush (v := 110) hx hb dX10_wordOf_426 (by decide) ?_
      refine lv_bipush (v := 101) hx hb dX10_wordOf_428 (by decide) ?_
      refine lv_bipush (v := 100) hx hb dX10_wordOf_430 (by decide) ?_
      refine lv_iconst (v := 0) hx hb dX10_wordOf_432 (by decide) ?_
      refine tk_lr (va_runS (As := [.int 111, .int 112, .int 101, .int 110, .int 101, .int 100, .int 0]) (rest := []) ⟨hx, hb, hml, hown, hts⟩ (c_X10_spelt__50 l D cy z s.heap.size Ps w0 hw.1 111 112 101 110 101 100 0 rl_111 rl_112 rl_101 rl_110 rl_101 rl_100 rl_0) (va_cwS 7 hts (gS tw_1325 tw_1326 tw_15 tw_1327) rfl rfl rfl (by decide +kernel) ⟨Nat.le_of_ble_eq_true rfl, Nat.le_of_ble_eq_true rfl⟩) (tg_preS hw hK hSD hA) rfl rfl hl.1 rfl (lv_room (Nat.le_of_ble_eq_true rfl)) dX10_wordOf_433 ⟨Nat.le_of_ble_eq_true rfl, Nat.le_of_ble_eq_true rfl⟩) hw hA (fun v_21  H locs hp_v_21 hw => ?_)
      obtain ⟨hfn, hp_v_21⟩ := hp_v_21
      have q_v_21 : (f_X10_spelt__30 (111 : Int32) (112 : Int32) (101 : Int32) (110 : Int32) (101 : Int32) (100 : Int32) (0 : Int32)) = v_21 := hfn.1
      have r_v_21 : RJ v_21 223845421 223845421 := hp_v_21
      simp only [f_X10_wordOf__7, ↓reduceIte, eq_false cl_1, eq_false n_1_0, eq_false n_1_1, eq_false n_1_2, eq_false n_1_3, eq_false n_1_4, eq_false n_1_5, eq_false n_1_6, eq_false n_1_7, eq_false n_1_8, eq_false n_1_9, eq_false n_1_10, eq_false n_1_11, eq_false n_1_12, eq_false n_1_13, eq_false n_1_14, eq_false n_1_15, eq_false n_1_16, eq_false n_1_17, eq_false n_1_18, eq_true h_1, q_v_21] at hE
      subst hQ
      exact W.lret (v := v_21) hx hb hr (fun t ht hW => ⟨⟨v_21, (), rfl, ⟨⟨(by rw [hR, ← hE]), trivial⟩, r_v_21.to (by decide)⟩, by rw [ht]; exact hw.2.1, va_K.moved hW.alike hK, hw.2.2.1⟩, hw.2.2.2.1.F ht⟩) hw.2.2.2.1.2.2 dX10_wordOf_436
    · refine lv_tableIn (tgt := 437) (off := 436) hx hb dX10_wordOf_1 (by omega) (by omega) (by rw [h_1]; rfl) (by decide) ?_
      have r_p0 : RI p0 20 20 := ⟨by omega, by omega⟩
      have n_1_0 : ¬ (p0.toInt = 0) := by omega
      have n_1_1 : ¬ (p0.toInt = 1) := by omega
      have n_1_2 : ¬ (p0.toInt = 2) := by omega
      have n_1_3 : ¬ (p0.toInt = 3) := by omega
      have n_1_4 : ¬ (p0.toInt = 4) := by omega
      have n_1_5 : ¬ (p0.toInt = 5) := by omega
      have n_1_6 : ¬ (p0.toInt = 6) := by omega
      have n_1_7 : ¬ (p0.toInt = 7) := by omega
      have n_1_8 : ¬ (p0.toInt = 8) := by omega
      have n_1_9 : ¬ (p0.toInt = 9) := by omega
      have n_1_10 : ¬ (p0.toInt = 10) := by omega
      have n_1_11 : ¬ (p0.toInt = 11) := by omega
      have n_1_12 : ¬ (p0.toInt = 12) := by omega
      have n_1_13 : ¬ (p0.toInt = 13) := by omega
      have n_1_14 : ¬ (p0.toInt = 14) := by omega
      have n_1_15 : ¬ (p0.toInt = 15) := by omega
      have n_1_16 : ¬ (p0.toInt = 16) := by omega
      have n_1_17 : ¬ (p0.toInt = 17) := by omega
      have n_1_18 : ¬ (p0.toInt = 18) := by omega
      have n_1_19 : ¬ (p0.toInt = 19) := by omega
      refine lv_bipush (v := 110) hx hb dX10_wordOf_437 (by decide) ?_
      refine lv_bipush (v := 111) hx hb dX10_wordOf_439 (by decide) ?_
      refine lv_bipush (v := 116) hx hb dX10_wordOf_441 (by decide) ?_
      refine lv_bipush (v := 104) hx hb dX10_wordOf_443 (by decide) ?_
      refine lv_bipush (v := 105) hx hb dX10_wordOf_445 (by decide) ?_
      refine lv_bipush (v := 110) hx hb dX10_wordOf_447 (by decide) ?_
      refine lv_bipush (v := 103) hx hb dX10_wordOf_449 (by decide) ?_
      refine tk_lr (va_runS (As := [.int 110, .int 111, .int 116, .int 104, .int 105, .int 110, .int 103]) (rest := []) ⟨hx, hb, hml, hown, hts⟩ (c_X10_spelt__51 l D cy z s.heap.size Ps w0 hw.1 110 111 116 104 105 110 103 rl_110 rl_111 rl_116 rl_104 rl_105 rl_110 rl_103) (va_cwS 7 hts (gS tw_1325 tw_1326 tw_15 tw_1327) rfl rfl rfl (by decide +kernel) ⟨Nat.le_of_ble_eq_true rfl, Nat.le_of_ble_eq_true rfl⟩) (tg_preS hw hK hSD hA) rfl rfl hl.1 rfl (lv_room (Nat.le_of_ble_eq_true rfl)) dX10_wordOf_451 ⟨Nat.le_of_ble_eq_true rfl, Nat.le_of_ble_eq_true rfl⟩) hw hA (fun v_22  H locs hp_v_22 hw => ?_)
      obtain ⟨hfn, hp_v_22⟩ := hp_v_22
      have q_v_22 : (f_X10_spelt__37 (110 : Int32) (111 : Int32) (116 : Int32) (104 : Int32) (105 : Int32) (110 : Int32) (103 : Int32)) = v_22 := hfn.1
      have r_v_22 : RJ v_22 5649913681 5649913681 := hp_v_22
      simp only [f_X10_wordOf__7, ↓reduceIte, eq_false cl_1, eq_false n_1_0, eq_false n_1_1, eq_false n_1_2, eq_false n_1_3, eq_false n_1_4, eq_false n_1_5, eq_false n_1_6, eq_false n_1_7, eq_false n_1_8, eq_false n_1_9, eq_false n_1_10, eq_false n_1_11, eq_false n_1_12, eq_false n_1_13, eq_false n_1_14, eq_false n_1_15, eq_false n_1_16, eq_false n_1_17, eq_false n_1_18, eq_false n_1_19, eq_true h_1, q_v_22] at hE
      subst hQ
      exact W.lret (v := v_22) hx hb hr (fun t ht hW => ⟨⟨v_22, (), rfl, ⟨⟨(by rw [hR, ← hE]), trivial⟩, r_v_22.to (by decide)⟩, by rw [ht]; exact hw.2.1, va_K.moved hW.alike hK, hw.2.2.1⟩, hw.2.2.2.1.F ht⟩) hw.2.2.2.1.2.2 dX10_wordOf_454
    · refine lv_tableIn (tgt := 455) (off := 454) hx hb dX10_wordOf_1 (by omega) (by omega) (by rw [h_1]; rfl) (by decide) ?_
      have r_p0 : RI p0 21 21 := ⟨by omega, by omega⟩
      have n_1_0 : ¬ (p0.toInt = 0) := by omega
      have n_1_1 : ¬ (p0.toInt = 1) := by omega
      have n_1_2 : ¬ (p0.toInt = 2) := by omega
      have n_1_3 : ¬ (p0.toInt = 3) := by omega
      have n_1_4 : ¬ (p0.toInt = 4) := by omega
      have n_1_5 : ¬ (p0.toInt = 5) := by omega
      have n_1_6 : ¬ (p0.toInt = 6) := by omega
      have n_1_7 : ¬ (p0.toInt = 7) := by omega
      have n_1_8 : ¬ (p0.toInt = 8) := by omega
      have n_1_9 : ¬ (p0.toInt = 9) := by omega
      have n_1_10 : ¬ (p0.toInt = 10) := by omega
      have n_1_11 : ¬ (p0.toInt = 11) := by omega
      have n_1_12 : ¬ (p0.toInt = 12) := by omega
      have n_1_13 : ¬ (p0.toInt = 13) := by omega
      have n_1_14 : ¬ (p0.toInt = 14) := by omega
      have n_1_15 : ¬ (p0.toInt = 15) := by omega
      have n_1_16 : ¬ (p0.toInt = 16) := by omega
      have n_1_17 : ¬ (p0.toInt = 17) := by omega
      have n_1_18 : ¬ (p0.toInt = 18) := by omega
      have n_1_19 : ¬ (p0.toInt = 19) := by omega
      have n_1_20 : ¬ (p0.toInt = 20) := by omega
      refine lv_bipush (v := 119) hx hb dX10_wordOf_455 (by decide) ?_
      refine lv_bipush (v := 97) hx hb dX10_wordOf_457 (by decide) ?_
      refine lv_bipush (v := 116) hx hb dX10_wordOf_459 (by decide) ?_
      refine lv_bipush (v := 99) hx hb dX10_wordOf_461 (by decide) ?_
      refine lv_bipush (v := 104) hx hb dX10_wordOf_463 (by decide) ?_
      refine lv_bipush (v := 101) hx hb dX10_wordOf_465 (by decide) ?_
      refine lv_bipush (v := 100) hx hb dX10_wordOf_467 (by decide) ?_
      refine tk_lr (va_runS (As := [.int 119, .int 97, .int 116, .int 99, .int 104, .int 101, .int 100]) (rest := []) ⟨hx, hb, hml, hown, hts⟩ (c_X10_spelt__52 l D cy z s.heap.size Ps w0 hw.1 119 97 116 99 104 101 100 rl_119 rl_97 rl_116 rl_99 rl_104 rl_101 rl_100) (va_cwS 7 hts (gS tw_1325 tw_1326 tw_15 tw_1327) rfl rfl rfl (by decide +kernel) ⟨Nat.le_of_ble_eq_true rfl, Nat.le_of_ble_eq_true rfl⟩) (tg_preS hw hK hSD hA) rfl rfl hl.1 rfl (lv_room (Nat.le_of_ble_eq_true rfl)) dX10_wordOf_469 ⟨Nat.le_of_ble_eq_true rfl, Nat.le_of_ble_eq_true rfl⟩) hw hA (fun v_23  H locs hp_v_23 hw => ?_)
      obtain ⟨hfn, hp_v_23⟩ := hp_v_23
      have q_v_23 : (f_X10_spelt__37 (119 : Int32) (97 : Int32) (116 : Int32) (99 : Int32) (104 : Int32) (101 : Int32) (100 : Int32)) = v_23 := hfn.1
      have r_v_23 : RJ v_23 8935713994 8935713994 := hp_v_23
      simp only [f_X10_wordOf__7, ↓reduceIte, eq_false cl_1, eq_false n_1_0, eq_false n_1_1, eq_false n_1_2, eq_false n_1_3, eq_false n_1_4, eq_false n_1_5, eq_false n_1_6, eq_false n_1_7, eq_false n_1_8, eq_false n_1_9, eq_false n_1_10, eq_false n_1_11, eq_false n_1_12, eq_false n_1_13, eq_false n_1_14, eq_false n_1_15, eq_false n_1_16, eq_false n_1_17, eq_false n_1_18, eq_false n_1_19, eq_false n_1_20, eq_true h_1, q_v_23] at hE
      subst hQ
      exact W.lret (v := v_23) hx hb hr (fun t ht hW => ⟨⟨v_23, (), rfl, ⟨⟨(by rw [hR, ← hE]), trivial⟩, r_v_23.to (by decide)⟩, by rw [ht]; exact hw.2.1, va_K.moved hW.alike hK, hw.2.2.1⟩, hw.2.2.2.1.F ht⟩) hw.2.2.2.1.2.2 dX10_wordOf_472
    · refine lv_tableIn (tgt := 473) (off := 472) hx hb dX10_wordOf_1 (by omega) (by omega) (by rw [h_1]; rfl) (by decide) ?_
      have r_p0 : RI p0 22 22 := ⟨by omega, by omega⟩
      have n_1_0 : ¬ (p0.toInt = 0) := by omega
      have n_1_1 : ¬ (p0.toInt = 1) := by omega
      have n_1_2 : ¬ (p0.toInt = 2) := by omega
      have n_1_3 : ¬ (p0.toInt = 3) := by omega
      have n_1_4 : ¬ (p0.toInt = 4) := by omega
      have n_1_5 : ¬ (p0.toInt = 5) := by omega
      have n_1_6 : ¬ (p0.toInt = 6) := by omega
      have n_1_7 : ¬ (p0.toInt = 7) := by omega
      have n_1_8 : ¬ (p0.toInt = 8) := by omega
      have n_1_9 : ¬ (p0.toInt = 9) := by omega
      have n_1_10 : ¬ (p0.toInt = 10) := by omega
      have n_1_11 : ¬ (p0.toInt = 11) := by omega
      have n_1_12 : ¬ (p0.toInt = 12) := by omega
      have n_1_13 : ¬ (p0.toInt = 13) := by omega
      have n_1_14 : ¬ (p0.toInt = 14) := by omega
      have n_1_15 : ¬ (p0.toInt = 15) := by omega
      have n_1_16 : ¬ (p0.toInt = 16) := by omega
      have n_1_17 : ¬ (p0.toInt = 17) := by omega
      have n_1_18 : ¬ (p0.toInt = 18) := by omega
      have n_1_19 : ¬ (p0.toInt = 19) := by omega
      have n_1_20 : ¬ (p0.toInt = 20) := by omega
      have n_1_21 : ¬ (p0.toInt = 21) := by omega
      refine lv_bipush (v := 105) hx hb dX10_wordOf_473 (by decide) ?_
      refine lv_bipush (v := 115) hx hb dX10_wordOf_475 (by decide) ?_
      refine lv_iconst (v := 0) hx hb dX10_wordOf_477 (by decide) ?_
      refine lv_iconst (v := 0) hx hb dX10_wordOf_478 (by decide) ?_
      refine lv_iconst (v := 0) hx hb dX10_wordOf_479 (by decide) ?_
      refine lv_iconst (v := 0) hx hb dX10_wordOf_480 (by decide) ?_
      refine lv_iconst (v := 0) hx hb dX10_wordOf_481 (by decide) ?_
      refine tk_lr (va_runS (As := [.int 105, .int 115, .int 0, .int 0, .int 0, .int 0, .int 0]) (rest := []) ⟨hx, hb, hml, hown, hts⟩ (c_X10_spelt__53 l D cy z s.heap.size Ps w0 hw.1 105 115 0 0 0 0 0 rl_105 rl_115 rl_0 rl_0 rl_0 rl_0 rl_0) (va_cwS 7 hts (gS tw_1325 tw_1326 tw_15 tw_1327) rfl rfl rfl (by decide +kernel) ⟨Nat.le_of_ble_eq_true rfl, Nat.le_of_ble_eq_true rfl⟩) (tg_preS hw hK hSD hA) rfl rfl hl.1 rfl (lv_room (Nat.le_of_ble_eq_true rfl)) dX10_wordOf_482 ⟨Nat.le_of_ble_eq_true rfl, Nat.le_of_ble_eq_true rfl⟩) hw hA (fun v_24  H locs hp_v_24 hw => ?_)
      obtain ⟨hfn, hp_v_24⟩ := hp_v_24
      have q_v_24 : (f_X10_spelt__47 (105 : Int32) (115 : Int32) (0 : Int32) (0 : Int32) (0 : Int32) (0 : Int32) (0 : Int32)) = v_24 := hfn.1
      have r_v_24 : RJ v_24 262 262 := hp_v_24
      simp only [f_X10_wordOf__7, ↓reduceIte, eq_false cl_1, eq_false n_1_0, eq_false n_1_1, eq_false n_1_2, eq_false n_1_3, eq_false n_1_4, eq_false n_1_5, eq_false n_1_6, eq_false n_1_7, eq_false n_1_8, eq_false n_1_9, eq_false n_1_10, eq_false n_1_11, eq_false n_1_12, eq_false n_1_13, eq_false n_1_14, eq_false n_1_15, eq_false n_1_16, eq_false n_1_17, eq_false n_1_18, eq_false n_1_19, eq_false n_1_20, eq_false n_1_21, eq_true h_1, q_v_24] at hE
      subst hQ
      exact W.lret (v := v_24) hx hb hr (fun t ht hW => ⟨⟨v_24, (), rfl, ⟨⟨(by rw [hR, ← hE]), trivial⟩, r_v_24.to (by decide)⟩, by rw [ht]; exact hw.2.1, va_K.moved hW.alike hK, hw.2.2.1⟩, hw.2.2.2.1.F ht⟩) hw.2.2.2.1.2.2 dX10_wordOf_485
    · refine lv_tableIn (tgt := 486) (off := 485) hx hb dX10_wordOf_1 (by omega) (by omega) (by rw [h_1]; rfl) (by decide) ?_
      have r_p0 : RI p0 23 23 := ⟨by omega, by omega⟩
      have n_1_0 : ¬ (p0.toInt = 0) := by omega
      have n_1_1 : ¬ (p0.toInt = 1) := by omega
      have n_1_2 : ¬ (p0.toInt = 2) := by omega
      have n_1_3 : ¬ (p0.toInt = 3) := by omega
      have n_1_4 : ¬ (p0.toInt = 4) := by omega
      have n_1_5 : ¬ (p0.toInt = 5) := by omega
      have n_1_6 : ¬ (p0.toInt = 6) := by omega
      have n_1_7 : ¬ (p0.toInt = 7) := by omega
      have n_1_8 : ¬ (p0.toInt = 8) := by omega
      have n_1_9 : ¬ (p0.toInt = 9) := by omega
      have n_1_10 : ¬ (p0.toInt = 10) := by omega
      have n_1_11 : ¬ (p0.toInt = 11) := by omega
      have n_1_12 : ¬ (p0.toInt = 12) := by omega
      have n_1_13 : ¬ (p0.toInt = 13) := by omega
      have n_1_14 : ¬ (p0.toInt = 14) := by omega
      have n_1_15 : ¬ (p0.toInt = 15) := by omega
      have n_1_16 : ¬ (p0.toInt = 16) := by omega
      have n_1_17 : ¬ (p0.toInt = 17) := by omega
      have n_1_18 : ¬ (p0.toInt = 18) := by omega
      have n_1_19 : ¬ (p0.toInt = 19) := by omega
      have n_1_20 : ¬ (p0.toInt = 20) := by omega
      have n_1_21 : ¬ (p0.toInt = 21) := by omega
      have n_1_22 : ¬ (p0.toInt = 22) := by omega
      refine lv_bipush (v := 105) hx hb dX10_wordOf_486 (by decide) ?_
      refine lv_bipush (v := 110) hx hb dX10_wordOf_488 (by decide) ?_
      refine lv_iconst (v := 0) hx hb dX10_wordOf_490 (by decide) ?_
      refine lv_iconst (v := 0) hx hb dX10_wordOf_491 (by decide) ?_
      refine lv_iconst (v := 0) hx hb dX10_wordOf_492 (by decide) ?_
      refine lv_iconst (v := 0) hx hb dX10_wordOf_493 (by decide) ?_
      refine lv_iconst (v := 0) hx hb dX10_wordOf_494 (by decide) ?_
      refine tk_lr (va_runS (As := [.int 105, .int 110, .int 0, .int 0, .int 0, .int 0, .int 0]) (rest := []) ⟨hx, hb, hml, hown, hts⟩ (c_X10_spelt__54 l D cy z s.heap.size Ps w0 hw.1 105 110 0 0 0 0 0 rl_105 rl_110 rl_0 rl_0 rl_0 rl_0 rl_0) (va_cwS 7 hts (gS tw_1325 tw_1326 tw_15 tw_1327) rfl rfl rfl (by decide +kernel) ⟨Nat.le_of_ble_eq_true rfl, Nat.le_of_ble_eq_true rfl⟩) (tg_preS hw hK hSD hA) rfl rfl hl.1 rfl (lv_room (Nat.le_of_ble_eq_true rfl)) dX10_wordOf_495 ⟨Nat.le_of_ble_eq_true rfl, Nat.le_of_ble_eq_true rfl⟩) hw hA (fun v_25  H locs hp_v_25 hw => ?_)
      obtain ⟨hfn, hp_v_25⟩ := hp_v_25
      have q_v_25 : (f_X10_spelt__47 (105 : Int32) (110 : Int32) (0 : Int32) (0 : Int32) (0 : Int32) (0 : Int32) (0 : Int32)) = v_25 := hfn.1
      have r_v_25 : RJ v_25 257 257 := hp_v_25
      simp only [f_X10_wordOf__7, ↓reduceIte, eq_false cl_1, eq_false n_1_0, eq_false n_1_1, eq_false n_1_2, eq_false n_1_3, eq_false n_1_4, eq_false n_1_5, eq_false n_1_6, eq_false n_1_7, eq_false n_1_8, eq_false n_1_9, eq_false n_1_10, eq_false n_1_11, eq_false n_1_12, eq_false n_1_13, eq_false n_1_14, eq_false n_1_15, eq_false n_1_16, eq_false n_1_17, eq_false n_1_18, eq_false n_1_19, eq_false n_1_20, eq_false n_1_21, eq_false n_1_22, eq_true h_1, q_v_25] at hE
      subst hQ
      exact W.lret (v := v_25) hx hb hr (fun t ht hW => ⟨⟨v_25, (), rfl, ⟨⟨(by rw [hR, ← hE]), trivial⟩, r_v_25.to (by decide)⟩, by rw [ht]; exact hw.2.1, va_K.moved hW.alike hK, hw.2.2.1⟩, hw.2.2.2.1.F ht⟩) hw.2.2.2.1.2.2 dX10_wordOf_498
    · refine lv_tableIn (tgt := 499) (off := 498) hx hb dX10_wordOf_1 (by omega) (by omega) (by rw [h_1]; rfl) (by decide) ?_
      have r_p0 : RI p0 24 24 := ⟨by omega, by omega⟩
      have n_1_0 : ¬ (p0.toInt = 0) := by omega
      have n_1_1 : ¬ (p0.toInt = 1) := by omega
      have n_1_2 : ¬ (p0.toInt = 2) := by omega
      have n_1_3 : ¬ (p0.toInt = 3) := by omega
      have n_1_4 : ¬ (p0.toInt = 4) := by omega
      have n_1_5 : ¬ (p0.toInt = 5) := by omega
      have n_1_6 : ¬ (p0.toInt = 6) := by omega
      have n_1_7 : ¬ (p0.toInt = 7) := by omega
      have n_1_8 : ¬ (p0.toInt = 8) := by omega
      have n_1_9 : ¬ (p0.toInt = 9) := by omega
      have n_1_10 : ¬ (p0.toInt = 10) := by omega
      have n_1_11 : ¬ (p0.toInt = 11) := by omega
      have n_1_12 : ¬ (p0.toInt = 12) := by omega
      have n_1_13 : ¬ (p0.toInt = 13) := by omega
      have n_1_14 : ¬ (p0.toInt = 14) := by omega
      have n_1_15 : ¬ (p0.toInt = 15) := by omega
      have n_1_16 : ¬ (p0.toInt = 16) := by omega
      have n_1_17 : ¬ (p0.toInt = 17) := by omega
      have n_1_18 : ¬ (p0.toInt = 18) := by omega
      have n_1_19 : ¬ (p0.toInt = 19) := by omega
      have n_1_20 : ¬ (p0.toInt = 20) := by omega
      have n_1_21 : ¬ (p0.toInt = 21) := by omega
      have n_1_22 : ¬ (p0.toInt = 22) := by omega
      have n_1_23 : ¬ (p0.toInt = 23) := by omega
      refine lv_bipush (v := 115) hx hb dX10_wordOf_499 (by decide) ?_
      refine lv_bipush (v := 105) hx hb dX10_wordOf_501 (by decide) ?_
      refine lv_bipush (v := 122) hx hb dX10_wordOf_503 (by decide) ?_
      refine lv_bipush (v := 101) hx hb dX10_wordOf_505 (by decide) ?_
      refine lv_iconst (v := 0) hx hb dX10_wordOf_507 (by decide) ?_
      refine lv_iconst (v := 0) hx hb dX10_wordOf_508 (by decide) ?_
      refine lv_iconst (v := 0) hx hb dX10_wordOf_509 (by decide) ?_
      refine tk_lr (va_runS (As := [.int 115, .int 105, .int 122, .int 101, .int 0, .int 0, .int 0]) (rest := []) ⟨hx, hb, hml, hown, hts⟩ (c_X10_spelt__55 l D cy z s.heap.size Ps w0 hw.1 115 105 122 101 0 0 0 rl_115 rl_105 rl_122 rl_101 rl_0 rl_0 rl_0) (va_cwS 7 hts (gS tw_1325 tw_1326 tw_15 tw_1327) rfl rfl rfl (by decide +kernel) ⟨Nat.le_of_ble_eq_true rfl, Nat.le_of_ble_eq_true rfl⟩) (tg_preS hw hK hSD hA) rfl rfl hl.1 rfl (lv_room (Nat.le_of_ble_eq_true rfl)) dX10_wordOf_510 ⟨Nat.le_of_ble_eq_true rfl, Nat.le_of_ble_eq_true rfl⟩) hw hA (fun v_26  H locs hp_v_26 hw => ?_)
      obtain ⟨hfn, hp_v_26⟩ := hp_v_26
      have q_v_26 : (f_X10_spelt__31 (115 : Int32) (105 : Int32) (122 : Int32) (101 : Int32) (0 : Int32) (0 : Int32) (0 : Int32)) = v_26 := hfn.1
      have r_v_26 : RJ v_26 381245 381245 := hp_v_26
      simp only [f_X10_wordOf__7, ↓reduceIte, eq_false cl_1, eq_false n_1_0, eq_false n_1_1, eq_false n_1_2, eq_false n_1_3, eq_false n_1_4, eq_false n_1_5, eq_false n_1_6, eq_false n_1_7, eq_false n_1_8, eq_false n_1_9, eq_false n_1_10, eq_false n_1_11, eq_false n_1_12, eq_false n_1_13, eq_false n_1_14, eq_false n_1_15, eq_false n_1_16, eq_false n_1_17, eq_false n_1_18, eq_false n_1_19, eq_false n_1_20, eq_false n_1_21, eq_false n_1_22, eq_false n_1_23, eq_true h_1, q_v_26] at hE
      subst hQ
      exact W.lret (v := v_26) hx hb hr (fun t ht hW => ⟨⟨v_26, (), rfl, ⟨⟨(by rw [hR, ← hE]), trivial⟩, r_v_26.to (by decide)⟩, by rw [ht]; exact hw.2.1, va_K.moved hW.alike hK, hw.2.2.1⟩, hw.2.2.2.1.F ht⟩) hw.2.2.2.1.2.2 dX10_wordOf_513
    · refine lv_tableIn (tgt := 514) (off := 513) hx hb dX10_wordOf_1 (by omega) (by omega) (by rw [h_1]; rfl) (by decide) ?_
      have r_p0 : RI p0 25 25 := ⟨by omega, by omega⟩
      have n_1_0 : ¬ (p0.toInt = 0) := by omega
      have n_1_1 : ¬ (p0.toInt = 1) := by omega
      have n_1_2 : ¬ (p0.toInt = 2) := by omega
      have n_1_3 : ¬ (p0.toInt = 3) := by omega
      have n_1_4 : ¬ (p0.toInt = 4) := by omega
      have n_1_5 : ¬ (p0.toInt = 5) := by omega
      have n_1_6 : ¬ (p0.toInt = 6) := by omega
      have n_1_7 : ¬ (p0.toInt = 7) := by omega
      have n_1_8 : ¬ (p0.toInt = 8) := by omega
      have n_1_9 : ¬ (p0.toInt = 9) := by omega
      have n_1_10 : ¬ (p0.toInt = 10) := by omega
      have n_1_11 : ¬ (p0.toInt = 11) := by omega
      have n_1_12 : ¬ (p0.toInt = 12) := by omega
      have n_1_13 : ¬ (p0.toInt = 13) := by omega
      have n_1_14 : ¬ (p0.toInt = 14) := by omega
      have n_1_15 : ¬ (p0.toInt = 15) := by omega
      have n_1_16 : ¬ (p0.toInt = 16) := by omega
      have n_1_17 : ¬ (p0.toInt = 17) := by omega
      have n_1_18 : ¬ (p0.toInt = 18) := by omega
      have n_1_19 : ¬ (p0.toInt = 19) := by omega
      have n_1_20 : ¬ (p0.toInt = 20) := by omega
      have n_1_21 : ¬ (p0.toInt = 21) := by omega
      have n_1_22 : ¬ (p0.toInt = 22) := by omega
      have n_1_23 : ¬ (p0.toInt = 23) := by omega
      have n_1_24 : ¬ (p0.toInt = 24) := by omega
      refine lv_bipush (v := 98) hx hb dX10_wordOf_514 (by decide) ?_
      refine lv_bipush (v := 117) hx hb dX10_wordOf_516 (by decide) ?_
      refine lv_bipush (v := 108) hx hb dX10_wordOf_518 (by decide) ?_
      refine lv_bipush (v := 103) hx hb dX10_wordOf_520 (by decide) ?_
      refine lv_bipush (v := 101) hx hb dX10_wordOf_522 (by decide) ?_
      refine lv_iconst (v := 0) hx hb dX10_wordOf_524 (by decide) ?_
      refine lv_iconst (v := 0) hx hb dX10_wordOf_525 (by decide) ?_
      refine tk_lr (va_runS (As := [.int 98, .int 117, .int 108, .int 103, .int 101, .int 0, .int 0]) (rest := []) ⟨hx, hb, hml, hown, hts⟩ (c_X10_spelt__56 l D cy z s.heap.size Ps w0 hw.1 98 117 108 103 101 0 0 rl_98 rl_117 rl_108 rl_103 rl_101 rl_0 rl_0) (va_cwS 7 hts (gS tw_1325 tw_1326 tw_15 tw_1327) rfl rfl rfl (by decide +kernel) ⟨Nat.le_of_ble_eq_true rfl, Nat.le_of_ble_eq_true rfl⟩) (tg_preS hw hK hSD hA) rfl rfl hl.1 rfl (lv_room (Nat.le_of_ble_eq_true rfl)) dX10_wordOf_526 ⟨Nat.le_of_ble_eq_true rfl, Nat.le_of_ble_eq_true rfl⟩) hw hA (fun v_27  H locs hp_v_27 hw => ?_)
      obtain ⟨hfn, hp_v_27⟩ := hp_v_27
      have q_v_27 : (f_X10_spelt__39 (98 : Int32) (117 : Int32) (108 : Int32) (103 : Int32) (101 : Int32) (0 : Int32) (0 : Int32)) = v_27 := hfn.1
      have r_v_27 : RJ v_27 1485167 1485167 := hp_v_27
      simp only [f_X10_wordOf__7, ↓reduceIte, eq_false cl_1, eq_false n_1_0, eq_false n_1_1, eq_false n_1_2, eq_false n_1_3, eq_false n_1_4, eq_false n_1_5, eq_false n_1_6, eq_false n_1_7, eq_false n_1_8, eq_false n_1_9, eq_false n_1_10, eq_false n_1_11, eq_false n_1_12, eq_false n_1_13, eq_false n_1_14, eq_false n_1_15, eq_false n_1_16, eq_false n_1_17, eq_false n_1_18, eq_false n_1_19, eq_false n_1_20, eq_false n_1_21, eq_false n_1_22, eq_false n_1_23, eq_false n_1_24, eq_true h_1, q_v_27] at hE
      subst hQ
      exact W.lret (v := v_27) hx hb hr (fun t ht hW => ⟨⟨v_27, (), rfl, ⟨⟨(by rw [hR, ← hE]), trivial⟩, r_v_27.to (by decide)⟩, by rw [ht]; exact hw.2.1, va_K.moved hW.alike hK, hw.2.2.1⟩, hw.2.2.2.1.F ht⟩) hw.2.2.2.1.2.2 dX10_wordOf_529
    · refine lv_tableIn (tgt := 530) (off := 529) hx hb dX10_wordOf_1 (by omega) (by omega) (by rw [h_1]; rfl) (by decide) ?_
      have r_p0 : RI p0 26 26 := ⟨by omega, by omega⟩
      have n_1_0 : ¬ (p0.toInt = 0) := by omega
      have n_1_1 : ¬ (p0.toInt = 1) := by omega
      have n_1_2 : ¬ (p0.toInt = 2) := by omega
      have n_1_3 : ¬ (p0.toInt = 3) := by omega
      have n_1_4 : ¬ (p0.toInt = 4) := by omega
      have n_1_5 : ¬ (p0.toInt = 5) := by omega
      have n_1_6 : ¬ (p0.toInt = 6) := by omega
      have n_1_7 : ¬ (p0.toInt = 7) := by omega
      have n_1_8 : ¬ (p0.toInt = 8) := by omega
      have n_1_9 : ¬ (p0.toInt = 9) := by omega
      have n_1_10 : ¬ (p0.toInt = 10) := by omega
      have n_1_11 : ¬ (p0.toInt = 11) := by omega
      have n_1_12 : ¬ (p0.toInt = 12) := by omega
      have n_1_13 : ¬ (p0.toInt = 13) := by omega
      have n_1_14 : ¬ (p0.toInt = 14) := by omega
      have n_1_15 : ¬ (p0.toInt = 15) := by omega
      have n_1_16 : ¬ (p0.toInt = 16) := by omega
      have n_1_17 : ¬ (p0.toInt = 17) := by omega
      have n_1_18 : ¬ (p0.toInt = 18) := by omega
      have n_1_19 : ¬ (p0.toInt = 19) := by omega
      have n_1_20 : ¬ (p0.toInt = 20) := by omega
      have n_1_21 : ¬ (p0.toInt = 21) := by omega
      have n_1_22 : ¬ (p0.toInt = 22) := by omega
      have n_1_23 : ¬ (p0.toInt = 23) := by omega
      have n_1_24 : ¬ (p0.toInt = 24) := by omega
      have n_1_25 : ¬ (p0.toInt = 25) := by omega
      refine lv_bipush (v := 116) hx hb dX10_wordOf_530 (by decide) ?_
      refine lv_bipush (v := 117) hx hb dX10_wordOf_532 (by decide) ?_
      refine lv_bipush (v := 114) hx hb dX10_wordOf_534 (by decide) ?_
      refine lv_bipush (v := 110) hx hb dX10_wordOf_536 (by decide) ?_
      refine lv_bipush (v := 101) hx hb dX10_wordOf_538 (by decide) ?_
      refine lv_bipush (v := 100) hx hb dX10_wordOf_540 (by decide) ?_
      refine lv_iconst (v := 0) hx hb dX10_wordOf_542 (by decide) ?_
      refine tk_lr (va_runS (As := [.int 116, .int 117, .int 114, .int 110, .int 101, .int 100, .int 0]) (rest := []) ⟨hx, hb, hml, hown, hts⟩ (c_X10_spelt__57 l D cy z s.heap.size Ps w0 hw.1 116 117 114 110 101 100 0 rl_116 rl_117 rl_114 rl_110 rl_101 rl_100 rl_0) (va_cwS 7 hts (gS tw_1325 tw_1326 tw_15 tw_1327) rfl rfl rfl (by decide +kernel) ⟨Nat.le_of_ble_eq_true rfl, Nat.le_of_ble_eq_true rfl⟩) (tg_preS hw hK hSD hA) rfl rfl hl.1 rfl (lv_room (Nat.le_of_ble_eq_true rfl)) dX10_wordOf_543 ⟨Nat.le_of_ble_eq_true rfl, Nat.le_of_ble_eq_true rfl⟩) hw hA (fun v_28  H locs hp_v_28 hw => ?_)
      obtain ⟨hfn, hp_v_28⟩ := hp_v_28
      have q_v_28 : (f_X10_spelt__30 (116 : Int32) (117 : Int32) (114 : Int32) (110 : Int32) (101 : Int32) (100 : Int32) (0 : Int32)) = v_28 := hfn.1
      have r_v_28 : RJ v_28 298503040 298503040 := hp_v_28
      simp only [f_X10_wordOf__7, ↓reduceIte, eq_false cl_1, eq_false n_1_0, eq_false n_1_1, eq_false n_1_2, eq_false n_1_3, eq_false n_1_4, eq_false n_1_5, eq_false n_1_6, eq_false n_1_7, eq_false n_1_8, eq_false n_1_9, eq_false n_1_10, eq_false n_1_11, eq_false n_1_12, eq_false n_1_13, eq_false n_1_14, eq_false n_1_15, eq_false n_1_16, eq_false n_1_17, eq_false n_1_18, eq_false n_1_19, eq_false n_1_20, eq_false n_1_21, eq_false n_1_22, eq_false n_1_23, eq_false n_1_24, eq_false n_1_25, q_v_28] at hE
      subst hQ
      exact W.lret (v := v_28) hx hb hr (fun t ht hW => ⟨⟨v_28, (), rfl, ⟨⟨(by rw [hR, ← hE]), trivial⟩, r_v_28.to (by decide)⟩, by rw [ht]; exact hw.2.1, va_K.moved hW.alike hK, hw.2.2.1⟩, hw.2.2.2.1.F ht⟩) hw.2.2.2.1.2.2 dX10_wordOf_546
abbrev wr_X10_isName__1 : List (Nat × Nat) := []
abbrev wa_X10_isName__1 : List Nat := []
set_option maxHeartbeats 4000000 in
set_option maxRecDepth 100000 in
theorem c_X10_isName__1 (l : Launch) (D : va_G) (cy : Nat → ClassId) (z : Nat → Nat) (sz : Nat) (Ps : PSI) (w0 : va_W) (hT : HT cy GG Ps w0) (p0 : Nat) (s0 : OS) (h_p0 : (p0, 55) ∈ Ps) (o_p0 : OV vw_MODEL Ps w0 p0 s0) : Met l yX10_isName (Cond.code yX10_isName cX10_isName 2 (some .boolean) :: gT) ({ frames := 3, cells := 0, slots := 0, locals := 600 } : Room) (va_Pc [.ref p0] (PRE D cy z w0 sz)) (va_Qi (fun (r : Int32) (u : Unit) => ((f_X10_isName__1 s0) = r ∧ True) ∧ (RI r 0 1 ∧ (r = 0 → True) ∧ (¬ r = 0 → True))) (BB D cy (va_A w0 sz) (fun (u : Unit) => w0)) (va_A w0 sz)) 0 0 (va_A w0 sz) := by
  refine Met.ofW (cc := cX10_isName) (maxL := 2) (ret := (some .boolean)) (by decide) rfl ?_
  intro p e s m args below meth c s₁ B hml hv
  obtain ⟨rfl, hsz, hP, hK, hD0, hSD⟩ := hv
  have hx := B.exec
  have hb := B.bytes
  have hr := B.returns
  have hlocks := B.notSynchronized
  have hts : ∀ w ∈ gT, w.before _ s = true := fun w h => atoms_spec (ws := Cond.code yX10_isName cX10_isName 2 (some .boolean) :: gT) B.pre w (List.mem_cons_of_mem _ h)
  have hown : s.vm.findClass RX10 = some m.cls := findClass_of_methodNamed B.named
  subst hsz
  have hD := hD0.self (sz := s.heap.size)
  generalize hAe : va_A w0 s.heap.size = A at hD hSD ⊢
  have hA : ∀ q : Nat, s.heap.size ≤ q → A q := fun q h => by rw [← hAe]; exact Or.inr h
  have hl := lv_entry ([.ref p0]) (n := 2) (Nat.le_of_ble_eq_true rfl)
  rw [lg_entry_eq]
  generalize (lg_sl ([.ref p0]) ++ List.replicate (2 - (lg_sl ([.ref p0])).length) Slot.unset).toArray = ls at hl ⊢
  have hl : lv_has ls 2 [(0, .ref p0)] := hl
  refine nameQ (fun Q hQ => ?_)
  have hw : WD D cy GG A s wr_X10_isName__1 wa_X10_isName__1 Ps w0 Ps w0 s.heap [] := ⟨hT, hP, hD, va_S.rf, FR.rf, hT.1, [], (List.append_nil _).symm⟩
  obtain ⟨R9, hR⟩ : ∃ q9 : Int32, f_X10_isName__1 s0 = q9 := ⟨_, rfl⟩
  have hE := hR
  have B12 : ∀ (nf : Nat) (x1 : Int32) (z0_7 : Int32) (s0 : OS) (H : Heap) (locs : List Loc) (ls : Array Slot), 28 - x1.toInt < (nf : Int) → RI x1 0 28 → RI z0_7 2 2 → FLD w0 p0 10 7 (.int z0_7) → OV vw_MODEL Ps w0 p0 s0 → f_X10_isName__1_12 nf x1 s0 = R9 → WD D cy GG A s wr_X10_isName__1 wa_X10_isName__1 Ps w0 Ps w0 H locs → lv_has ls 2 [(0, .ref p0), (1, .int x1)] → W p l e (headSpec (Cond.code yX10_isName cX10_isName 2 (some .boolean) :: gT) ({ frames := 3, cells := 0, slots := 0, locals := 600 } : Room)).room s m ([.ref p0] : List Value).toArray below meth c H locs 0 0 Q (F0 m 12 ls []) := by
    intro nf12
    induction nf12 with
    | zero =>
      intro x1 z0_7 s0 H locs ls hn12 r_x1 r_z0_7 m_z0_7 o_p0 hE hw hl
      exact absurd hn12 (by have q0 := r_x1.1; have u0 := r_x1.2; omega)
    | succ nf12 ih12 =>
      intro x1 z0_7 s0 H locs ls hn12 r_x1 r_z0_7 m_z0_7 o_p0 hE hw hl
      have q_z0_7 : s0.1 7 = z0_7 := OV.eqI (V := vw_MODEL) hw.2.2.1 o_p0 m_z0_7 (by decide)
      refine lv_iload_n hx hb dX10_isName_12 rfl (lv_at hl 1 rfl) ?_
      refine lv_bipush (v := 27) hx hb dX10_isName_13 (by decide) ?_
      refine lv_icmp_gt (tgt := 38) hx hb dX10_isName_15 (by decide) (fun c_15 => ?_) (fun c_15 => ?_)
      · have r_x1 : RI x1 28 28 := rc_lt2 rl_27 r_x1 (ti_lt c_15) (by decide)
        refine lv_iconst (v := 1) hx hb dX10_isName_38 (by decide) ?_
        simp only [f_X10_isName__1_12, ↓reduceIte, q_z0_7, eq_true c_15] at hE
        subst hQ
        exact W.zret (v := 1) hx hb hr (rfl) (fun t ht hW => ⟨⟨1, (), rfl, ⟨⟨(by rw [hR, ← hE]), trivial⟩, rl_1.to (by decide), (fun _ => trivial), (fun h0 => trivial)⟩, by rw [ht]; exact hw.2.1, va_K.moved hW.alike hK, hw.2.2.1⟩, hw.2.2.2.1.F ht⟩) hw.2.2.2.1.2.2 dX10_isName_39
      · have r_x1 : RI x1 0 27 := rc_le1 r_x1 rl_27 (ti_nlt c_15) (by decide)
        refine lv_aload_n hx hb dX10_isName_18 rfl (lv_at hl 0 rfl) ?_
        refine tg_get (ci := 10) (ts := ty_MODEL) (C := RX10) (T := TX10) (N := 49) hx hb hts inX10 hown hK hw h_p0 rfl rfl 12 (by decide) (hts _ tw_1149) (fun _ h9 => h9) (ft := vJ (-9223372036854775808) 9223372036854775807) rfl dX10_isName_19 (fun u_1 hv_u_1 m_u_1 => ?_)
        obtain ⟨vu_1, rfl, r_vu_1⟩ := hv_u_1
        have q_vu_1 : s0.2.1 12 = vu_1 := OV.eqL (V := vw_MODEL) hw.2.2.1 o_p0 m_u_1 (by decide)
        refine lv_iload_n hx hb dX10_isName_22 rfl (lv_at hl 1 rfl) ?_
        refine tk_lr (va_runS (As := [.int x1]) (rest := [.long vu_1]) ⟨hx, hb, hml, hown, hts⟩ (c_X10_wordOf__8 l D cy z H.size Ps w0 hw.1 x1 r_x1) (va_cwS 1 hts (gS tw_1322 tw_1323 tw_15 tw_1324) rfl rfl rfl (by decide +kernel) ⟨Nat.le_of_ble_eq_true rfl, Nat.le_of_ble_eq_true rfl⟩) (tg_preS hw hK hSD hA) rfl rfl hl.1 rfl (lv_room (Nat.le_of_ble_eq_true rfl)) dX10_isName_23 ⟨Nat.le_of_ble_eq_true rfl, Nat.le_of_ble_eq_true rfl⟩) hw hA (fun v_2  H locs hp_v_2 hw => ?_)
        obtain ⟨hfn, hp_v_2⟩ := hp_v_2
        have q_v_2 : (f_X10_wordOf__7 x1) = v_2 := hfn.1
        have r_v_2 : RJ v_2 257 8935713994 := hp_v_2
        refine W.lcmp hx hb dX10_isName_26 (lv_topi (fun v_3 e_v_3 => ?_))
        have r_v_3 := ri_any v_3
        have q_v_3 : lg_cmp vu_1 v_2 = v_3 := e_v_3.symm
        refine lv_if_ne (tgt := 32) hx hb dX10_isName_27 (by decide) (fun c_27 => ?_) (fun c_27 => ?_)
        · obtain ⟨v_4, e_v_4⟩ : ∃ q9 : Int32, q9 = x1 + Int32.ofInt 1 := ⟨_, rfl⟩
          obtain ⟨t_v_4, r_v_4⟩ := tq_add (lo := 1) (hi := 28) r_x1 (show RI (Int32.ofInt 1) 1 1 by unfold RI; decide +kernel) (by decide +kernel) e_v_4
          have t_v_4 : v_4.toInt = x1.toInt + 1 := t_v_4
          refine lv_iinc (v := v_4) (lv' := [(1, .int v_4), (0, .ref p0)]) hx hb dX10_isName_32 hl (k := 1) rfl e_v_4.symm (by decide) rfl (fun ls hl => ?_)
          have q_v_4 : x1 + (1 : Int32) = v_4 := by rw [e_v_4, show Int32.ofInt 1 = (1 : Int32) by decide]
          refine lv_goto (tgt := 12) hx hb dX10_isName_35 (by decide) ?_
          simp only [f_X10_isName__1_12, ↓reduceIte, q_z0_7, eq_false c_15, q_vu_1, q_v_2, q_v_3, eq_false c_27, q_v_4] at hE
          exact ih12 v_4 z0_7 s0 _ _ ls (by have q0 := r_v_4.1; have u0 := r_v_4.2; have o0 := r_x1.1; have p0 := r_x1.2; omega) (r_v_4.to (by decide)) r_z0_7 m_z0_7 o_p0 hE hw (lv_sub hl [1, 0] rfl)
        · have r_v_3 : RI v_3 0 0 := rc_eq1 r_v_3 rl_0 (ti_eq c_27) (by decide)
          refine lv_iconst (v := 0) hx hb dX10_isName_30 (by decide) ?_
          simp only [f_X10_isName__1_12, ↓reduceIte, q_z0_7, eq_false c_15, q_vu_1, q_v_2, q_v_3, eq_true c_27] at hE
          subst hQ
          exact W.zret (v := 0) hx hb hr (rfl) (fun t ht hW => ⟨⟨0, (), rfl, ⟨⟨(by rw [hR, ← hE]), trivial⟩, rl_0.to (by decide), (fun h0 => trivial), (fun _ => trivial)⟩, by rw [ht]; exact hw.2.1, va_K.moved hW.alike hK, hw.2.2.1⟩, hw.2.2.2.1.F ht⟩) hw.2.2.2.1.2.2 dX10_isName_31
  refine lv_aload_n hx hb dX10_isName_0 rfl (lv_at hl 0 rfl) ?_
  refine tg_get (ci := 10) (ts := ty_MODEL) (C := RX10) (T := TX10) (N := 49) hx hb hts inX10 hown hK hw h_p0 rfl rfl 7 (by decide) (hts _ tw_1144) (fun _ h9 => h9) (ft := vI (-2147483648) 2147483647) rfl dX10_isName_1 (fun u_5 hv_u_5 m_u_5 => ?_)
  obtain ⟨vu_5, rfl, r_vu_5⟩ := hv_u_5
  have q_vu_5 : s0.1 7 = vu_5 := OV.eqI (V := vw_MODEL) hw.2.2.1 o_p0 m_u_5 (by decide)
  refine lv_iconst (v := 2) hx hb dX10_isName_4 (by decide) ?_
  refine lv_icmp_eq (tgt := 10) hx hb dX10_isName_5 (by decide) (fun c_5 => ?_) (fun c_5 => ?_)
  · have r_vu_5 : RI vu_5 2 2 := rc_eq1 r_vu_5 rl_2 (ti_eq c_5) (by decide)
    refine lv_iconst (v := 0) hx hb dX10_isName_10 (by decide) ?_
    refine lv_istore_n (lv' := [(1, .int 0), (0, .ref p0)]) hx hb dX10_isName_11 rfl hl (by decide) rfl (fun ls hl => ?_)
    simp only [f_X10_isName__1, ↓reduceIte, q_vu_5, eq_true c_5] at hE
    exact B12 4294967298 0 vu_5 s0 _ _ ls (by have q0 := rl_0.1; have u0 := rl_0.2; omega) (rl_0.to (by decide)) r_vu_5 m_u_5 o_p0 hE hw (lv_sub hl [1, 0] rfl)
  · refine lv_iconst (v := 0) hx hb dX10_isName_8 (by decide) ?_
    simp only [f_X10_isName__1, ↓reduceIte, q_vu_5, eq_false c_5] at hE
    subst hQ
    exact W.zret (v := 0) hx hb hr (rfl) (fun t ht hW => ⟨⟨0, (), rfl, ⟨⟨(by rw [hR, ← hE]), trivial⟩, rl_0.to (by decide), (fun h0 => trivial), (fun _ => trivial)⟩, by rw [ht]; exact hw.2.1, va_K.moved hW.alike hK, hw.2.2.1⟩, hw.2.2.2.1.F ht⟩) hw.2.2.2.1.2.2 dX10_isName_9
abbrev wr_X10_findIn__9 : List (Nat × Nat) := []
abbrev wa_X10_findIn__9 : List Nat := []
set_option maxHeartbeats 4000000 in
set_option maxRecDepth 100000 in
theorem c_X10_findIn__9 (l : Launch) (D : va_G) (cy : Nat → ClassId) (z : Nat → Nat) (sz : Nat) (Ps : PSI) (w0 : va_W) (hT : HT cy GG Ps w0) (p0 : Nat) (p1 : Int32) (p2 : Int32) (p3 : Int64) (s0 : Nat → Int64) (h_p0 : (p0, 42) ∈ Ps) (r_p1 : RI p1 0 0) (r_p2 : RI p2 0 6) (r_p3 : RJ p3 (-9223372036854775808) 9223372036854775807) (o_p0 : ARL Ps w0 p0 42 s0) : Met l yX10_findIn (Cond.code yX10_findIn cX10_findIn 6 (some .int) :: gT) ({ frames := 0, cells := 0, slots := 0, locals := 200 } : Room) (va_Pc [.ref p0, .int p1, .int p2, .long p3] (PRE D cy z w0 sz)) (va_Qi (fun (r : Int32) (u : Unit) => ((f_X10_findIn__9 p1 p2 p3 s0) = r ∧ True) ∧ (RI r (-1) 5 ∧ (r = 0 → True) ∧ (¬ r = 0 → True) ∧ (True) ∧ (r.toInt < 0 → NFD w0 p0 p1 p2 p3 ∧ True) ∧ (0 ≤ r.toInt → FDD w0 p0 p1 p2 p3 ∧ 1 ≤ Int32.toInt p2 ∧ True))) (BB D cy (va_A w0 sz) (fun (u : Unit) => w0)) (va_A w0 sz)) 0 0 (va_A w0 sz) := by
  refine Met.ofW (cc := cX10_findIn) (maxL := 6) (ret := (some .int)) (by decide) rfl ?_
  intro p e s m args below meth c s₁ B hml hv
  obtain ⟨rfl, hsz, hP, hK, hD0, hSD⟩ := hv
  have hx := B.exec
  have hb := B.bytes
  have hr := B.returns
  have hlocks := B.notSynchronized
  have hts : ∀ w ∈ gT, w.before _ s = true := fun w h => atoms_spec (ws := Cond.code yX10_findIn cX10_findIn 6 (some .int) :: gT) B.pre w (List.mem_cons_of_mem _ h)
  have hown : s.vm.findClass RX10 = some m.cls := findClass_of_methodNamed B.named
  subst hsz
  have hD := hD0.self (sz := s.heap.size)
  generalize hAe : va_A w0 s.heap.size = A at hD hSD ⊢
  have hA : ∀ q : Nat, s.heap.size ≤ q → A q := fun q h => by rw [← hAe]; exact Or.inr h
  have hl := lv_entry ([.ref p0, .int p1, .int p2, .long p3]) (n := 6) (Nat.le_of_ble_eq_true rfl)
  rw [lg_entry_eq]
  generalize (lg_sl ([.ref p0, .int p1, .int p2, .long p3]) ++ List.replicate (6 - (lg_sl ([.ref p0, .int p1, .int p2, .long p3])).length) Slot.unset).toArray = ls at hl ⊢
  have hl : lv_has ls 6 [(0, .ref p0), (1, .int p1), (2, .int p2), (3, .long p3)] := hl
  refine nameQ (fun Q hQ => ?_)
  have hw : WD D cy GG A s wr_X10_findIn__9 wa_X10_findIn__9 Ps w0 Ps w0 s.heap [] := ⟨hT, hP, hD, va_S.rf, FR.rf, hT.1, [], (List.append_nil _).symm⟩
  obtain ⟨R9, hR⟩ : ∃ q9 : Int32, f_X10_findIn__9 p1 p2 p3 s0 = q9 := ⟨_, rfl⟩
  have hE := hR
  have B3 : ∀ (nf : Nat) (x5 : Int32) (s0 : Nat → Int64) (H : Heap) (locs : List Loc) (ls : Array Slot), 6 - x5.toInt < (nf : Int) → RI p1 0 0 → RI p2 0 6 → RJ p3 (-9223372036854775808) 9223372036854775807 → RI x5 0 6 → NFD w0 p0 p1 x5 p3 → ARL Ps w0 p0 42 s0 → f_X10_findIn__9_3 p1 p2 p3 nf x5 s0 = R9 → WD D cy GG A s wr_X10_findIn__9 wa_X10_findIn__9 Ps w0 Ps w0 H locs → lv_has ls 6 [(0, .ref p0), (1, .int p1), (2, .int p2), (3, .long p3), (5, .int x5)] → W p l e (headSpec (Cond.code yX10_findIn cX10_findIn 6 (some .int) :: gT) ({ frames := 0, cells := 0, slots := 0, locals := 200 } : Room)).room s m ([.ref p0, .int p1, .int p2, .long p3] : List Value).toArray below meth c H locs 0 0 Q (F0 m 3 ls []) := by
    intro nf3
    induction nf3 with
    | zero =>
      intro x5 s0 H locs ls hn3 r_p1 r_p2 r_p3 r_x5 x_NF_p0_p1__5_p3 o_p0 hE hw hl
      exact absurd hn3 (by have q0 := r_x5.1; have u0 := r_x5.2; omega)
    | succ nf3 ih3 =>
      intro x5 s0 H locs ls hn3 r_p1 r_p2 r_p3 r_x5 x_NF_p0_p1__5_p3 o_p0 hE hw hl
      refine lv_iload hx hb dX10_findIn_3 (lv_at hl 4 rfl) ?_
      refine lv_iload_n hx hb dX10_findIn_5 rfl (lv_at hl 2 rfl) ?_
      refine lv_icmp_ge (tgt := 29) hx hb dX10_findIn_6 (by decide) (fun c_6 => ?_) (fun c_6 => ?_)
      · have x_NF_p0_p1_p2_p3 : NFD w0 p0 p1 p2 p3 := NFD.mono x_NF_p0_p1__5_p3 c_6
        refine lv_iconst (v := (-1)) hx hb dX10_findIn_29 (by decide) ?_
        simp only [f_X10_findIn__9_3, ↓reduceIte, eq_true c_6] at hE
        subst hQ
        exact W.iret (v := (-1)) hx hb hr (fun t ht hW => ⟨⟨(-1), (), rfl, ⟨⟨(by rw [hR, ← hE]), trivial⟩, rl_m1.to (by decide), (fun _ => trivial), (fun h0 => trivial), trivial, (fun h0 => ⟨x_NF_p0_p1_p2_p3, trivial⟩), (fun h0 => absurd h0 (by have h8 := rl_m1; unfold RI at h8; omega))⟩, by rw [ht]; exact hw.2.1, va_K.moved hW.alike hK, hw.2.2.1⟩, hw.2.2.2.1.F ht⟩) hw.2.2.2.1.2.2 dX10_findIn_30
      · have r_x5 : RI x5 0 5 := rc_lt1 r_x5 r_p2 (ti_nle c_6) (by decide)
        have r_p2 : RI p2 1 6 := rc_lt2 r_x5 r_p2 (ti_nle c_6) (by decide)
        refine lv_aload_n hx hb dX10_findIn_9 rfl (lv_at hl 0 rfl) ?_
        refine lv_iload_n hx hb dX10_findIn_10 rfl (lv_at hl 1 rfl) ?_
        refine lv_iload hx hb dX10_findIn_11 (lv_at hl 4 rfl) ?_
        refine lv_iadd hx hb dX10_findIn_13 (lv_topi (fun v_1 e_v_1 => ?_))
        obtain ⟨t_v_1, r_v_1⟩ := tq_add (lo := 0) (hi := 5) r_p1 r_x5 (by decide +kernel) e_v_1
        have q_v_1 : p1 + x5 = v_1 := e_v_1.symm
        refine tg_laldE hx hb hK hw h_p0 rfl r_v_1 (by decide) dX10_findIn_14 (fun w_2 r_w_2 l_w_2 => ?_)
        have q_w_2 : s0 (Int32.toNatClampNeg v_1) = w_2 := ARL.lel hw.2.2.1 o_p0 l_w_2
        refine lv_lload_n hx hb dX10_findIn_15 rfl (lv_at hl 3 rfl) ?_
        refine W.lcmp hx hb dX10_findIn_16 (lv_topi (fun v_3 e_v_3 => ?_))
        have r_v_3 := ri_any v_3
        have q_v_3 : lg_cmp w_2 p3 = v_3 := e_v_3.symm
        refine lv_if_ne (tgt := 23) hx hb dX10_findIn_17 (by decide) (fun c_17 => ?_) (fun c_17 => ?_)
        · obtain ⟨v_4, e_v_4⟩ : ∃ q9 : Int32, q9 = x5 + Int32.ofInt 1 := ⟨_, rfl⟩
          obtain ⟨t_v_4, r_v_4⟩ := tq_add (lo := 1) (hi := 6) r_x5 (show RI (Int32.ofInt 1) 1 1 by unfold RI; decide +kernel) (by decide +kernel) e_v_4
          have t_v_4 : v_4.toInt = x5.toInt + 1 := t_v_4
          refine lv_iinc (v := v_4) (lv' := [(5, .int v_4), (0, .ref p0), (1, .int p1), (2, .int p2), (3, .long p3)]) hx hb dX10_findIn_23 hl (k := 4) rfl e_v_4.symm (by decide) rfl (fun ls hl => ?_)
          have q_v_4 : x5 + (1 : Int32) = v_4 := by rw [e_v_4, show Int32.ofInt 1 = (1 : Int32) by decide]
          refine lv_goto (tgt := 3) hx hb dX10_findIn_26 (by decide) ?_
          simp only [f_X10_findIn__9_3, ↓reduceIte, eq_false c_6, q_v_1, q_w_2, q_v_3, eq_false c_17, q_v_4] at hE
          have x_NF_p0_p1_v_4_p3 : NFD w0 p0 p1 v_4 p3 := NFD.step hw x_NF_p0_p1__5_p3 l_w_2 (by have k1 := r_v_1.cl (by decide); have k2 := r_p1.cl (by decide); have k3 := r_x5.cl (by decide); omega) (lcmp_ne e_v_3 c_17) t_v_4 r_x5.1
          exact ih3 v_4 s0 _ _ ls (by have q0 := r_v_4.1; have u0 := r_v_4.2; have o0 := r_x5.1; have p0 := r_x5.2; omega) r_p1 (r_p2.to (by decide)) r_p3 (r_v_4.to (by decide)) x_NF_p0_p1_v_4_p3 o_p0 hE hw (lv_sub hl [1, 2, 3, 4, 0] rfl)
        · have r_v_3 : RI v_3 0 0 := rc_eq1 r_v_3 rl_0 (ti_eq c_17) (by decide)
          have x_FD_p0_p1_p2_p3 : FDD w0 p0 p1 p2 p3 := FDD.mk l_w_2 (by have k1 := r_v_1.cl (by decide); have k2 := r_p1.cl (by decide); have k3 := r_x5.cl (by decide); omega) (lcmp_eq e_v_3 c_17) (ti_nle c_6) r_x5.1
          have x_POS_p2 : 1 ≤ Int32.toInt p2 := by have k1 := ti_nle c_6; have k2 := r_x5.1; omega
          refine lv_iload hx hb dX10_findIn_20 (lv_at hl 4 rfl) ?_
          simp only [f_X10_findIn__9_3, ↓reduceIte, eq_false c_6, q_v_1, q_w_2, q_v_3, eq_true c_17] at hE
          subst hQ
          exact W.iret (v := x5) hx hb hr (fun t ht hW => ⟨⟨x5, (), rfl, ⟨⟨(by rw [hR, ← hE]), trivial⟩, r_x5.to (by decide), (fun h0 => trivial), (fun h0 => trivial), trivial, (fun h0 => absurd h0 (by have h8 := r_x5; unfold RI at h8; omega)), (fun h0 => ⟨x_FD_p0_p1_p2_p3, x_POS_p2, trivial⟩)⟩, by rw [ht]; exact hw.2.1, va_K.moved hW.alike hK, hw.2.2.1⟩, hw.2.2.2.1.F ht⟩) hw.2.2.2.1.2.2 dX10_findIn_22
  refine lv_iconst (v := 0) hx hb dX10_findIn_0 (by decide) ?_
  refine lv_istore (lv' := [(5, .int 0), (0, .ref p0), (1, .int p1), (2, .int p2), (3, .long p3)]) hx hb dX10_findIn_1 hl (by decide) rfl (fun ls hl => ?_)
  simp only [f_X10_findIn__9, ↓reduceIte] at hE
  have x_NF_p0_p1_0_p3 : NFD w0 p0 p1 0 p3 := NFD.zero hw h_p0 rfl
  exact B3 4294967298 0 s0 _ _ ls (by have q0 := rl_0.1; have u0 := rl_0.2; omega) r_p1 r_p2 r_p3 (rl_0.to (by decide)) x_NF_p0_p1_0_p3 o_p0 hE hw (lv_sub hl [1, 2, 3, 4, 0] rfl)
abbrev wr_X10_isOne__4 : List (Nat × Nat) := [(10, 10), (10, 11), (10, 13)]
abbrev wa_X10_isOne__4 : List Nat := []
set_option maxHeartbeats 4000000 in
set_option maxRecDepth 100000 in
theorem c_X10_isOne__4 (l : Launch) (D : va_G) (cy : Nat → ClassId) (z : Nat → Nat) (sz : Nat) (Ps : PSI) (w0 : va_W) (hT : HT cy GG Ps w0) (p0 : Nat) (p1 : Int32) (p2 : Int32) (s0 : OS) (h_p0 : (p0, 55) ∈ Ps) (r_p1 : RI p1 0 0) (r_p2 : RI p2 0 6) (o_p0 : OV vw_MODEL Ps w0 p0 s0) : Met l yX10_isOne (Cond.code yX10_isOne cX10_isOne 3 (some .boolean) :: gT) ({ frames := 4, cells := 0, slots := 0, locals := 800 } : Room) (va_Pc [.ref p0, .int p1, .int p2] (PRE D cy z w0 sz)) (va_Qi (fun (r : Int32) (u : va_W) => ((OV vw_MODEL Ps u p0 ((f_X10_isOne__4 p1 p2 s0).1) ∧ (f_X10_isOne__4 p1 p2 s0).2 = r ∧ True) ∧ (RI r 0 1 ∧ (r = 0 → True) ∧ (¬ r = 0 → RI p2 1 6 ∧ (∃ v9 : Int32, FLD u p0 10 13 (.int v9) ∧ RI v9 0 5) ∧ True))) ∧ HT cy GG Ps u ∧ FR wr_X10_isOne__4 wa_X10_isOne__4 Ps w0 u) (BB D cy (va_A w0 sz) (fun (u : va_W) => u)) (va_A w0 sz)) 0 0 (va_A w0 sz) := by
  refine Met.ofW (cc := cX10_isOne) (maxL := 3) (ret := (some .boolean)) (by decide) rfl ?_
  intro p e s m args below meth c s₁ B hml hv
  obtain ⟨rfl, hsz, hP, hK, hD0, hSD⟩ := hv
  have hx := B.exec
  have hb := B.bytes
  have hr := B.returns
  have hlocks := B.notSynchronized
  have hts : ∀ w ∈ gT, w.before _ s = true := fun w h => atoms_spec (ws := Cond.code yX10_isOne cX10_isOne 3 (some .boolean) :: gT) B.pre w (List.mem_cons_of_mem _ h)
  have hown : s.vm.findClass RX10 = some m.cls := findClass_of_methodNamed B.named
  subst hsz
  have hD := hD0.self (sz := s.heap.size)
  generalize hAe : va_A w0 s.heap.size = A at hD hSD ⊢
  have hA : ∀ q : Nat, s.heap.size ≤ q → A q := fun q h => by rw [← hAe]; exact Or.inr h
  have hl := lv_entry ([.ref p0, .int p1, .int p2]) (n := 3) (Nat.le_of_ble_eq_true rfl)
  rw [lg_entry_eq]
  generalize (lg_sl ([.ref p0, .int p1, .int p2]) ++ List.replicate (3 - (lg_sl ([.ref p0, .int p1, .int p2])).length) Slot.unset).toArray = ls at hl ⊢
  have hl : lv_has ls 3 [(0, .ref p0), (1, .int p1), (2, .int p2)] := hl
  refine nameQ (fun Q hQ => ?_)
  have hw : WD D cy GG A s wr_X10_isOne__4 wa_X10_isOne__4 Ps w0 Ps w0 s.heap [] := ⟨hT, hP, hD, va_S.rf, FR.rf, hT.1, [], (List.append_nil _).symm⟩
  obtain ⟨R9, hR⟩ : ∃ q9 : OS × Int32, f_X10_isOne__4 p1 p2 s0 = q9 := ⟨_, rfl⟩
  have hE := hR
  refine lv_aload_n hx hb dX10_isOne_0 rfl (lv_at hl 0 rfl) ?_
  refine tk_ir (va_runV (As := []) (rest := []) ⟨hx, hb, hml, hown, hts⟩ (c_X10_isName__1 l D cy z s.heap.size Ps w0 hw.1 p0 s0 h_p0 o_p0) (cwV 0 hts (gV tw_1344 tw_1346 ts_48 tw_15 tw_1347) rfl rfl rfl (by decide +kernel) ⟨Nat.le_of_ble_eq_true rfl, Nat.le_of_ble_eq_true rfl⟩) (tg_preV hw hK hSD hA (ci := 10) (q := (RX10, TX10, 49)) rfl h_p0 rfl) rfl rfl hl.1 rfl (lv_room (Nat.le_of_ble_eq_true rfl)) dX10_isOne_1 ⟨Nat.le_of_ble_eq_true rfl, Nat.le_of_ble_eq_true rfl⟩) hw hA (fun v_1  H locs hp_v_1 hw => ?_)
  obtain ⟨hfn, hp_v_1⟩ := hp_v_1
  have q_v_1 : (f_X10_isName__1 s0) = v_1 := hfn.1
  have r_v_1 : RI v_1 0 1 := hp_v_1.1
  refine lv_if_ne (tgt := 13) hx hb dX10_isOne_4 (by decide) (fun c_4 => ?_) (fun c_4 => ?_)
  · have r_v_1 : RI v_1 1 1 := rc_neL r_v_1 rl_0 (ti_ne c_4) (by decide)
    refine lv_aload_n hx hb dX10_isOne_13 rfl (lv_at hl 0 rfl) ?_
    refine lv_aload_n hx hb dX10_isOne_14 rfl (lv_at hl 0 rfl) ?_
    refine tg_get (ci := 10) (ts := ty_MODEL) (C := RX10) (T := TX10) (N := 49) hx hb hts inX10 hown hK hw h_p0 rfl rfl 21 (by decide) (hts _ tw_1158) (fun _ h9 => h9) (ft := vR 42) rfl dX10_isOne_15 (fun u_2 hv_u_2 m_u_2 => ?_)
    obtain ⟨vu_2, rfl, h_vu_2⟩ := hv_u_2
    refine lv_iload_n hx hb dX10_isOne_18 rfl (lv_at hl 1 rfl) ?_
    refine lv_iload_n hx hb dX10_isOne_19 rfl (lv_at hl 2 rfl) ?_
    refine lv_aload_n hx hb dX10_isOne_20 rfl (lv_at hl 0 rfl) ?_
    refine tg_get (ci := 10) (ts := ty_MODEL) (C := RX10) (T := TX10) (N := 49) hx hb hts inX10 hown hK hw h_p0 rfl rfl 12 (by decide) (hts _ tw_1149) (fun _ h9 => h9) (ft := vJ (-9223372036854775808) 9223372036854775807) rfl dX10_isOne_21 (fun u_3 hv_u_3 m_u_3 => ?_)
    obtain ⟨vu_3, rfl, r_vu_3⟩ := hv_u_3
    have q_vu_3 : s0.2.1 12 = vu_3 := OV.eqL (V := vw_MODEL) hw.2.2.1 o_p0 m_u_3 (by decide)
    have oa_vu_2 := OV.arrB (V := vw_MODEL) (t := 42) hw.2.2.1 o_p0 m_u_2 (by decide)
    have mo9_vu_2 := And.intro hw.2.2.1 m_u_2
    refine tk_ir (va_runS (As := [.ref vu_2, .int p1, .int p2, .long vu_3]) (rest := [.ref p0]) ⟨hx, hb, hml, hown, hts⟩ (c_X10_findIn__9 l D cy z H.size Ps w0 hw.1 vu_2 p1 p2 vu_3 (s0.2.2.2 21) h_vu_2 r_p1 r_p2 r_vu_3 oa_vu_2) (va_cwS 4 hts (gS tw_1352 tw_1353 tw_15 tw_1354) rfl rfl rfl (by decide +kernel) ⟨Nat.le_of_ble_eq_true rfl, Nat.le_of_ble_eq_true rfl⟩) (tg_preS hw hK hSD hA) rfl rfl hl.1 rfl (lv_room (Nat.le_of_ble_eq_true rfl)) dX10_isOne_24 ⟨Nat.le_of_ble_eq_true rfl, Nat.le_of_ble_eq_true rfl⟩) hw hA (fun v_4  H locs hp_v_4 hw => ?_)
    obtain ⟨hfn, hp_v_4⟩ := hp_v_4
    have q_v_4 : (f_X10_findIn__9 p1 p2 vu_3 (s0.2.2.2 21)) = v_4 := hfn.1
    have r_v_4 : RI v_4 (-1) 5 := hp_v_4.1
    by_cases c9_v_4 : v_4.toInt < 0
    · have r_v_4 : RI v_4 (-1) (-1) := by unfold RI at r_v_4 ⊢; omega
      have x_NF_vu_2_p1_p2_vu_3 := (hp_v_4.2.2.2.2.1 (by omega)).1
      have hw8 := hw
      refine tg_put (ci := 10) (ts := ty_MODEL) (v := .int v_4) (ty := .int) (C := RX10) (T := TX10) (N := 49) hx hb hts inX10 tyX10 tyX10_ok nmX10 hown hK hw h_p0 rfl rfl 13 (by decide) (hts _ tw_1150) (fun _ h9 => h9) rfl (by decide +kernel) rfl rfl (ft := vI (-2147483648) 2147483647) rfl ⟨_, rfl, (r_v_4.to (by decide))⟩ (by decide) dX10_isOne_27 (fun ws H locs hw n_k_5 hF9 => ?_)
      have m_u_2 := FLD.over hF9 m_u_2 (by decide)
      have m_u_3 := FLD.over hF9 m_u_3 (by decide)
      have x_NF_vu_2_p1_p2_vu_3 := NFD.over hw8 hF9 h_vu_2 x_NF_vu_2_p1_p2_vu_3 (by decide)
      obtain ⟨sg_6, q_sg_6⟩ : ∃ q9 : OS, sI s0 13 v_4 = q9 := ⟨_, rfl⟩
      have o_p0 : OV vw_MODEL Ps ws p0 sg_6 := by rw [← q_sg_6]; exact OV.putI (V := vw_MODEL) hF9 n_k_5 o_p0 (by decide)
      refine lv_aload_n hx hb dX10_isOne_30 rfl (lv_at hl 0 rfl) ?_
      refine tg_mem (ci := 10) (C := RX10) (T := TX10) (N := 49) hx hb hts inX10 hown hK hw 13 n_k_5 rfl (by decide) (hts _ tw_1150) (fun _ h9 => h9) dX10_isOne_31 ?_
      refine lv_iconst (v := (-1)) hx hb dX10_isOne_34 (by decide) ?_
      refine lv_icmp_ne (tgt := 46) hx hb dX10_isOne_35 (by decide) (fun c_35 => ?_) (fun c_35 => ?_)
      · exact absurd (r_v_4.eq.trans rl_m1.eq.symm) ((ti_ne c_35))
      · refine lv_aload_n hx hb dX10_isOne_38 rfl (lv_at hl 0 rfl) ?_
        refine lv_iconst (v := 3) hx hb dX10_isOne_39 (by decide) ?_
        have hw8 := hw
        refine tk_i (va_runV (As := [.int 3]) (rest := []) ⟨hx, hb, hml, hown, hts⟩ (c_X10_bad__1 l D cy z H.size Ps ws hw.1 p0 3 sg_6 h_p0 (rl_3.to (by decide)) o_p0) (cwV 1 hts (gV tw_1336 tw_1338 ts_46 tw_15 tw_1339) rfl rfl rfl (by decide +kernel) ⟨Nat.le_of_ble_eq_true rfl, Nat.le_of_ble_eq_true rfl⟩) (tg_preV hw hK hSD hA (ci := 10) (q := (RX10, TX10, 49)) rfl h_p0 rfl) rfl rfl hl.1 rfl (lv_room (Nat.le_of_ble_eq_true rfl)) dX10_isOne_40 ⟨Nat.le_of_ble_eq_true rfl, Nat.le_of_ble_eq_true rfl⟩) hw hA ⟨by decide, by decide⟩ (fun v_7 ws H locs hp_v_7 hw hF9 => ?_)
        have m_u_2 := FLD.over hF9 m_u_2 (by decide)
        have m_u_3 := FLD.over hF9 m_u_3 (by decide)
        have n_k_5 := FLD.over hF9 n_k_5 (by decide)
        have x_NF_vu_2_p1_p2_vu_3 := NFD.over hw8 hF9 h_vu_2 x_NF_vu_2_p1_p2_vu_3 (by decide)
        obtain ⟨hfn, hp_v_7⟩ := hp_v_7
        obtain ⟨sg_8, q_sg_8⟩ : ∃ q9 : OS, (f_X10_bad__1 (3 : Int32) sg_6).1 = q9 := ⟨_, rfl⟩
        have o_p0 : OV vw_MODEL Ps ws p0 sg_8 := by rw [← q_sg_8]; exact hfn.1
        have q_v_7 : (f_X10_bad__1 (3 : Int32) sg_6).2 = v_7 := hfn.2.1
        have r_v_7 : RI v_7 0 0 := hp_v_7.1
        refine lv_if_eq (tgt := 50) hx hb dX10_isOne_43 (by decide) (fun c_43 => ?_) (fun c_43 => ?_)
        · refine lv_iconst (v := 0) hx hb dX10_isOne_50 (by decide) ?_
          simp only [f_X10_isOne__4, ↓reduceIte, q_v_1, eq_false c_4, q_vu_3, q_v_4, eq_true c9_v_4, q_sg_6, eq_true c_35, q_sg_8, q_v_7, eq_true c_43] at hE
          subst hQ
          exact W.zret (v := 0) hx hb hr (rfl) (fun t ht hW => ⟨⟨0, ws, rfl, ⟨⟨⟨(by rw [hR, ← hE]; exact o_p0), (by rw [hR, ← hE]), trivial⟩, rl_0.to (by decide), (fun h0 => trivial), (fun h0 => absurd rfl h0)⟩, hw.1, hw.2.2.2.2.1⟩, by rw [ht]; exact hw.2.1, va_K.moved hW.alike hK, hw.2.2.1⟩, hw.2.2.2.1.F ht⟩) hw.2.2.2.1.2.2 dX10_isOne_51
        · exact absurd (r_v_7.eq.trans rl_0.eq.symm) ((ti_ne c_43))
    · have r_v_4 : RI v_4 0 5 := by unfold RI at r_v_4 ⊢; omega
      have x_FD_vu_2_p1_p2_vu_3 := (hp_v_4.2.2.2.2.2 (by omega)).1
      have x_POS_p2 := (hp_v_4.2.2.2.2.2 (by omega)).2.1
      have r_p2 : RI p2 1 6 := ⟨x_POS_p2, r_p2.2⟩
      have hw8 := hw
      refine tg_put (ci := 10) (ts := ty_MODEL) (v := .int v_4) (ty := .int) (C := RX10) (T := TX10) (N := 49) hx hb hts inX10 tyX10 tyX10_ok nmX10 hown hK hw h_p0 rfl rfl 13 (by decide) (hts _ tw_1150) (fun _ h9 => h9) rfl (by decide +kernel) rfl rfl (ft := vI (-2147483648) 2147483647) rfl ⟨_, rfl, (r_v_4.to (by decide))⟩ (by decide) dX10_isOne_27 (fun ws H locs hw n_k_9 hF9 => ?_)
      have m_u_2 := FLD.over hF9 m_u_2 (by decide)
      have m_u_3 := FLD.over hF9 m_u_3 (by decide)
      have x_FD_vu_2_p1_p2_vu_3 := FDD.over hw8 hF9 h_vu_2 x_FD_vu_2_p1_p2_vu_3 (by decide)
      obtain ⟨sg_10, q_sg_10⟩ : ∃ q9 : OS, sI s0 13 v_4 = q9 := ⟨_, rfl⟩
      have o_p0 : OV vw_MODEL Ps ws p0 sg_10 := by rw [← q_sg_10]; exact OV.putI (V := vw_MODEL) hF9 n_k_9 o_p0 (by decide)
      refine lv_aload_n hx hb dX10_isOne_30 rfl (lv_at hl 0 rfl) ?_
      refine tg_mem (ci := 10) (C := RX10) (T := TX10) (N := 49) hx hb hts inX10 hown hK hw 13 n_k_9 rfl (by decide) (hts _ tw_1150) (fun _ h9 => h9) dX10_isOne_31 ?_
      refine lv_iconst (v := (-1)) hx hb dX10_isOne_34 (by decide) ?_
      refine lv_icmp_ne (tgt := 46) hx hb dX10_isOne_35 (by decide) (fun c_35 => ?_) (fun c_35 => ?_)
      · refine lv_iconst (v := 1) hx hb dX10_isOne_46 (by decide) ?_
        refine lv_goto (tgt := 51) hx hb dX10_isOne_47 (by decide) ?_
        simp only [f_X10_isOne__4, ↓reduceIte, q_v_1, eq_false c_4, q_vu_3, q_v_4, eq_false c9_v_4, q_sg_10, eq_false c_35] at hE
        subst hQ
        exact W.zret (v := 1) hx hb hr (rfl) (fun t ht hW => ⟨⟨1, ws, rfl, ⟨⟨⟨(by rw [hR, ← hE]; exact o_p0), (by rw [hR, ← hE]), trivial⟩, rl_1.to (by decide), (fun _ => trivial), (fun h0 => ⟨r_p2, ⟨_, n_k_9, r_v_4⟩, trivial⟩)⟩, hw.1, hw.2.2.2.2.1⟩, by rw [ht]; exact hw.2.1, va_K.moved hW.alike hK, hw.2.2.1⟩, hw.2.2.2.1.F ht⟩) hw.2.2.2.1.2.2 dX10_isOne_51
      · have r_v_4 : RI v_4 0 (-1) := rc_eq1 r_v_4 rl_m1 (ti_eq c_35) (by decide)
        exact (r_v_4.no (by decide)).elim
  · have r_v_1 : RI v_1 0 0 := rc_eq1 r_v_1 rl_0 (ti_eq c_4) (by decide)
    refine lv_aload_n hx hb dX10_isOne_7 rfl (lv_at hl 0 rfl) ?_
    refine lv_iconst (v := 1) hx hb dX10_isOne_8 (by decide) ?_
    refine tk_i (va_runV (As := [.int 1]) (rest := []) ⟨hx, hb, hml, hown, hts⟩ (c_X10_bad__1 l D cy z H.size Ps w0 hw.1 p0 1 s0 h_p0 (rl_1.to (by decide)) o_p0) (cwV 1 hts (gV tw_1336 tw_1338 ts_46 tw_15 tw_1339) rfl rfl rfl (by decide +kernel) ⟨Nat.le_of_ble_eq_true rfl, Nat.le_of_ble_eq_true rfl⟩) (tg_preV hw hK hSD hA (ci := 10) (q := (RX10, TX10, 49)) rfl h_p0 rfl) rfl rfl hl.1 rfl (lv_room (Nat.le_of_ble_eq_true rfl)) dX10_isOne_9 ⟨Nat.le_of_ble_eq_true rfl, Nat.le_of_ble_eq_true rfl⟩) hw hA ⟨by decide, by decide⟩ (fun v_11 ws H locs hp_v_11 hw hF9 => ?_)
    obtain ⟨hfn, hp_v_11⟩ := hp_v_11
    obtain ⟨sg_12, q_sg_12⟩ : ∃ q9 : OS, (f_X10_bad__1 (1 : Int32) s0).1 = q9 := ⟨_, rfl⟩
    have o_p0 : OV vw_MODEL Ps ws p0 sg_12 := by rw [← q_sg_12]; exact hfn.1
    have q_v_11 : (f_X10_bad__1 (1 : Int32) s0).2 = v_11 := hfn.2.1
    have r_v_11 : RI v_11 0 0 := hp_v_11.1
    simp only [f_X10_isOne__4, ↓reduceIte, q_v_1, eq_true c_4, q_sg_12, q_v_11] at hE
    subst hQ
    exact W.zret (v := v_11) hx hb hr (tq_nz (r_v_11.to (by decide))) (fun t ht hW => ⟨⟨v_11, ws, rfl, ⟨⟨⟨(by rw [hR, ← hE]; exact o_p0), (by rw [hR, ← hE]), trivial⟩, r_v_11.to (by decide), (fun h0 => trivial), (fun h0 => absurd (Int32.toInt_inj.mp (by have h8 := r_v_11; unfold RI at h8; rw [Int32.toInt_zero]; omega)) h0)⟩, hw.1, hw.2.2.2.2.1⟩, by rw [ht]; exact hw.2.1, va_K.moved hW.alike hK, hw.2.2.1⟩, hw.2.2.2.1.F ht⟩) hw.2.2.2.1.2.2 dX10_isOne_12
abbrev wr_X10_readOne__3 : List (Nat × Nat) := [(10, 5), (10, 6), (10, 7), (10, 8), (10, 9), (10, 10), (10, 11), (10, 12), (10, 13)]
abbrev wa_X10_readOne__3 : List Nat := []
set_option maxHeartbeats 4000000 in
set_option maxRecDepth 100000 in
theorem c_X10_readOne__3 (l : Launch) (D : va_G) (cy : Nat → ClassId) (z : Nat → Nat) (sz : Nat) (Ps : PSI) (w0 : va_W) (hT : HT cy GG Ps w0) (p0 : Nat) (p1 : Int32) (p2 : Int32) (gh : Int) (s0 : OS) (h_p0 : (p0, 55) ∈ Ps) (r_p1 : RI p1 0 0) (r_p2 : RI p2 0 6) (x_TO_p0_gh : TOP w0 p0 (gh)) (o_p0 : OV vw_MODEL Ps w0 p0 s0) : Met l yX10_readOne (Cond.code yX10_readOne cX10_readOne 3 (some .boolean) :: gT) ({ frames := 5, cells := 0, slots := 0, locals := 1000 } : Room) (va_Pc [.ref p0, .int p1, .int p2] (PRE D cy z w0 sz)) (va_Qi (fun (r : Int32) (u : va_W) => ((OV vw_MODEL Ps u p0 ((f_X10_readOne__3 p1 p2 s0).1) ∧ (f_X10_readOne__3 p1 p2 s0).2 = r ∧ True) ∧ (RI r 0 1 ∧ (r = 0 → True) ∧ (¬ r = 0 → RI p2 1 6 ∧ (∃ v9 : Int32, FLD u p0 10 13 (.int v9) ∧ RI v9 0 5) ∧ TKP u p0 (gh) ∧ True))) ∧ HT cy GG Ps u ∧ FR wr_X10_readOne__3 wa_X10_readOne__3 Ps w0 u) (BB D cy (va_A w0 sz) (fun (u : va_W) => u)) (va_A w0 sz)) 0 0 (va_A w0 sz) := by
  refine Met.ofW (cc := cX10_readOne) (maxL := 3) (ret := (some .boolean)) (by decide) rfl ?_
  intro p e s m args below meth c s₁ B hml hv
  obtain ⟨rfl, hsz, hP, hK, hD0, hSD⟩ := hv
  have hx := B.exec
  have hb := B.bytes
  have hr := B.returns
  have hlocks := B.notSynchronized
  have hts : ∀ w ∈ gT, w.before _ s = true := fun w h => atoms_spec (ws := Cond.code yX10_readOne cX10_readOne 3 (some .boolean) :: gT) B.pre w (List.mem_cons_of_mem _ h)
  have hown : s.vm.findClass RX10 = some m.cls := findClass_of_methodNamed B.named
  subst hsz
  have hD := hD0.self (sz := s.heap.size)
  generalize hAe : va_A w0 s.heap.size = A at hD hSD ⊢
  have hA : ∀ q : Nat, s.heap.size ≤ q → A q := fun q h => by rw [← hAe]; exact Or.inr h
  have hl := lv_entry ([.ref p0, .int p1, .int p2]) (n := 3) (Nat.le_of_ble_eq_true rfl)
  rw [lg_entry_eq]
  generalize (lg_sl ([.ref p0, .int p1, .int p2]) ++ List.replicate (3 - (lg_sl ([.ref p0, .int p1, .int p2])).length) Slot.unset).toArray = ls at hl ⊢
  have hl : lv_has ls 3 [(0, .ref p0), (1, .int p1), (2, .int p2)] := hl
  refine nameQ (fun Q hQ => ?_)
  have hw : WD D cy GG A s wr_X10_readOne__3 wa_X10_readOne__3 Ps w0 Ps w0 s.heap [] := ⟨hT, hP, hD, va_S.rf, FR.rf, hT.1, [], (List.append_nil _).symm⟩
  obtain ⟨R9, hR⟩ : ∃ q9 : OS × Int32, f_X10_readOne__3 p1 p2 s0 = q9 := ⟨_, rfl⟩
  have hE := hR
  refine lv_aload_n hx hb dX10_readOne_0 rfl (lv_at hl 0 rfl) ?_
  refine lv_iload_n hx hb dX10_readOne_1 rfl (lv_at hl 1 rfl) ?_
  refine lv_iload_n hx hb dX10_readOne_2 rfl (lv_at hl 2 rfl) ?_
  refine tk_i (va_runV (As := [.int p1, .int p2]) (rest := []) ⟨hx, hb, hml, hown, hts⟩ (c_X10_isOne__4 l D cy z s.heap.size Ps w0 hw.1 p0 p1 p2 s0 h_p0 r_p1 r_p2 o_p0) (cwV 2 hts (gV tw_1378 tw_1380 ts_55 tw_15 tw_1381) rfl rfl rfl (by decide +kernel) ⟨Nat.le_of_ble_eq_true rfl, Nat.le_of_ble_eq_true rfl⟩) (tg_preV hw hK hSD hA (ci := 10) (q := (RX10, TX10, 49)) rfl h_p0 rfl) rfl rfl hl.1 rfl (lv_room (Nat.le_of_ble_eq_true rfl)) dX10_readOne_3 ⟨Nat.le_of_ble_eq_true rfl, Nat.le_of_ble_eq_true rfl⟩) hw hA ⟨by decide, by decide⟩ (fun v_1 ws H locs hp_v_1 hw hF9 => ?_)
  have x_TO_p0_gh := TOP.over hF9 x_TO_p0_gh (by decide)
  obtain ⟨hfn, hp_v_1⟩ := hp_v_1
  obtain ⟨sg_2, q_sg_2⟩ : ∃ q9 : OS, (f_X10_isOne__4 p1 p2 s0).1 = q9 := ⟨_, rfl⟩
  have o_p0 : OV vw_MODEL Ps ws p0 sg_2 := by rw [← q_sg_2]; exact hfn.1
  have q_v_1 : (f_X10_isOne__4 p1 p2 s0).2 = v_1 := hfn.2.1
  have r_v_1 : RI v_1 0 1 := hp_v_1.1
  by_cases c9_v_1 : v_1 = 0
  · have r_v_1 : RI v_1 0 0 := by rw [c9_v_1]; exact rl_0
    refine lv_if_ne (tgt := 11) hx hb dX10_readOne_6 (by decide) (fun c_6 => ?_) (fun c_6 => ?_)
    · exact absurd (r_v_1.eq.trans rl_0.eq.symm) ((ti_ne c_6))
    · refine lv_iconst (v := 0) hx hb dX10_readOne_9 (by decide) ?_
      simp only [f_X10_readOne__3, ↓reduceIte, q_sg_2, q_v_1, eq_true c9_v_1, eq_true c_6] at hE
      subst hQ
      exact W.zret (v := 0) hx hb hr (rfl) (fun t ht hW => ⟨⟨0, ws, rfl, ⟨⟨⟨(by rw [hR, ← hE]; exact o_p0), (by rw [hR, ← hE]), trivial⟩, rl_0.to (by decide), (fun h0 => trivial), (fun h0 => absurd rfl h0)⟩, hw.1, hw.2.2.2.2.1⟩, by rw [ht]; exact hw.2.1, va_K.moved hW.alike hK, hw.2.2.1⟩, hw.2.2.2.1.F ht⟩) hw.2.2.2.1.2.2 dX10_readOne_10
  · have r_v_1 : RI v_1 1 1 := rc_neL r_v_1 rl_0 (ti_ne c9_v_1) (by decide)
    have r_p2 : RI p2 1 6 := ((hp_v_1.2.2 c9_v_1).1)
    obtain ⟨v_3, m_v_3, r_v_3⟩ := ((hp_v_1.2.2 c9_v_1).2.1)
    refine lv_if_ne (tgt := 11) hx hb dX10_readOne_6 (by decide) (fun c_6 => ?_) (fun c_6 => ?_)
    · refine lv_aload_n hx hb dX10_readOne_11 rfl (lv_at hl 0 rfl) ?_
      refine tk_v (va_runV (As := []) (rest := []) ⟨hx, hb, hml, hown, hts⟩ (c_X10_go__2 l D cy z H.size Ps ws hw.1 p0 (gh) sg_2 h_p0 x_TO_p0_gh o_p0) (cwV 0 hts (gV tw_1298 tw_1300 ts_40 tw_15 tw_1301) rfl rfl rfl (by decide +kernel) ⟨Nat.le_of_ble_eq_true rfl, Nat.le_of_ble_eq_true rfl⟩) (tg_preV hw hK hSD hA (ci := 10) (q := (RX10, TX10, 49)) rfl h_p0 rfl) rfl rfl hl.1 rfl (lv_room (Nat.le_of_ble_eq_true rfl)) dX10_readOne_12 ⟨Nat.le_of_ble_eq_true rfl, Nat.le_of_ble_eq_true rfl⟩) hw hA ⟨by decide, by decide⟩ (fun ws H locs hp_v_4 hw hF9 => ?_)
      have m_v_3 := FLD.over hF9 m_v_3 (by decide)
      obtain ⟨hfn, hp_v_4⟩ := hp_v_4
      obtain ⟨sg_5, q_sg_5⟩ : ∃ q9 : OS, (f_X10_go__2 sg_2) = q9 := ⟨_, rfl⟩
      have o_p0 : OV vw_MODEL Ps ws p0 sg_5 := by rw [← q_sg_5]; exact hfn.1
      have x_TOK_p0_gh := (hp_v_4.1)
      refine lv_iconst (v := 1) hx hb dX10_readOne_15 (by decide) ?_
      simp only [f_X10_readOne__3, ↓reduceIte, q_sg_2, q_v_1, eq_false c9_v_1, eq_false c_6, q_sg_5] at hE
      subst hQ
      exact W.zret (v := 1) hx hb hr (rfl) (fun t ht hW => ⟨⟨1, ws, rfl, ⟨⟨⟨(by rw [hR, ← hE]; exact o_p0), (by rw [hR, ← hE]), trivial⟩, rl_1.to (by decide), (fun _ => trivial), (fun h0 => ⟨r_p2, ⟨_, m_v_3, r_v_3⟩, x_TOK_p0_gh, trivial⟩)⟩, hw.1, hw.2.2.2.2.1⟩, by rw [ht]; exact hw.2.1, va_K.moved hW.alike hK, hw.2.2.1⟩, hw.2.2.2.1.F ht⟩) hw.2.2.2.1.2.2 dX10_readOne_16
    · have r_v_1 : RI v_1 1 0 := rc_eq1 r_v_1 rl_0 (ti_eq c_6) (by decide)
      exact (r_v_1.no (by decide)).elim
abbrev wr_X10_readIdea__1 : List (Nat × Nat) := [(10, 5), (10, 6), (10, 7), (10, 8), (10, 9), (10, 10), (10, 11), (10, 12), (10, 13)]
abbrev wa_X10_readIdea__1 : List Nat := []
set_option maxHeartbeats 4000000 in
set_option maxRecDepth 100000 in
theorem c_X10_readIdea__1 (l : Launch) (D : va_G) (cy : Nat → ClassId) (z : Nat → Nat) (sz : Nat) (Ps : PSI) (w0 : va_W) (hT : HT cy GG Ps w0) (p0 : Nat) (gh : Int) (s0 : OS) (h_p0 : (p0, 55) ∈ Ps) (x_TO_p0_gh : TOP w0 p0 (gh)) (o_p0 : OV vw_MODEL Ps w0 p0 s0) : Met l yX10_readIdea (Cond.code yX10_readIdea cX10_readIdea 1 (some .boolean) :: gT) ({ frames := 6, cells := 0, slots := 0, locals := 1200 } : Room) (va_Pc [.ref p0] (PRE D cy z w0 sz)) (va_Qi (fun (r : Int32) (u : va_W) => ((OV vw_MODEL Ps u p0 ((f_X10_readIdea__1 s0).1) ∧ (f_X10_readIdea__1 s0).2 = r ∧ True) ∧ (RI r 0 1 ∧ (r = 0 → True) ∧ (¬ r = 0 → (∃ v9 : Int32, FLD u p0 10 13 (.int v9) ∧ RI v9 0 5) ∧ TKP u p0 (gh) ∧ AX 15 35 (fun f => 0 < (f 0).toInt) Ps u p0 ∧ True))) ∧ HT cy GG Ps u ∧ FR wr_X10_readIdea__1 wa_X10_readIdea__1 Ps w0 u) (BB D cy (va_A w0 sz) (fun (u : va_W) => u)) (va_A w0 sz)) 0 0 (va_A w0 sz) := by
  refine Met.ofW (cc := cX10_readIdea) (maxL := 1) (ret := (some .boolean)) (by decide) rfl ?_
  intro p e s m args below meth c s₁ B hml hv
  obtain ⟨rfl, hsz, hP, hK, hD0, hSD⟩ := hv
  have hx := B.exec
  have hb := B.bytes
  have hr := B.returns
  have hlocks := B.notSynchronized
  have hts : ∀ w ∈ gT, w.before _ s = true := fun w h => atoms_spec (ws := Cond.code yX10_readIdea cX10_readIdea 1 (some .boolean) :: gT) B.pre w (List.mem_cons_of_mem _ h)
  have hown : s.vm.findClass RX10 = some m.cls := findClass_of_methodNamed B.named
  subst hsz
  have hD := hD0.self (sz := s.heap.size)
  generalize hAe : va_A w0 s.heap.size = A at hD hSD ⊢
  have hA : ∀ q : Nat, s.heap.size ≤ q → A q := fun q h => by rw [← hAe]; exact Or.inr h
  have hl := lv_entry ([.ref p0]) (n := 1) (Nat.le_of_ble_eq_true rfl)
  rw [lg_entry_eq]
  generalize (lg_sl ([.ref p0]) ++ List.replicate (1 - (lg_sl ([.ref p0])).length) Slot.unset).toArray = ls at hl ⊢
  have hl : lv_has ls 1 [(0, .ref p0)] := hl
  refine nameQ (fun Q hQ => ?_)
  have hw : WD D cy GG A s wr_X10_readIdea__1 wa_X10_readIdea__1 Ps w0 Ps w0 s.heap [] := ⟨hT, hP, hD, va_S.rf, FR.rf, hT.1, [], (List.append_nil _).symm⟩
  obtain ⟨R9, hR⟩ : ∃ q9 : OS × Int32, f_X10_readIdea__1 s0 = q9 := ⟨_, rfl⟩
  have hE := hR
  refine lv_aload_n hx hb dX10_readIdea_0 rfl (lv_at hl 0 rfl) ?_
  refine lv_iconst (v := 0) hx hb dX10_readIdea_1 (by decide) ?_
  refine lv_aload_n hx hb dX10_readIdea_2 rfl (lv_at hl 0 rfl) ?_
  refine tg_get (ci := 10) (ts := ty_MODEL) (C := RX10) (T := TX10) (N := 49) hx hb hts inX10 hown hK hw h_p0 rfl rfl 15 (by decide) (hts _ tw_1152) (fun _ h9 => h9) (ft := vR 35) rfl dX10_readIdea_3 (fun u_1 hv_u_1 m_u_1 => ?_)
  obtain ⟨vu_1, rfl, h_vu_1⟩ := hv_u_1
  refine lv_iconst (v := 0) hx hb dX10_readIdea_6 (by decide) ?_
  refine tg_iald (lo := 0) (hi := 6) hx hb hK hw h_vu_1 rfl 0 0 rl_0 (by decide) (by decide +kernel) dX10_readIdea_7 (fun v_2 r_v_2 m_v_2 o_v_2 => ?_)
  have q_v_2 : s0.2.2.1 15 (Int32.toNatClampNeg (0 : Int32)) = v_2 := OV.eqA (V := vw_MODEL) (t := 35) hw.2.2.1 o_p0 m_u_1 m_v_2 (by decide)
  have hw8 := hw
  refine tk_i (va_runV (As := [.int 0, .int v_2]) (rest := []) ⟨hx, hb, hml, hown, hts⟩ (c_X10_readOne__3 l D cy z s.heap.size Ps w0 hw.1 p0 0 v_2 (gh) s0 h_p0 rl_0 r_v_2 x_TO_p0_gh o_p0) (cwV 2 hts (gV tw_1374 tw_1376 ts_54 tw_15 tw_1377) rfl rfl rfl (by decide +kernel) ⟨Nat.le_of_ble_eq_true rfl, Nat.le_of_ble_eq_true rfl⟩) (tg_preV hw hK hSD hA (ci := 10) (q := (RX10, TX10, 49)) rfl h_p0 rfl) rfl rfl hl.1 rfl (lv_room (Nat.le_of_ble_eq_true rfl)) dX10_readIdea_8 ⟨Nat.le_of_ble_eq_true rfl, Nat.le_of_ble_eq_true rfl⟩) hw hA ⟨by decide, by decide⟩ (fun v_3 ws H locs hp_v_3 hw hF9 => ?_)
  have m_v_2 := AEL.over hw8 hF9 h_vu_1 m_v_2 (by decide)
  have m_u_1 := FLD.over hF9 m_u_1 (by decide)
  obtain ⟨hfn, hp_v_3⟩ := hp_v_3
  obtain ⟨sg_4, q_sg_4⟩ : ∃ q9 : OS, (f_X10_readOne__3 (0 : Int32) v_2 s0).1 = q9 := ⟨_, rfl⟩
  have o_p0 : OV vw_MODEL Ps ws p0 sg_4 := by rw [← q_sg_4]; exact hfn.1
  have q_v_3 : (f_X10_readOne__3 (0 : Int32) v_2 s0).2 = v_3 := hfn.2.1
  have r_v_3 : RI v_3 0 1 := hp_v_3.1
  by_cases c9_v_3 : v_3 = 0
  · have r_v_3 : RI v_3 0 0 := by rw [c9_v_3]; exact rl_0
    simp only [f_X10_readIdea__1, ↓reduceIte, q_v_2, q_sg_4, q_v_3, eq_true c9_v_3] at hE
    subst hQ
    exact W.zret (v := v_3) hx hb hr (tq_nz (r_v_3.to (by decide))) (fun t ht hW => ⟨⟨v_3, ws, rfl, ⟨⟨⟨(by rw [hR, ← hE]; exact o_p0), (by rw [hR, ← hE]), trivial⟩, r_v_3.to (by decide), (fun h0 => trivial), (fun h0 => absurd (Int32.toInt_inj.mp (by have h8 := r_v_3; unfold RI at h8; rw [Int32.toInt_zero]; omega)) h0)⟩, hw.1, hw.2.2.2.2.1⟩, by rw [ht]; exact hw.2.1, va_K.moved hW.alike hK, hw.2.2.1⟩, hw.2.2.2.1.F ht⟩) hw.2.2.2.1.2.2 dX10_readIdea_11
  · have r_v_3 : RI v_3 1 1 := rc_neL r_v_3 rl_0 (ti_ne c9_v_3) (by decide)
    have r_v_2 : RI v_2 1 6 := ((hp_v_3.2.2 c9_v_3).1)
    obtain ⟨v_5, m_v_5, r_v_5⟩ := ((hp_v_3.2.2 c9_v_3).2.1)
    have x_TOK_p0_gh := ((hp_v_3.2.2 c9_v_3).2.2.1)
    have x_IP_p0 : AX 15 35 (fun f => 0 < (f 0).toInt) Ps ws p0 := AX.mk hw h_vu_1 rfl m_u_1 (fun f9 g9 _ => by have e9 := g9 _ _ m_v_2; have j9 : Int32.toNatClampNeg 0 = 0 := (by decide); rw [j9] at e9; show _ < _; rw [e9]; have k1 := r_v_2.1; omega)
    simp only [f_X10_readIdea__1, ↓reduceIte, q_v_2, q_sg_4, q_v_3, eq_false c9_v_3] at hE
    subst hQ
    exact W.zret (v := v_3) hx hb hr (tq_nz (r_v_3.to (by decide))) (fun t ht hW => ⟨⟨v_3, ws, rfl, ⟨⟨⟨(by rw [hR, ← hE]; exact o_p0), (by rw [hR, ← hE]), trivial⟩, r_v_3.to (by decide), (fun _ => trivial), (fun h0 => ⟨⟨_, m_v_5, r_v_5⟩, x_TOK_p0_gh, x_IP_p0, trivial⟩)⟩, hw.1, hw.2.2.2.2.1⟩, by rw [ht]; exact hw.2.1, va_K.moved hW.alike hK, hw.2.2.1⟩, hw.2.2.2.1.F ht⟩) hw.2.2.2.1.2.2 dX10_readIdea_11
abbrev wr_X10_has__4 : List (Nat × Nat) := []
abbrev wa_X10_has__4 : List Nat := []
set_option maxHeartbeats 4000000 in
set_option maxRecDepth 100000 in
theorem c_X10_has__4 (l : Launch) (D : va_G) (cy : Nat → ClassId) (z : Nat → Nat) (sz : Nat) (Ps : PSI) (w0 : va_W) (hT : HT cy GG Ps w0) (p0 : Int32) (p1 : Int32) (r_p0 : RI p0 (-2147483648) 2147483647) (r_p1 : RI p1 0 5) : Met l yX10_has (Cond.code yX10_has cX10_has 2 (some .boolean) :: gT) ({ frames := 0, cells := 0, slots := 0, locals := 200 } : Room) (va_Pc [.int p0, .int p1] (PRE D cy z w0 sz)) (va_Qi (fun (r : Int32) (u : Unit) => ((f_X10_has__4 p0 p1) = r ∧ True) ∧ (RI r 0 1 ∧ (r = 0 → True) ∧ (¬ r = 0 → True))) (BB D cy (va_A w0 sz) (fun (u : Unit) => w0)) (va_A w0 sz)) 0 0 (va_A w0 sz) := by
  refine Met.ofW (cc := cX10_has) (maxL := 2) (ret := (some .boolean)) (by decide) rfl ?_
  intro p e s m args below meth c s₁ B hml hv
  obtain ⟨rfl, hsz, hP, hK, hD0, hSD⟩ := hv
  have hx := B.exec
  have hb := B.bytes
  have hr := B.returns
  have hlocks := B.notSynchronized
  have hts : ∀ w ∈ gT, w.before _ s = true := fun w h => atoms_spec (ws := Cond.code yX10_has cX10_has 2 (some .boolean) :: gT) B.pre w (List.mem_cons_of_mem _ h)
  have hown : s.vm.findClass RX10 = some m.cls := findClass_of_methodNamed B.named
  subst hsz
  have hD := hD0.self (sz := s.heap.size)
  generalize hAe : va_A w0 s.heap.size = A at hD hSD ⊢
  have hA : ∀ q : Nat, s.heap.size ≤ q → A q := fun q h => by rw [← hAe]; exact Or.inr h
  have hl := lv_entry ([.int p0, .int p1]) (n := 2) (Nat.le_of_ble_eq_true rfl)
  rw [lg_entry_eq]
  generalize (lg_sl ([.int p0, .int p1]) ++ List.replicate (2 - (lg_sl ([.int p0, .int p1])).length) Slot.unset).toArray = ls at hl ⊢
  have hl : lv_has ls 2 [(0, .int p0), (1, .int p1)] := hl
  refine nameQ (fun Q hQ => ?_)
  have hw : WD D cy GG A s wr_X10_has__4 wa_X10_has__4 Ps w0 Ps w0 s.heap [] := ⟨hT, hP, hD, va_S.rf, FR.rf, hT.1, [], (List.append_nil _).symm⟩
  obtain ⟨R9, hR⟩ : ∃ q9 : Int32, f_X10_has__4 p0 p1 = q9 := ⟨_, rfl⟩
  have hE := hR
  refine lv_iload_n hx hb dX10_has_0 rfl (lv_at hl 0 rfl) ?_
  refine lv_iload_n hx hb dX10_has_1 rfl (lv_at hl 1 rfl) ?_
  refine lv_ishr hx hb dX10_has_2 (lv_topi (fun v_1 e_v_1 => ?_))
  have r_v_1 := ri_any v_1
  have q_v_1 : p0 >>> (p1 &&& 31) = v_1 := e_v_1.symm
  refine lv_iconst (v := 1) hx hb dX10_has_3 (by decide) ?_
  refine lv_iand hx hb dX10_has_4 (lv_topi (fun v_2 e_v_2 => ?_))
  have r_v_2 : RI v_2 0 1 := by rw [e_v_2]; exact ri_and (d := 1) (rl_1.to (by decide)) (by decide)
  have q_v_2 : v_1 &&& (1 : Int32) = v_2 := e_v_2.symm
  refine lv_iconst (v := 1) hx hb dX10_has_5 (by decide) ?_
  refine lv_icmp_ne (tgt := 13) hx hb dX10_has_6 (by decide) (fun c_6 => ?_) (fun c_6 => ?_)
  · have r_v_2 : RI v_2 0 0 := rc_neU r_v_2 rl_1 (ti_ne c_6) (by decide)
    refine lv_iconst (v := 0) hx hb dX10_has_13 (by decide) ?_
    simp only [f_X10_has__4, ↓reduceIte, q_v_1, q_v_2, eq_false c_6] at hE
    subst hQ
    exact W.zret (v := 0) hx hb hr (rfl) (fun t ht hW => ⟨⟨0, (), rfl, ⟨⟨(by rw [hR, ← hE]), trivial⟩, rl_0.to (by decide), (fun h0 => trivial), (fun _ => trivial)⟩, by rw [ht]; exact hw.2.1, va_K.moved hW.alike hK, hw.2.2.1⟩, hw.2.2.2.1.F ht⟩) hw.2.2.2.1.2.2 dX10_has_14
  · have r_v_2 : RI v_2 1 1 := rc_eq1 r_v_2 rl_1 (ti_eq c_6) (by decide)
    refine lv_iconst (v := 1) hx hb dX10_has_9 (by decide) ?_
    refine lv_goto (tgt := 14) hx hb dX10_has_10 (by decide) ?_
    simp only [f_X10_has__4, ↓reduceIte, q_v_1, q_v_2, eq_true c_6] at hE
    subst hQ
    exact W.zret (v := 1) hx hb hr (rfl) (fun t ht hW => ⟨⟨1, (), rfl, ⟨⟨(by rw [hR, ← hE]), trivial⟩, rl_1.to (by decide), (fun _ => trivial), (fun h0 => trivial)⟩, by rw [ht]; exact hw.2.1, va_K.moved hW.alike hK, hw.2.2.1⟩, hw.2.2.2.1.F ht⟩) hw.2.2.2.1.2.2 dX10_has_14
abbrev wr_X10_readQuarrel__1 : List (Nat × Nat) := [(10, 5), (10, 6), (10, 7), (10, 8), (10, 9), (10, 10), (10, 11), (10, 12), (10, 13)]
abbrev wa_X10_readQuarrel__1 : List Nat := [35]
set_option maxHeartbeats 4000000 in
set_option maxRecDepth 100000 in
theorem c_X10_readQuarrel__1 (l : Launch) (D : va_G) (cy : Nat → ClassId) (z : Nat → Nat) (sz : Nat) (Ps : PSI) (w0 : va_W) (hT : HT cy GG Ps w0) (p0 : Nat) (gh : Int) (s0 : OS) (h_p0 : (p0, 55) ∈ Ps) (x_TO_p0_gh : TOP w0 p0 (gh)) (x_RH_p0 : AX 15 35 (fun f => RH2p f) Ps w0 p0) (o_p0 : OV vw_MODEL Ps w0 p0 s0) : Met l yX10_readQuarrel (Cond.code yX10_readQuarrel cX10_readQuarrel 2 (some .boolean) :: gT) ({ frames := 7, cells := 0, slots := 0, locals := 1400 } : Room) (va_Pc [.ref p0] (PRE D cy z w0 sz)) (va_Qi (fun (r : Int32) (u : va_W) => ((OV vw_MODEL Ps u p0 ((f_X10_readQuarrel__1 s0).1) ∧ (f_X10_readQuarrel__1 s0).2 = r ∧ True) ∧ (RI r 0 1 ∧ (r = 0 → True) ∧ (¬ r = 0 → (∃ v9 : Int32, FLD u p0 10 13 (.int v9) ∧ RI v9 0 5) ∧ TKP u p0 (gh) ∧ AX 15 35 (fun f => RH2p f) Ps u p0 ∧ True))) ∧ HT cy GG Ps u ∧ FR wr_X10_readQuarrel__1 wa_X10_readQuarrel__1 Ps w0 u) (BB D cy (va_A w0 sz) (fun (u : va_W) => u)) (va_A w0 sz)) 0 0 (va_A w0 sz) := by
  refine Met.ofW (cc := cX10_readQuarrel) (maxL := 2) (ret := (some .boolean)) (by decide) rfl ?_
  intro p e s m args below meth c s₁ B hml hv
  obtain ⟨rfl, hsz, hP, hK, hD0, hSD⟩ := hv
  have hx := B.exec
  have hb := B.bytes
  have hr := B.returns
  have hlocks := B.notSynchronized
  have hts : ∀ w ∈ gT, w.before _ s = true := fun w h => atoms_spec (ws := Cond.code yX10_readQuarrel cX10_readQuarrel 2 (some .boolean) :: gT) B.pre w (List.mem_cons_of_mem _ h)
  have hown : s.vm.findClass RX10 = some m.cls := findClass_of_methodNamed B.named
  subst hsz
  have hD := hD0.self (sz := s.heap.size)
  generalize hAe : va_A w0 s.heap.size = A at hD hSD ⊢
  have hA : ∀ q : Nat, s.heap.size ≤ q → A q := fun q h => by rw [← hAe]; exact Or.inr h
  have hl := lv_entry ([.ref p0]) (n := 2) (Nat.le_of_ble_eq_true rfl)
  rw [lg_entry_eq]
  generalize (lg_sl ([.ref p0]) ++ List.replicate (2 - (lg_sl ([.ref p0])).length) Slot.unset).toArray = ls at hl ⊢
  have hl : lv_has ls 2 [(0, .ref p0)] := hl
  refine nameQ (fun Q hQ => ?_)
  have hw : WD D cy GG A s wr_X10_readQuarrel__1 wa_X10_readQuarrel__1 Ps w0 Ps w0 s.heap [] := ⟨hT, hP, hD, va_S.rf, FR.rf, hT.1, [], (List.append_nil _).symm⟩
  obtain ⟨R9, hR⟩ : ∃ q9 : OS × Int32, f_X10_readQuarrel__1 s0 = q9 := ⟨_, rfl⟩
  have hE := hR
  have B61 : ∀ (x1 : Int32) (z0_13 : Int32) (s0 : OS) (ws : va_W) (H : Heap) (locs : List Loc) (ls : Array Slot), RI x1 0 5 → RI z0_13 0 5 → FLD ws p0 10 13 (.int z0_13) → AX 15 35 (fun f => 0 < (f 0).toInt) Ps ws p0 → AX 15 35 (fun f => RH2p f) Ps ws p0 → TKP ws p0 (gh) → OV vw_MODEL Ps ws p0 s0 → f_X10_readQuarrel__1_61 x1 s0 = R9 → WD D cy GG A s wr_X10_readQuarrel__1 wa_X10_readQuarrel__1 Ps w0 Ps ws H locs → lv_has ls 2 [(0, .ref p0), (1, .int x1)] → W p l e (headSpec (Cond.code yX10_readQuarrel cX10_readQuarrel 2 (some .boolean) :: gT) ({ frames := 7, cells := 0, slots := 0, locals := 1400 } : Room)).room s m ([.ref p0] : List Value).toArray below meth c H locs 0 0 Q (F0 m 61 ls []) := by
    intro x1 z0_13 s0 ws H locs ls r_x1 r_z0_13 m_z0_13 x_IP_p0 x_RH_p0 x_TOK_p0_gh o_p0 hE hw hl
    have q_z0_13 : s0.1 13 = z0_13 := OV.eqI (V := vw_MODEL) hw.2.2.1 o_p0 m_z0_13 (by decide)
    refine lv_aload_n hx hb dX10_readQuarrel_61 rfl (lv_at hl 0 rfl) ?_
    refine lv_iconst (v := 3) hx hb dX10_readQuarrel_62 (by decide) ?_
    refine tk_i (va_runV (As := [.int 3]) (rest := []) ⟨hx, hb, hml, hown, hts⟩ (c_X10_bad__1 l D cy z H.size Ps ws hw.1 p0 3 s0 h_p0 (rl_3.to (by decide)) o_p0) (cwV 1 hts (gV tw_1336 tw_1338 ts_46 tw_15 tw_1339) rfl rfl rfl (by decide +kernel) ⟨Nat.le_of_ble_eq_true rfl, Nat.le_of_ble_eq_true rfl⟩) (tg_preV hw hK hSD hA (ci := 10) (q := (RX10, TX10, 49)) rfl h_p0 rfl) rfl rfl hl.1 rfl (lv_room (Nat.le_of_ble_eq_true rfl)) dX10_readQuarrel_63 ⟨Nat.le_of_ble_eq_true rfl, Nat.le_of_ble_eq_true rfl⟩) hw hA ⟨by decide, by decide⟩ (fun v_1 ws H locs hp_v_1 hw hF9 => ?_)
    have m_z0_13 := FLD.over hF9 m_z0_13 (by decide)
    have x_IP_p0 := AX.over hF9 x_IP_p0 (by decide)
    have x_RH_p0 := AX.over hF9 x_RH_p0 (by decide)
    have x_TOK_p0_gh := TKP.over hF9 x_TOK_p0_gh (by decide)
    obtain ⟨hfn, hp_v_1⟩ := hp_v_1
    obtain ⟨sg_2, q_sg_2⟩ : ∃ q9 : OS, (f_X10_bad__1 (3 : Int32) s0).1 = q9 := ⟨_, rfl⟩
    have o_p0 : OV vw_MODEL Ps ws p0 sg_2 := by rw [← q_sg_2]; exact hfn.1
    have q_v_1 : (f_X10_bad__1 (3 : Int32) s0).2 = v_1 := hfn.2.1
    have r_v_1 : RI v_1 0 0 := hp_v_1.1
    simp only [f_X10_readQuarrel__1_61, ↓reduceIte, q_z0_13, q_sg_2, q_v_1] at hE
    subst hQ
    exact W.zret (v := v_1) hx hb hr (tq_nz (r_v_1.to (by decide))) (fun t ht hW => ⟨⟨v_1, ws, rfl, ⟨⟨⟨(by rw [hR, ← hE]; exact o_p0), (by rw [hR, ← hE]), trivial⟩, r_v_1.to (by decide), (fun h0 => trivial), (fun h0 => absurd (Int32.toInt_inj.mp (by have h8 := r_v_1; unfold RI at h8; rw [Int32.toInt_zero]; omega)) h0)⟩, hw.1, hw.2.2.2.2.1⟩, by rw [ht]; exact hw.2.1, va_K.moved hW.alike hK, hw.2.2.1⟩, hw.2.2.2.1.F ht⟩) hw.2.2.2.1.2.2 dX10_readQuarrel_66
  refine lv_aload_n hx hb dX10_readQuarrel_0 rfl (lv_at hl 0 rfl) ?_
  refine tk_v (va_runV (As := []) (rest := []) ⟨hx, hb, hml, hown, hts⟩ (c_X10_go__2 l D cy z s.heap.size Ps w0 hw.1 p0 (gh) s0 h_p0 x_TO_p0_gh o_p0) (cwV 0 hts (gV tw_1298 tw_1300 ts_40 tw_15 tw_1301) rfl rfl rfl (by decide +kernel) ⟨Nat.le_of_ble_eq_true rfl, Nat.le_of_ble_eq_true rfl⟩) (tg_preV hw hK hSD hA (ci := 10) (q := (RX10, TX10, 49)) rfl h_p0 rfl) rfl rfl hl.1 rfl (lv_room (Nat.le_of_ble_eq_true rfl)) dX10_readQuarrel_1 ⟨Nat.le_of_ble_eq_true rfl, Nat.le_of_ble_eq_true rfl⟩) hw hA ⟨by decide, by decide⟩ (fun ws H locs hp_v_3 hw hF9 => ?_)
  have x_RH_p0 := AX.over hF9 x_RH_p0 (by decide)
  obtain ⟨hfn, hp_v_3⟩ := hp_v_3
  obtain ⟨sg_4, q_sg_4⟩ : ∃ q9 : OS, (f_X10_go__2 s0) = q9 := ⟨_, rfl⟩
  have o_p0 : OV vw_MODEL Ps ws p0 sg_4 := by rw [← q_sg_4]; exact hfn.1
  have x_TOK_p0_gh := (hp_v_3.1)
  refine lv_aload_n hx hb dX10_readQuarrel_4 rfl (lv_at hl 0 rfl) ?_
  have x_TO_p0_gh : TOP ws p0 (gh) := TKP.top x_TOK_p0_gh
  refine tk_i (va_runV (As := []) (rest := []) ⟨hx, hb, hml, hown, hts⟩ (c_X10_readIdea__1 l D cy z H.size Ps ws hw.1 p0 (gh) sg_4 h_p0 x_TO_p0_gh o_p0) (cwV 0 hts (gV tw_1386 tw_1388 ts_57 tw_15 tw_1389) rfl rfl rfl (by decide +kernel) ⟨Nat.le_of_ble_eq_true rfl, Nat.le_of_ble_eq_true rfl⟩) (tg_preV hw hK hSD hA (ci := 10) (q := (RX10, TX10, 49)) rfl h_p0 rfl) rfl rfl hl.1 rfl (lv_room (Nat.le_of_ble_eq_true rfl)) dX10_readQuarrel_5 ⟨Nat.le_of_ble_eq_true rfl, Nat.le_of_ble_eq_true rfl⟩) hw hA ⟨by decide, by decide⟩ (fun v_5 ws H locs hp_v_5 hw hF9 => ?_)
  have x_RH_p0 := AX.over hF9 x_RH_p0 (by decide)
  obtain ⟨hfn, hp_v_5⟩ := hp_v_5
  obtain ⟨sg_6, q_sg_6⟩ : ∃ q9 : OS, (f_X10_readIdea__1 sg_4).1 = q9 := ⟨_, rfl⟩
  have o_p0 : OV vw_MODEL Ps ws p0 sg_6 := by rw [← q_sg_6]; exact hfn.1
  have q_v_5 : (f_X10_readIdea__1 sg_4).2 = v_5 := hfn.2.1
  have r_v_5 : RI v_5 0 1 := hp_v_5.1
  by_cases c9_v_5 : v_5 = 0
  · have r_v_5 : RI v_5 0 0 := by rw [c9_v_5]; exact rl_0
    refine lv_if_ne (tgt := 13) hx hb dX10_readQuarrel_8 (by decide) (fun c_8 => ?_) (fun c_8 => ?_)
    · exact absurd (r_v_5.eq.trans rl_0.eq.symm) ((ti_ne c_8))
    · refine lv_iconst (v := 0) hx hb dX10_readQuarrel_11 (by decide) ?_
      simp only [f_X10_readQuarrel__1, ↓reduceIte, q_sg_4, q_sg_6, q_v_5, eq_true c9_v_5, eq_true c_8] at hE
      subst hQ
      exact W.zret (v := 0) hx hb hr (rfl) (fun t ht hW => ⟨⟨0, ws, rfl, ⟨⟨⟨(by rw [hR, ← hE]; exact o_p0), (by rw [hR, ← hE]), trivial⟩, rl_0.to (by decide), (fun h0 => trivial), (fun h0 => absurd rfl h0)⟩, hw.1, hw.2.2.2.2.1⟩, by rw [ht]; exact hw.2.1, va_K.moved hW.alike hK, hw.2.2.1⟩, hw.2.2.2.1.F ht⟩) hw.2.2.2.1.2.2 dX10_readQuarrel_12
  · have r_v_5 : RI v_5 1 1 := rc_neL r_v_5 rl_0 (ti_ne c9_v_5) (by decide)
    obtain ⟨v_7, m_v_7, r_v_7⟩ := ((hp_v_5.2.2 c9_v_5).1)
    have x_TOK_p0_gh := ((hp_v_5.2.2 c9_v_5).2.1)
    have x_IP_p0 := ((hp_v_5.2.2 c9_v_5).2.2.1)
    refine lv_if_ne (tgt := 13) hx hb dX10_readQuarrel_8 (by decide) (fun c_8 => ?_) (fun c_8 => ?_)
    · refine lv_aload_n hx hb dX10_readQuarrel_13 rfl (lv_at hl 0 rfl) ?_
      refine tg_mem (ci := 10) (C := RX10) (T := TX10) (N := 49) hx hb hts inX10 hown hK hw 13 m_v_7 rfl (by decide) (hts _ tw_1150) (fun _ h9 => h9) dX10_readQuarrel_14 ?_
      have q_v_7 : sg_6.1 13 = v_7 := OV.eqI (V := vw_MODEL) hw.2.2.1 o_p0 m_v_7 (by decide)
      refine lv_istore_n (lv' := [(1, .int v_7), (0, .ref p0)]) hx hb dX10_readQuarrel_17 rfl hl (by decide) rfl (fun ls hl => ?_)
      refine lv_aload_n hx hb dX10_readQuarrel_18 rfl (lv_at hl 1 rfl) ?_
      refine lv_iconst (v := 0) hx hb dX10_readQuarrel_19 (by decide) ?_
      refine lv_aload_n hx hb dX10_readQuarrel_20 rfl (lv_at hl 1 rfl) ?_
      refine tg_get (ci := 10) (ts := ty_MODEL) (C := RX10) (T := TX10) (N := 49) hx hb hts inX10 hown hK hw h_p0 rfl rfl 15 (by decide) (hts _ tw_1152) (fun _ h9 => h9) (ft := vR 35) rfl dX10_readQuarrel_21 (fun u_8 hv_u_8 m_u_8 => ?_)
      obtain ⟨vu_8, rfl, h_vu_8⟩ := hv_u_8
      refine lv_iconst (v := 0) hx hb dX10_readQuarrel_24 (by decide) ?_
      refine tg_iald (lo := 0) (hi := 6) hx hb hK hw h_vu_8 rfl 0 0 rl_0 (by decide) (by decide +kernel) dX10_readQuarrel_25 (fun v_9 r_v_9 m_v_9 o_v_9 => ?_)
      have q_v_9 : sg_6.2.2.1 15 (Int32.toNatClampNeg (0 : Int32)) = v_9 := OV.eqA (V := vw_MODEL) (t := 35) hw.2.2.1 o_p0 m_u_8 m_v_9 (by decide)
      have hw8 := hw
      refine tk_i (va_runV (As := [.int 0, .int v_9]) (rest := []) ⟨hx, hb, hml, hown, hts⟩ (c_X10_isOne__4 l D cy z H.size Ps ws hw.1 p0 0 v_9 sg_6 h_p0 rl_0 r_v_9 o_p0) (cwV 2 hts (gV tw_1378 tw_1380 ts_55 tw_15 tw_1381) rfl rfl rfl (by decide +kernel) ⟨Nat.le_of_ble_eq_true rfl, Nat.le_of_ble_eq_true rfl⟩) (tg_preV hw hK hSD hA (ci := 10) (q := (RX10, TX10, 49)) rfl h_p0 rfl) rfl rfl hl.1 rfl (lv_room (Nat.le_of_ble_eq_true rfl)) dX10_readQuarrel_26 ⟨Nat.le_of_ble_eq_true rfl, Nat.le_of_ble_eq_true rfl⟩) hw hA ⟨by decide, by decide⟩ (fun v_10 ws H locs hp_v_10 hw hF9 => ?_)
      have m_v_9 := AEL.over hw8 hF9 h_vu_8 m_v_9 (by decide)
      have m_u_8 := FLD.over hF9 m_u_8 (by decide)
      have x_RH_p0 := AX.over hF9 x_RH_p0 (by decide)
      have x_TOK_p0_gh := TKP.over hF9 x_TOK_p0_gh (by decide)
      have x_IP_p0 := AX.over hF9 x_IP_p0 (by decide)
      obtain ⟨hfn, hp_v_10⟩ := hp_v_10
      obtain ⟨sg_11, q_sg_11⟩ : ∃ q9 : OS, (f_X10_isOne__4 (0 : Int32) v_9 sg_6).1 = q9 := ⟨_, rfl⟩
      have o_p0 : OV vw_MODEL Ps ws p0 sg_11 := by rw [← q_sg_11]; exact hfn.1
      have q_v_10 : (f_X10_isOne__4 (0 : Int32) v_9 sg_6).2 = v_10 := hfn.2.1
      have r_v_10 : RI v_10 0 1 := hp_v_10.1
      by_cases c9_v_10 : v_10 = 0
      · have r_v_10 : RI v_10 0 0 := by rw [c9_v_10]; exact rl_0
        refine lv_if_ne (tgt := 34) hx hb dX10_readQuarrel_29 (by decide) (fun c_29 => ?_) (fun c_29 => ?_)
        · exact absurd (r_v_10.eq.trans rl_0.eq.symm) ((ti_ne c_29))
        · refine lv_iconst (v := 0) hx hb dX10_readQuarrel_32 (by decide) ?_
          simp only [f_X10_readQuarrel__1, ↓reduceIte, q_sg_4, q_sg_6, q_v_5, eq_false c9_v_5, eq_false c_8, q_v_7, q_v_9, q_sg_11, q_v_10, eq_true c9_v_10, eq_true c_29] at hE
          subst hQ
          exact W.zret (v := 0) hx hb hr (rfl) (fun t ht hW => ⟨⟨0, ws, rfl, ⟨⟨⟨(by rw [hR, ← hE]; exact o_p0), (by rw [hR, ← hE]), trivial⟩, rl_0.to (by decide), (fun h0 => trivial), (fun h0 => absurd rfl h0)⟩, hw.1, hw.2.2.2.2.1⟩, by rw [ht]; exact hw.2.1, va_K.moved hW.alike hK, hw.2.2.1⟩, hw.2.2.2.1.F ht⟩) hw.2.2.2.1.2.2 dX10_readQuarrel_33
      · have r_v_10 : RI v_10 1 1 := rc_neL r_v_10 rl_0 (ti_ne c9_v_10) (by decide)
        have r_v_9 : RI v_9 1 6 := ((hp_v_10.2.2 c9_v_10).1)
        obtain ⟨v_12, m_v_12, r_v_12⟩ := ((hp_v_10.2.2 c9_v_10).2.1)
        refine lv_if_ne (tgt := 34) hx hb dX10_readQuarrel_29 (by decide) (fun c_29 => ?_) (fun c_29 => ?_)
        · refine lv_aload_n hx hb dX10_readQuarrel_34 rfl (lv_at hl 1 rfl) ?_
          refine tg_mem (ci := 10) (C := RX10) (T := TX10) (N := 49) hx hb hts inX10 hown hK hw 13 m_v_12 rfl (by decide) (hts _ tw_1150) (fun _ h9 => h9) dX10_readQuarrel_35 ?_
          have q_v_12 : sg_11.1 13 = v_12 := OV.eqI (V := vw_MODEL) hw.2.2.1 o_p0 m_v_12 (by decide)
          refine lv_iload_n hx hb dX10_readQuarrel_38 rfl (lv_at hl 0 rfl) ?_
          refine lv_icmp_eq (tgt := 61) hx hb dX10_readQuarrel_39 (by decide) (fun c_39 => ?_) (fun c_39 => ?_)
          · simp only [f_X10_readQuarrel__1, ↓reduceIte, q_sg_4, q_sg_6, q_v_5, eq_false c9_v_5, eq_false c_8, q_v_7, q_v_9, q_sg_11, q_v_10, eq_false c9_v_10, eq_false c_29, q_v_12, eq_true c_39] at hE
            exact B61 v_7 v_12 sg_11 ws _ _ ls r_v_7 r_v_12 m_v_12 x_IP_p0 x_RH_p0 x_TOK_p0_gh o_p0 hE hw (lv_sub hl [1, 0] rfl)
          · refine lv_aload_n hx hb dX10_readQuarrel_42 rfl (lv_at hl 1 rfl) ?_
            refine tg_mem (ci := 10) (C := RX10) (T := TX10) (N := 49) hx hb hts inX10 hown hK hw 15 m_u_8 rfl (by decide) (hts _ tw_1152) (fun _ h9 => h9) dX10_readQuarrel_43 ?_
            refine lv_bipush (v := 12) hx hb dX10_readQuarrel_46 (by decide) ?_
            refine lv_iload_n hx hb dX10_readQuarrel_48 rfl (lv_at hl 0 rfl) ?_
            refine lv_iadd hx hb dX10_readQuarrel_49 (lv_topi (fun v_13 e_v_13 => ?_))
            obtain ⟨t_v_13, r_v_13⟩ := tq_add (lo := 12) (hi := 17) rl_12 r_v_7 (by decide +kernel) e_v_13
            have t_v_13 : v_13.toInt = 12 + v_7.toInt := t_v_13
            have q_v_13 : (12 : Int32) + v_7 = v_13 := e_v_13.symm
            refine tg_iald (lo := (-2147483648)) (hi := 2147483647) hx hb hK hw h_vu_8 rfl 12 17 r_v_13 (by decide) (by decide +kernel) dX10_readQuarrel_50 (fun v_14 r_v_14 m_v_14 o_v_14 => ?_)
            have q_v_14 : sg_11.2.2.1 15 (Int32.toNatClampNeg v_13) = v_14 := OV.eqA (V := vw_MODEL) (t := 35) hw.2.2.1 o_p0 m_u_8 m_v_14 (by decide)
            refine lv_aload_n hx hb dX10_readQuarrel_51 rfl (lv_at hl 1 rfl) ?_
            refine tg_mem (ci := 10) (C := RX10) (T := TX10) (N := 49) hx hb hts inX10 hown hK hw 13 m_v_12 rfl (by decide) (hts _ tw_1150) (fun _ h9 => h9) dX10_readQuarrel_52 ?_
            refine tk_ir (va_runS (As := [.int v_14, .int v_12]) (rest := []) ⟨hx, hb, hml, hown, hts⟩ (c_X10_has__4 l D cy z H.size Ps ws hw.1 v_14 v_12 r_v_14 r_v_12) (va_cwS 2 hts (gS tw_1402 tw_1403 tw_15 tw_1404) rfl rfl rfl (by decide +kernel) ⟨Nat.le_of_ble_eq_true rfl, Nat.le_of_ble_eq_true rfl⟩) (tg_preS hw hK hSD hA) rfl rfl hl.1 rfl (lv_room (Nat.le_of_ble_eq_true rfl)) dX10_readQuarrel_55 ⟨Nat.le_of_ble_eq_true rfl, Nat.le_of_ble_eq_true rfl⟩) hw hA (fun v_15  H locs hp_v_15 hw => ?_)
            obtain ⟨hfn, hp_v_15⟩ := hp_v_15
            have q_v_15 : (f_X10_has__4 v_14 v_12) = v_15 := hfn.1
            have r_v_15 : RI v_15 0 1 := hp_v_15.1
            refine lv_if_eq (tgt := 67) hx hb dX10_readQuarrel_58 (by decide) (fun c_58 => ?_) (fun c_58 => ?_)
            · have r_v_15 : RI v_15 0 0 := rc_eq1 r_v_15 rl_0 (ti_eq c_58) (by decide)
              refine lv_aload_n hx hb dX10_readQuarrel_67 rfl (lv_at hl 1 rfl) ?_
              refine tg_mem (ci := 10) (C := RX10) (T := TX10) (N := 49) hx hb hts inX10 hown hK hw 15 m_u_8 rfl (by decide) (hts _ tw_1152) (fun _ h9 => h9) dX10_readQuarrel_68 ?_
              refine lv_bipush (v := 12) hx hb dX10_readQuarrel_71 (by decide) ?_
              refine lv_iload_n hx hb dX10_readQuarrel_73 rfl (lv_at hl 0 rfl) ?_
              refine lv_iadd hx hb dX10_readQuarrel_74 (lv_topi (fun v_16 e_v_16 => ?_))
              obtain ⟨t_v_16, r_v_16⟩ := tq_add (lo := 12) (hi := 17) rl_12 r_v_7 (by decide +kernel) e_v_16
              have t_v_16 : v_16.toInt = 12 + v_7.toInt := t_v_16
              have z9 : v_13 = v_16 := q_v_13.symm.trans (e_v_16.symm)
              subst z9
              refine lv_dup2_11 hx hb dX10_readQuarrel_75 rfl rfl ?_
              refine tg_imem hx hb hK hw h_vu_8 rfl r_v_13 (by decide) m_v_14 dX10_readQuarrel_76 ?_
              refine lv_iconst (v := 1) hx hb dX10_readQuarrel_77 (by decide) ?_
              refine lv_aload_n hx hb dX10_readQuarrel_78 rfl (lv_at hl 1 rfl) ?_
              refine tg_mem (ci := 10) (C := RX10) (T := TX10) (N := 49) hx hb hts inX10 hown hK hw 13 m_v_12 rfl (by decide) (hts _ tw_1150) (fun _ h9 => h9) dX10_readQuarrel_79 ?_
              refine lv_ishl hx hb dX10_readQuarrel_82 (lv_topi (fun v_18 e_v_18 => ?_))
              have r_v_18 : RI v_18 1 256 := by rw [e_v_18]; exact ri_shl1 (r_v_12.to (c := 0) (d := 5) (by decide)) (by decide)
              have q_v_18 : (1 : Int32) <<< (v_12 &&& 31) = v_18 := e_v_18.symm
              refine lv_ior hx hb dX10_readQuarrel_83 (lv_topi (fun v_19 e_v_19 => ?_))
              have r_v_19 := ri_any v_19
              have q_v_19 : v_14 ||| v_18 = v_19 := e_v_19.symm
              have mo9 := m_u_8
              have hw8 := hw
              refine tg_iast hx hb hK hw h_vu_8 rfl 12 17 r_v_13 (by decide) r_v_19 (by decide +kernel) (fun _ _ _ _ _ => trivial) (by decide) dX10_readQuarrel_84 (fun ws H locs hw hF9 hU9 => ?_)
              have x_RH_p0 : AX 15 35 (fun f => RH2p f) Ps ws p0 := AX.ast hF9 hU9 x_RH_p0 m_u_8 (fun f9 h9 => RH_keep h9 (by have k4 := r_v_13.cl (by decide); have k5 := r_v_13; unfold RI at k5; omega))
              have x_IP_p0 : AX 15 35 (fun f => 0 < (f 0).toInt) Ps ws p0 := AX.ast hF9 hU9 x_IP_p0 m_u_8 (fun f9 h9 => by show _ < _; rw [pk_un (by have k4 := r_v_13.cl (by decide); have k5 := r_v_13; unfold RI at k5; omega)]; exact h9)
              have x_TOK_p0_gh := TKP.over hF9 x_TOK_p0_gh (by decide)
              have m_u_8 := FLD.over hF9 m_u_8 (by decide)
              have m_v_12 := FLD.over hF9 m_v_12 (by decide)
              obtain ⟨sg_20, q_sg_20⟩ : ∃ q9 : OS, sA sg_11 15 (Int32.toNatClampNeg v_13) v_19 = q9 := ⟨_, rfl⟩
              have o_p0 : OV vw_MODEL Ps ws p0 sg_20 := by rw [← q_sg_20]; exact OV.putA (V := vw_MODEL) (t := 35) hF9 hU9 o_p0 mo9 (by decide) (by decide)
              refine lv_aload_n hx hb dX10_readQuarrel_85 rfl (lv_at hl 1 rfl) ?_
              refine tg_mem (ci := 10) (C := RX10) (T := TX10) (N := 49) hx hb hts inX10 hown hK hw 15 m_u_8 rfl (by decide) (hts _ tw_1152) (fun _ h9 => h9) dX10_readQuarrel_86 ?_
              refine lv_bipush (v := 12) hx hb dX10_readQuarrel_89 (by decide) ?_
              refine lv_aload_n hx hb dX10_readQuarrel_91 rfl (lv_at hl 1 rfl) ?_
              refine tg_mem (ci := 10) (C := RX10) (T := TX10) (N := 49) hx hb hts inX10 hown hK hw 13 m_v_12 rfl (by decide) (hts _ tw_1150) (fun _ h9 => h9) dX10_readQuarrel_92 ?_
              refine lv_iadd hx hb dX10_readQuarrel_95 (lv_topi (fun v_21 e_v_21 => ?_))
              obtain ⟨t_v_21, r_v_21⟩ := tq_add (lo := 12) (hi := 17) rl_12 r_v_12 (by decide +kernel) e_v_21
              have t_v_21 : v_21.toInt = 12 + v_12.toInt := t_v_21
              have q_v_21 : (12 : Int32) + v_12 = v_21 := e_v_21.symm
              refine lv_dup2_11 hx hb dX10_readQuarrel_96 rfl rfl ?_
              refine tg_iald (lo := (-2147483648)) (hi := 2147483647) hx hb hK hw h_vu_8 rfl 12 17 r_v_21 (by decide) (by decide +kernel) dX10_readQuarrel_97 (fun v_22 r_v_22 m_v_22 o_v_22 => ?_)
              have q_v_22 : sg_20.2.2.1 15 (Int32.toNatClampNeg v_21) = v_22 := OV.eqA (V := vw_MODEL) (t := 35) hw.2.2.1 o_p0 m_u_8 m_v_22 (by decide)
              refine lv_iconst (v := 1) hx hb dX10_readQuarrel_98 (by decide) ?_
              refine lv_iload_n hx hb dX10_readQuarrel_99 rfl (lv_at hl 0 rfl) ?_
              refine lv_ishl hx hb dX10_readQuarrel_100 (lv_topi (fun v_23 e_v_23 => ?_))
              have r_v_23 : RI v_23 1 256 := by rw [e_v_23]; exact ri_shl1 (r_v_7.to (c := 0) (d := 5) (by decide)) (by decide)
              have q_v_23 : (1 : Int32) <<< (v_7 &&& 31) = v_23 := e_v_23.symm
              refine lv_ior hx hb dX10_readQuarrel_101 (lv_topi (fun v_24 e_v_24 => ?_))
              have r_v_24 := ri_any v_24
              have q_v_24 : v_22 ||| v_23 = v_24 := e_v_24.symm
              have mo9 := m_u_8
              have hw8 := hw
              refine tg_iast hx hb hK hw h_vu_8 rfl 12 17 r_v_21 (by decide) r_v_24 (by decide +kernel) (fun _ _ _ _ _ => trivial) (by decide) dX10_readQuarrel_102 (fun ws H locs hw hF9 hU9 => ?_)
              have x_RH_p0 : AX 15 35 (fun f => RH2p f) Ps ws p0 := AX.ast hF9 hU9 x_RH_p0 m_u_8 (fun f9 h9 => RH_keep h9 (by have k4 := r_v_21.cl (by decide); have k5 := r_v_21; unfold RI at k5; omega))
              have x_IP_p0 : AX 15 35 (fun f => 0 < (f 0).toInt) Ps ws p0 := AX.ast hF9 hU9 x_IP_p0 m_u_8 (fun f9 h9 => by show _ < _; rw [pk_un (by have k4 := r_v_21.cl (by decide); have k5 := r_v_21; unfold RI at k5; omega)]; exact h9)
              have x_TOK_p0_gh := TKP.over hF9 x_TOK_p0_gh (by decide)
              have m_u_8 := FLD.over hF9 m_u_8 (by decide)
              have m_v_12 := FLD.over hF9 m_v_12 (by decide)
              obtain ⟨sg_25, q_sg_25⟩ : ∃ q9 : OS, sA sg_20 15 (Int32.toNatClampNeg v_21) v_24 = q9 := ⟨_, rfl⟩
              have o_p0 : OV vw_MODEL Ps ws p0 sg_25 := by rw [← q_sg_25]; exact OV.putA (V := vw_MODEL) (t := 35) hF9 hU9 o_p0 mo9 (by decide) (by decide)
              refine lv_aload_n hx hb dX10_readQuarrel_103 rfl (lv_at hl 1 rfl) ?_
              have x_TO_p0_gh : TOP ws p0 (gh) := TKP.top x_TOK_p0_gh
              refine tk_v (va_runV (As := []) (rest := []) ⟨hx, hb, hml, hown, hts⟩ (c_X10_go__2 l D cy z H.size Ps ws hw.1 p0 (gh) sg_25 h_p0 x_TO_p0_gh o_p0) (cwV 0 hts (gV tw_1298 tw_1300 ts_40 tw_15 tw_1301) rfl rfl rfl (by decide +kernel) ⟨Nat.le_of_ble_eq_true rfl, Nat.le_of_ble_eq_true rfl⟩) (tg_preV hw hK hSD hA (ci := 10) (q := (RX10, TX10, 49)) rfl h_p0 rfl) rfl rfl hl.1 rfl (lv_room (Nat.le_of_ble_eq_true rfl)) dX10_readQuarrel_104 ⟨Nat.le_of_ble_eq_true rfl, Nat.le_of_ble_eq_true rfl⟩) hw hA ⟨by decide, by decide⟩ (fun ws H locs hp_v_26 hw hF9 => ?_)
              have m_u_8 := FLD.over hF9 m_u_8 (by decide)
              have m_v_12 := FLD.over hF9 m_v_12 (by decide)
              have x_RH_p0 := AX.over hF9 x_RH_p0 (by decide)
              have x_IP_p0 := AX.over hF9 x_IP_p0 (by decide)
              obtain ⟨hfn, hp_v_26⟩ := hp_v_26
              obtain ⟨sg_27, q_sg_27⟩ : ∃ q9 : OS, (f_X10_go__2 sg_25) = q9 := ⟨_, rfl⟩
              have o_p0 : OV vw_MODEL Ps ws p0 sg_27 := by rw [← q_sg_27]; exact hfn.1
              have x_TOK_p0_gh := (hp_v_26.1)
              refine lv_iconst (v := 1) hx hb dX10_readQuarrel_107 (by decide) ?_
              simp only [f_X10_readQuarrel__1, ↓reduceIte, q_sg_4, q_sg_6, q_v_5, eq_false c9_v_5, eq_false c_8, q_v_7, q_v_9, q_sg_11, q_v_10, eq_false c9_v_10, eq_false c_29, q_v_12, eq_false c_39, q_v_13, q_v_14, q_v_15, eq_true c_58, q_v_18, q_v_19, q_sg_20, q_v_21, q_v_22, q_v_23, q_v_24, q_sg_25, q_sg_27] at hE
              subst hQ
              exact W.zret (v := 1) hx hb hr (rfl) (fun t ht hW => ⟨⟨1, ws, rfl, ⟨⟨⟨(by rw [hR, ← hE]; exact o_p0), (by rw [hR, ← hE]), trivial⟩, rl_1.to (by decide), (fun _ => trivial), (fun h0 => ⟨⟨_, m_v_12, r_v_12⟩, x_TOK_p0_gh, x_RH_p0, trivial⟩)⟩, hw.1, hw.2.2.2.2.1⟩, by rw [ht]; exact hw.2.1, va_K.moved hW.alike hK, hw.2.2.1⟩, hw.2.2.2.1.F ht⟩) hw.2.2.2.1.2.2 dX10_readQuarrel_108
            · have r_v_15 : RI v_15 1 1 := rc_neL r_v_15 rl_0 (ti_ne c_58) (by decide)
              simp only [f_X10_readQuarrel__1, ↓reduceIte, q_sg_4, q_sg_6, q_v_5, eq_false c9_v_5, eq_false c_8, q_v_7, q_v_9, q_sg_11, q_v_10, eq_false c9_v_10, eq_false c_29, q_v_12, eq_false c_39, q_v_13, q_v_14, q_v_15, eq_false c_58] at hE
              exact B61 v_7 v_12 sg_11 ws _ _ ls r_v_7 r_v_12 m_v_12 x_IP_p0 x_RH_p0 x_TOK_p0_gh o_p0 hE hw (lv_sub hl [1, 0] rfl)
        · have r_v_10 : RI v_10 1 0 := rc_eq1 r_v_10 rl_0 (ti_eq c_29) (by decide)
          exact (r_v_10.no (by decide)).elim
    · have r_v_5 : RI v_5 1 0 := rc_eq1 r_v_5 rl_0 (ti_eq c_8) (by decide)
      exact (r_v_5.no (by decide)).elim
abbrev wr_X10_findIn__10 : List (Nat × Nat) := []
abbrev wa_X10_findIn__10 : List Nat := []
set_option maxHeartbeats 4000000 in
set_option maxRecDepth 100000 in
theorem c_X10_findIn__10 (l : Launch) (D : va_G) (cy : Nat → ClassId) (z : Nat → Nat) (sz : Nat) (Ps : PSI) (w0 : va_W) (hT : HT cy GG Ps w0) (p0 : Nat) (p1 : Int32) (p2 : Int32) (p3 : Int64) (s0 : Nat → Int64) (h_p0 : (p0, 42) ∈ Ps) (r_p1 : RI p1 10 10) (r_p2 : RI p2 0 6) (r_p3 : RJ p3 (-9223372036854775808) 9223372036854775807) (o_p0 : ARL Ps w0 p0 42 s0) : Met l yX10_findIn (Cond.code yX10_findIn cX10_findIn 6 (some .int) :: gT) ({ frames := 0, cells := 0, slots := 0, locals := 200 } : Room) (va_Pc [.ref p0, .int p1, .int p2, .long p3] (PRE D cy z w0 sz)) (va_Qi (fun (r : Int32) (u : Unit) => ((f_X10_findIn__9 p1 p2 p3 s0) = r ∧ True) ∧ (RI r (-1) 5 ∧ (r = 0 → True) ∧ (¬ r = 0 → True) ∧ (True) ∧ (r.toInt < 0 → NFD w0 p0 p1 p2 p3 ∧ True) ∧ (0 ≤ r.toInt → FDD w0 p0 p1 p2 p3 ∧ 1 ≤ Int32.toInt p2 ∧ True))) (BB D cy (va_A w0 sz) (fun (u : Unit) => w0)) (va_A w0 sz)) 0 0 (va_A w0 sz) := by
  refine Met.ofW (cc := cX10_findIn) (maxL := 6) (ret := (some .int)) (by decide) rfl ?_
  intro p e s m args below meth c s₁ B hml hv
  obtain ⟨rfl, hsz, hP, hK, hD0, hSD⟩ := hv
  have hx := B.exec
  have hb := B.bytes
  have hr := B.returns
  have hlocks := B.notSynchronized
  have hts : ∀ w ∈ gT, w.before _ s = true := fun w h => atoms_spec (ws := Cond.code yX10_findIn cX10_findIn 6 (some .int) :: gT) B.pre w (List.mem_cons_of_mem _ h)
  have hown : s.vm.findClass RX10 = some m.cls := findClass_of_methodNamed B.named
  subst hsz
  have hD := hD0.self (sz := s.heap.size)
  generalize hAe : va_A w0 s.heap.size = A at hD hSD ⊢
  have hA : ∀ q : Nat, s.heap.size ≤ q → A q := fun q h => by rw [← hAe]; exact Or.inr h
  have hl := lv_entry ([.ref p0, .int p1, .int p2, .long p3]) (n := 6) (Nat.le_of_ble_eq_true rfl)
  rw [lg_entry_eq]
  generalize (lg_sl ([.ref p0, .int p1, .int p2, .long p3]) ++ List.replicate (6 - (lg_sl ([.ref p0, .int p1, .int p2, .long p3])).length) Slot.unset).toArray = ls at hl ⊢
  have hl : lv_has ls 6 [(0, .ref p0), (1, .int p1), (2, .int p2), (3, .long p3)] := hl
  refine nameQ (fun Q hQ => ?_)
  have hw : WD D cy GG A s wr_X10_findIn__10 wa_X10_findIn__10 Ps w0 Ps w0 s.heap [] := ⟨hT, hP, hD, va_S.rf, FR.rf, hT.1, [], (List.append_nil _).symm⟩
  obtain ⟨R9, hR⟩ : ∃ q9 : Int32, f_X10_findIn__9 p1 p2 p3 s0 = q9 := ⟨_, rfl⟩
  have hE := hR
  have B3 : ∀ (nf : Nat) (x5 : Int32) (s0 : Nat → Int64) (H : Heap) (locs : List Loc) (ls : Array Slot), 6 - x5.toInt < (nf : Int) → RI p1 10 10 → RI p2 0 6 → RJ p3 (-9223372036854775808) 9223372036854775807 → RI x5 0 6 → NFD w0 p0 p1 x5 p3 → ARL Ps w0 p0 42 s0 → f_X10_findIn__9_3 p1 p2 p3 nf x5 s0 = R9 → WD D cy GG A s wr_X10_findIn__10 wa_X10_findIn__10 Ps w0 Ps w0 H locs → lv_has ls 6 [(0, .ref p0), (1, .int p1), (2, .int p2), (3, .long p3), (5, .int x5)] → W p l e (headSpec (Cond.code yX10_findIn cX10_findIn 6 (some .int) :: gT) ({ frames := 0, cells := 0, slots := 0, locals := 200 } : Room)).room s m ([.ref p0, .int p1, .int p2, .long p3] : List Value).toArray below meth c H locs 0 0 Q (F0 m 3 ls []) := by
    intro nf3
    induction nf3 with
    | zero =>
      intro x5 s0 H locs ls hn3 r_p1 r_p2 r_p3 r_x5 x_NF_p0_p1__5_p3 o_p0 hE hw hl
      exact absurd hn3 (by have q0 := r_x5.1; have u0 := r_x5.2; omega)
    | succ nf3 ih3 =>
      intro x5 s0 H locs ls hn3 r_p1 r_p2 r_p3 r_x5 x_NF_p0_p1__5_p3 o_p0 hE hw hl
      refine lv_iload hx hb dX10_findIn_3 (lv_at hl 4 rfl) ?_
      refine lv_iload_n hx hb dX10_findIn_5 rfl (lv_at hl 2 rfl) ?_
      refine lv_icmp_ge (tgt := 29) hx hb dX10_findIn_6 (by decide) (fun c_6 => ?_) (fun c_6 => ?_)
      · have x_NF_p0_p1_p2_p3 : NFD w0 p0 p1 p2 p3 := NFD.mono x_NF_p0_p1__5_p3 c_6
        refine lv_iconst (v := (-1)) hx hb dX10_findIn_29 (by decide) ?_
        simp only [f_X10_findIn__9_3, ↓reduceIte, eq_true c_6] at hE
        subst hQ
        exact W.iret (v := (-1)) hx hb hr (fun t ht hW => ⟨⟨(-1), (), rfl, ⟨⟨(by rw [hR, ← hE]), trivial⟩, rl_m1.to (by decide), (fun _ => trivial), (fun h0 => trivial), trivial, (fun h0 => ⟨x_NF_p0_p1_p2_p3, trivial⟩), (fun h0 => absurd h0 (by have h8 := rl_m1; unfold RI at h8; omega))⟩, by rw [ht]; exact hw.2.1, va_K.moved hW.alike hK, hw.2.2.1⟩, hw.2.2.2.1.F ht⟩) hw.2.2.2.1.2.2 dX10_findIn_30
      · have r_x5 : RI x5 0 5 := rc_lt1 r_x5 r_p2 (ti_nle c_6) (by decide)
        have r_p2 : RI p2 1 6 := rc_lt2 r_x5 r_p2 (ti_nle c_6) (by decide)
        refine lv_aload_n hx hb dX10_findIn_9 rfl (lv_at hl 0 rfl) ?_
        refine lv_iload_n hx hb dX10_findIn_10 rfl (lv_at hl 1 rfl) ?_
        refine lv_iload hx hb dX10_findIn_11 (lv_at hl 4 rfl) ?_
        refine lv_iadd hx hb dX10_findIn_13 (lv_topi (fun v_1 e_v_1 => ?_))
        obtain ⟨t_v_1, r_v_1⟩ := tq_add (lo := 10) (hi := 15) r_p1 r_x5 (by decide +kernel) e_v_1
        have q_v_1 : p1 + x5 = v_1 := e_v_1.symm
        refine tg_laldE hx hb hK hw h_p0 rfl r_v_1 (by decide) dX10_findIn_14 (fun w_2 r_w_2 l_w_2 => ?_)
        have q_w_2 : s0 (Int32.toNatClampNeg v_1) = w_2 := ARL.lel hw.2.2.1 o_p0 l_w_2
        refine lv_lload_n hx hb dX10_findIn_15 rfl (lv_at hl 3 rfl) ?_
        refine W.lcmp hx hb dX10_findIn_16 (lv_topi (fun v_3 e_v_3 => ?_))
        have r_v_3 := ri_any v_3
        have q_v_3 : lg_cmp w_2 p3 = v_3 := e_v_3.symm
        refine lv_if_ne (tgt := 23) hx hb dX10_findIn_17 (by decide) (fun c_17 => ?_) (fun c_17 => ?_)
        · obtain ⟨v_4, e_v_4⟩ : ∃ q9 : Int32, q9 = x5 + Int32.ofInt 1 := ⟨_, rfl⟩
          obtain ⟨t_v_4, r_v_4⟩ := tq_add (lo := 1) (hi := 6) r_x5 (show RI (Int32.ofInt 1) 1 1 by unfold RI; decide +kernel) (by decide +kernel) e_v_4
          have t_v_4 : v_4.toInt = x5.toInt + 1 := t_v_4
          refine lv_iinc (v := v_4) (lv' := [(5, .int v_4), (0, .ref p0), (1, .int p1), (2, .int p2), (3, .long p3)]) hx hb dX10_findIn_23 hl (k := 4) rfl e_v_4.symm (by decide) rfl (fun ls hl => ?_)
          have q_v_4 : x5 + (1 : Int32) = v_4 := by rw [e_v_4, show Int32.ofInt 1 = (1 : Int32) by decide]
          refine lv_goto (tgt := 3) hx hb dX10_findIn_26 (by decide) ?_
          simp only [f_X10_findIn__9_3, ↓reduceIte, eq_false c_6, q_v_1, q_w_2, q_v_3, eq_false c_17, q_v_4] at hE
          have x_NF_p0_p1_v_4_p3 : NFD w0 p0 p1 v_4 p3 := NFD.step hw x_NF_p0_p1__5_p3 l_w_2 (by have k1 := r_v_1.cl (by decide); have k2 := r_p1.cl (by decide); have k3 := r_x5.cl (by decide); omega) (lcmp_ne e_v_3 c_17) t_v_4 r_x5.1
          exact ih3 v_4 s0 _ _ ls (by have q0 := r_v_4.1; have u0 := r_v_4.2; have o0 := r_x5.1; have p0 := r_x5.2; omega) r_p1 (r_p2.to (by decide)) r_p3 (r_v_4.to (by decide)) x_NF_p0_p1_v_4_p3 o_p0 hE hw (lv_sub hl [1, 2, 3, 4, 0] rfl)
        · have r_v_3 : RI v_3 0 0 := rc_eq1 r_v_3 rl_0 (ti_eq c_17) (by decide)
          have x_FD_p0_p1_p2_p3 : FDD w0 p0 p1 p2 p3 := FDD.mk l_w_2 (by have k1 := r_v_1.cl (by decide); have k2 := r_p1.cl (by decide); have k3 := r_x5.cl (by decide); omega) (lcmp_eq e_v_3 c_17) (ti_nle c_6) r_x5.1
          have x_POS_p2 : 1 ≤ Int32.toInt p2 := by have k1 := ti_nle c_6; have k2 := r_x5.1; omega
          refine lv_iload hx hb dX10_findIn_20 (lv_at hl 4 rfl) ?_
          simp only [f_X10_findIn__9_3, ↓reduceIte, eq_false c_6, q_v_1, q_w_2, q_v_3, eq_true c_17] at hE
          subst hQ
          exact W.iret (v := x5) hx hb hr (fun t ht hW => ⟨⟨x5, (), rfl, ⟨⟨(by rw [hR, ← hE]), trivial⟩, r_x5.to (by decide), (fun h0 => trivial), (fun h0 => trivial), trivial, (fun h0 => absurd h0 (by have h8 := r_x5; unfold RI at h8; omega)), (fun h0 => ⟨x_FD_p0_p1_p2_p3, x_POS_p2, trivial⟩)⟩, by rw [ht]; exact hw.2.1, va_K.moved hW.alike hK, hw.2.2.1⟩, hw.2.2.2.1.F ht⟩) hw.2.2.2.1.2.2 dX10_findIn_22
  refine lv_iconst (v := 0) hx hb dX10_findIn_0 (by decide) ?_
  refine lv_istore (lv' := [(5, .int 0), (0, .ref p0), (1, .int p1), (2, .int p2), (3, .long p3)]) hx hb dX10_findIn_1 hl (by decide) rfl (fun ls hl => ?_)
  simp only [f_X10_findIn__9, ↓reduceIte] at hE
  have x_NF_p0_p1_0_p3 : NFD w0 p0 p1 0 p3 := NFD.zero hw h_p0 rfl
  exact B3 4294967298 0 s0 _ _ ls (by have q0 := rl_0.1; have u0 := rl_0.2; omega) r_p1 r_p2 r_p3 (rl_0.to (by decide)) x_NF_p0_p1_0_p3 o_p0 hE hw (lv_sub hl [1, 2, 3, 4, 0] rfl)
abbrev wr_X10_isOne__5 : List (Nat × Nat) := [(10, 10), (10, 11), (10, 13)]
abbrev wa_X10_isOne__5 : List Nat := []
set_option maxHeartbeats 4000000 in
set_option maxRecDepth 100000 in
theorem c_X10_isOne__5 (l : Launch) (D : va_G) (cy : Nat → ClassId) (z : Nat → Nat) (sz : Nat) (Ps : PSI) (w0 : va_W) (hT : HT cy GG Ps w0) (p0 : Nat) (p1 : Int32) (p2 : Int32) (s0 : OS) (h_p0 : (p0, 55) ∈ Ps) (r_p1 : RI p1 10 10) (r_p2 : RI p2 0 6) (o_p0 : OV vw_MODEL Ps w0 p0 s0) : Met l yX10_isOne (Cond.code yX10_isOne cX10_isOne 3 (some .boolean) :: gT) ({ frames := 4, cells := 0, slots := 0, locals := 800 } : Room) (va_Pc [.ref p0, .int p1, .int p2] (PRE D cy z w0 sz)) (va_Qi (fun (r : Int32) (u : va_W) => ((OV vw_MODEL Ps u p0 ((f_X10_isOne__4 p1 p2 s0).1) ∧ (f_X10_isOne__4 p1 p2 s0).2 = r ∧ True) ∧ (RI r 0 1 ∧ (r = 0 → True) ∧ (¬ r = 0 → RI p2 1 6 ∧ (∃ v9 : Int32, FLD u p0 10 13 (.int v9) ∧ RI v9 0 5) ∧ True))) ∧ HT cy GG Ps u ∧ FR wr_X10_isOne__5 wa_X10_isOne__5 Ps w0 u) (BB D cy (va_A w0 sz) (fun (u : va_W) => u)) (va_A w0 sz)) 0 0 (va_A w0 sz) := by
  refine Met.ofW (cc := cX10_isOne) (maxL := 3) (ret := (some .boolean)) (by decide) rfl ?_
  intro p e s m args below meth c s₁ B hml hv
  obtain ⟨rfl, hsz, hP, hK, hD0, hSD⟩ := hv
  have hx := B.exec
  have hb := B.bytes
  have hr := B.returns
  have hlocks := B.notSynchronized
  have hts : ∀ w ∈ gT, w.before _ s = true := fun w h => atoms_spec (ws := Cond.code yX10_isOne cX10_isOne 3 (some .boolean) :: gT) B.pre w (List.mem_cons_of_mem _ h)
  have hown : s.vm.findClass RX10 = some m.cls := findClass_of_methodNamed B.named
  subst hsz
  have hD := hD0.self (sz := s.heap.size)
  generalize hAe : va_A w0 s.heap.size = A at hD hSD ⊢
  have hA : ∀ q : Nat, s.heap.size ≤ q → A q := fun q h => by rw [← hAe]; exact Or.inr h
  have hl := lv_entry ([.ref p0, .int p1, .int p2]) (n := 3) (Nat.le_of_ble_eq_true rfl)
  rw [lg_entry_eq]
  generalize (lg_sl ([.ref p0, .int p1, .int p2]) ++ List.replicate (3 - (lg_sl ([.ref p0, .int p1, .int p2])).length) Slot.unset).toArray = ls at hl ⊢
  have hl : lv_has ls 3 [(0, .ref p0), (1, .int p1), (2, .int p2)] := hl
  refine nameQ (fun Q hQ => ?_)
  have hw : WD D cy GG A s wr_X10_isOne__5 wa_X10_isOne__5 Ps w0 Ps w0 s.heap [] := ⟨hT, hP, hD, va_S.rf, FR.rf, hT.1, [], (List.append_nil _).symm⟩
  obtain ⟨R9, hR⟩ : ∃ q9 : OS × Int32, f_X10_isOne__4 p1 p2 s0 = q9 := ⟨_, rfl⟩
  have hE := hR
  refine lv_aload_n hx hb dX10_isOne_0 rfl (lv_at hl 0 rfl) ?_
  refine tk_ir (va_runV (As := []) (rest := []) ⟨hx, hb, hml, hown, hts⟩ (c_X10_isName__1 l D cy z s.heap.size Ps w0 hw.1 p0 s0 h_p0 o_p0) (cwV 0 hts (gV tw_1344 tw_1346 ts_48 tw_15 tw_1347) rfl rfl rfl (by decide +kernel) ⟨Nat.le_of_ble_eq_true rfl, Nat.le_of_ble_eq_true rfl⟩) (tg_preV hw hK hSD hA (ci := 10) (q := (RX10, TX10, 49)) rfl h_p0 rfl) rfl rfl hl.1 rfl (lv_room (Nat.le_of_ble_eq_true rfl)) dX10_isOne_1 ⟨Nat.le_of_ble_eq_true rfl, Nat.le_of_ble_eq_true rfl⟩) hw hA (fun v_1  H locs hp_v_1 hw => ?_)
  obtain ⟨hfn, hp_v_1⟩ := hp_v_1
  have q_v_1 : (f_X10_isName__1 s0) = v_1 := hfn.1
  have r_v_1 : RI v_1 0 1 := hp_v_1.1
  refine lv_if_ne (tgt := 13) hx hb dX10_isOne_4 (by decide) (fun c_4 => ?_) (fun c_4 => ?_)
  · have r_v_1 : RI v_1 1 1 := rc_neL r_v_1 rl_0 (ti_ne c_4) (by decide)
    refine lv_aload_n hx hb dX10_isOne_13 rfl (lv_at hl 0 rfl) ?_
    refine lv_aload_n hx hb dX10_isOne_14 rfl (lv_at hl 0 rfl) ?_
    refine tg_get (ci := 10) (ts := ty_MODEL) (C := RX10) (T := TX10) (N := 49) hx hb hts inX10 hown hK hw h_p0 rfl rfl 21 (by decide) (hts _ tw_1158) (fun _ h9 => h9) (ft := vR 42) rfl dX10_isOne_15 (fun u_2 hv_u_2 m_u_2 => ?_)
    obtain ⟨vu_2, rfl, h_vu_2⟩ := hv_u_2
    refine lv_iload_n hx hb dX10_isOne_18 rfl (lv_at hl 1 rfl) ?_
    refine lv_iload_n hx hb dX10_isOne_19 rfl (lv_at hl 2 rfl) ?_
    refine lv_aload_n hx hb dX10_isOne_20 rfl (lv_at hl 0 rfl) ?_
    refine tg_get (ci := 10) (ts := ty_MODEL) (C := RX10) (T := TX10) (N := 49) hx hb hts inX10 hown hK hw h_p0 rfl rfl 12 (by decide) (hts _ tw_1149) (fun _ h9 => h9) (ft := vJ (-9223372036854775808) 9223372036854775807) rfl dX10_isOne_21 (fun u_3 hv_u_3 m_u_3 => ?_)
    obtain ⟨vu_3, rfl, r_vu_3⟩ := hv_u_3
    have q_vu_3 : s0.2.1 12 = vu_3 := OV.eqL (V := vw_MODEL) hw.2.2.1 o_p0 m_u_3 (by decide)
    have oa_vu_2 := OV.arrB (V := vw_MODEL) (t := 42) hw.2.2.1 o_p0 m_u_2 (by decide)
    have mo9_vu_2 := And.intro hw.2.2.1 m_u_2
    refine tk_ir (va_runS (As := [.ref vu_2, .int p1, .int p2, .long vu_3]) (rest := [.ref p0]) ⟨hx, hb, hml, hown, hts⟩ (c_X10_findIn__10 l D cy z H.size Ps w0 hw.1 vu_2 p1 p2 vu_3 (s0.2.2.2 21) h_vu_2 r_p1 r_p2 r_vu_3 oa_vu_2) (va_cwS 4 hts (gS tw_1352 tw_1353 tw_15 tw_1354) rfl rfl rfl (by decide +kernel) ⟨Nat.le_of_ble_eq_true rfl, Nat.le_of_ble_eq_true rfl⟩) (tg_preS hw hK hSD hA) rfl rfl hl.1 rfl (lv_room (Nat.le_of_ble_eq_true rfl)) dX10_isOne_24 ⟨Nat.le_of_ble_eq_true rfl, Nat.le_of_ble_eq_true rfl⟩) hw hA (fun v_4  H locs hp_v_4 hw => ?_)
    obtain ⟨hfn, hp_v_4⟩ := hp_v_4
    have q_v_4 : (f_X10_findIn__9 p1 p2 vu_3 (s0.2.2.2 21)) = v_4 := hfn.1
    have r_v_4 : RI v_4 (-1) 5 := hp_v_4.1
    by_cases c9_v_4 : v_4.toInt < 0
    · have r_v_4 : RI v_4 (-1) (-1) := by unfold RI at r_v_4 ⊢; omega
      have x_NF_vu_2_p1_p2_vu_3 := (hp_v_4.2.2.2.2.1 (by omega)).1
      have hw8 := hw
      refine tg_put (ci := 10) (ts := ty_MODEL) (v := .int v_4) (ty := .int) (C := RX10) (T := TX10) (N := 49) hx hb hts inX10 tyX10 tyX10_ok nmX10 hown hK hw h_p0 rfl rfl 13 (by decide) (hts _ tw_1150) (fun _ h9 => h9) rfl (by decide +kernel) rfl rfl (ft := vI (-2147483648) 2147483647) rfl ⟨_, rfl, (r_v_4.to (by decide))⟩ (by decide) dX10_isOne_27 (fun ws H locs hw n_k_5 hF9 => ?_)
      have m_u_2 := FLD.over hF9 m_u_2 (by decide)
      have m_u_3 := FLD.over hF9 m_u_3 (by decide)
      have x_NF_vu_2_p1_p2_vu_3 := NFD.over hw8 hF9 h_vu_2 x_NF_vu_2_p1_p2_vu_3 (by decide)
      obtain ⟨sg_6, q_sg_6⟩ : ∃ q9 : OS, sI s0 13 v_4 = q9 := ⟨_, rfl⟩
      have o_p0 : OV vw_MODEL Ps ws p0 sg_6 := by rw [← q_sg_6]; exact OV.putI (V := vw_MODEL) hF9 n_k_5 o_p0 (by decide)
      refine lv_aload_n hx hb dX10_isOne_30 rfl (lv_at hl 0 rfl) ?_
      refine tg_mem (ci := 10) (C := RX10) (T := TX10) (N := 49) hx hb hts inX10 hown hK hw 13 n_k_5 rfl (by decide) (hts _ tw_1150) (fun _ h9 => h9) dX10_isOne_31 ?_
      refine lv_iconst (v := (-1)) hx hb dX10_isOne_34 (by decide) ?_
      refine lv_icmp_ne (tgt := 46) hx hb dX10_isOne_35 (by decide) (fun c_35 => ?_) (fun c_35 => ?_)
      · exact absurd (r_v_4.eq.trans rl_m1.eq.symm) ((ti_ne c_35))
      · refine lv_aload_n hx hb dX10_isOne_38 rfl (lv_at hl 0 rfl) ?_
        refine lv_iconst (v := 3) hx hb dX10_isOne_39 (by decide) ?_
        have hw8 := hw
        refine tk_i (va_runV (As := [.int 3]) (rest := []) ⟨hx, hb, hml, hown, hts⟩ (c_X10_bad__1 l D cy z H.size Ps ws hw.1 p0 3 sg_6 h_p0 (rl_3.to (by decide)) o_p0) (cwV 1 hts (gV tw_1336 tw_1338 ts_46 tw_15 tw_1339) rfl rfl rfl (by decide +kernel) ⟨Nat.le_of_ble_eq_true rfl, Nat.le_of_ble_eq_true rfl⟩) (tg_preV hw hK hSD hA (ci := 10) (q := (RX10, TX10, 49)) rfl h_p0 rfl) rfl rfl hl.1 rfl (lv_room (Nat.le_of_ble_eq_true rfl)) dX10_isOne_40 ⟨Nat.le_of_ble_eq_true rfl, Nat.le_of_ble_eq_true rfl⟩) hw hA ⟨by decide, by decide⟩ (fun v_7 ws H locs hp_v_7 hw hF9 => ?_)
        have m_u_2 := FLD.over hF9 m_u_2 (by decide)
        have m_u_3 := FLD.over hF9 m_u_3 (by decide)
        have n_k_5 := FLD.over hF9 n_k_5 (by decide)
        have x_NF_vu_2_p1_p2_vu_3 := NFD.over hw8 hF9 h_vu_2 x_NF_vu_2_p1_p2_vu_3 (by decide)
        obtain ⟨hfn, hp_v_7⟩ := hp_v_7
        obtain ⟨sg_8, q_sg_8⟩ : ∃ q9 : OS, (f_X10_bad__1 (3 : Int32) sg_6).1 = q9 := ⟨_, rfl⟩
        have o_p0 : OV vw_MODEL Ps ws p0 sg_8 := by rw [← q_sg_8]; exact hfn.1
        have q_v_7 : (f_X10_bad__1 (3 : Int32) sg_6).2 = v_7 := hfn.2.1
        have r_v_7 : RI v_7 0 0 := hp_v_7.1
        refine lv_if_eq (tgt := 50) hx hb dX10_isOne_43 (by decide) (fun c_43 => ?_) (fun c_43 => ?_)
        · refine lv_iconst (v := 0) hx hb dX10_isOne_50 (by decide) ?_
          simp only [f_X10_isOne__4, ↓reduceIte, q_v_1, eq_false c_4, q_vu_3, q_v_4, eq_true c9_v_4, q_sg_6, eq_true c_35, q_sg_8, q_v_7, eq_true c_43] at hE
          subst hQ
          exact W.zret (v := 0) hx hb hr (rfl) (fun t ht hW => ⟨⟨0, ws, rfl, ⟨⟨⟨(by rw [hR, ← hE]; exact o_p0), (by rw [hR, ← hE]), trivial⟩, rl_0.to (by decide), (fun h0 => trivial), (fun h0 => absurd rfl h0)⟩, hw.1, hw.2.2.2.2.1⟩, by rw [ht]; exact hw.2.1, va_K.moved hW.alike hK, hw.2.2.1⟩, hw.2.2.2.1.F ht⟩) hw.2.2.2.1.2.2 dX10_isOne_51
        · exact absurd (r_v_7.eq.trans rl_0.eq.symm) ((ti_ne c_43))
    · have r_v_4 : RI v_4 0 5 := by unfold RI at r_v_4 ⊢; omega
      have x_FD_vu_2_p1_p2_vu_3 := (hp_v_4.2.2.2.2.2 (by omega)).1
      have x_POS_p2 := (hp_v_4.2.2.2.2.2 (by omega)).2.1
      have r_p2 : RI p2 1 6 := ⟨x_POS_p2, r_p2.2⟩
      have hw8 := hw
      refine tg_put (ci := 10) (ts := ty_MODEL) (v := .int v_4) (ty := .int) (C := RX10) (T := TX10) (N := 49) hx hb hts inX10 tyX10 tyX10_ok nmX10 hown hK hw h_p0 rfl rfl 13 (by decide) (hts _ tw_1150) (fun _ h9 => h9) rfl (by decide +kernel) rfl rfl (ft := vI (-2147483648) 2147483647) rfl ⟨_, rfl, (r_v_4.to (by decide))⟩ (by decide) dX10_isOne_27 (fun ws H locs hw n_k_9 hF9 => ?_)
      have m_u_2 := FLD.over hF9 m_u_2 (by decide)
      have m_u_3 := FLD.over hF9 m_u_3 (by decide)
      have x_FD_vu_2_p1_p2_vu_3 := FDD.over hw8 hF9 h_vu_2 x_FD_vu_2_p1_p2_vu_3 (by decide)
      obtain ⟨sg_10, q_sg_10⟩ : ∃ q9 : OS, sI s0 13 v_4 = q9 := ⟨_, rfl⟩
      have o_p0 : OV vw_MODEL Ps ws p0 sg_10 := by rw [← q_sg_10]; exact OV.putI (V := vw_MODEL) hF9 n_k_9 o_p0 (by decide)
      refine lv_aload_n hx hb dX10_isOne_30 rfl (lv_at hl 0 rfl) ?_
      refine tg_mem (ci := 10) (C := RX10) (T := TX10) (N := 49) hx hb hts inX10 hown hK hw 13 n_k_9 rfl (by decide) (hts _ tw_1150) (fun _ h9 => h9) dX10_isOne_31 ?_
      refine lv_iconst (v := (-1)) hx hb dX10_isOne_34 (by decide) ?_
      refine lv_icmp_ne (tgt := 46) hx hb dX10_isOne_35 (by decide) (fun c_35 => ?_) (fun c_35 => ?_)
      · refine lv_iconst (v := 1) hx hb dX10_isOne_46 (by decide) ?_
        refine lv_goto (tgt := 51) hx hb dX10_isOne_47 (by decide) ?_
        simp only [f_X10_isOne__4, ↓reduceIte, q_v_1, eq_false c_4, q_vu_3, q_v_4, eq_false c9_v_4, q_sg_10, eq_false c_35] at hE
        subst hQ
        exact W.zret (v := 1) hx hb hr (rfl) (fun t ht hW => ⟨⟨1, ws, rfl, ⟨⟨⟨(by rw [hR, ← hE]; exact o_p0), (by rw [hR, ← hE]), trivial⟩, rl_1.to (by decide), (fun _ => trivial), (fun h0 => ⟨r_p2, ⟨_, n_k_9, r_v_4⟩, trivial⟩)⟩, hw.1, hw.2.2.2.2.1⟩, by rw [ht]; exact hw.2.1, va_K.moved hW.alike hK, hw.2.2.1⟩, hw.2.2.2.1.F ht⟩) hw.2.2.2.1.2.2 dX10_isOne_51
      · have r_v_4 : RI v_4 0 (-1) := rc_eq1 r_v_4 rl_m1 (ti_eq c_35) (by decide)
        exact (r_v_4.no (by decide)).elim
  · have r_v_1 : RI v_1 0 0 := rc_eq1 r_v_1 rl_0 (ti_eq c_4) (by decide)
    refine lv_aload_n hx hb dX10_isOne_7 rfl (lv_at hl 0 rfl) ?_
    refine lv_iconst (v := 1) hx hb dX10_isOne_8 (by decide) ?_
    refine tk_i (va_runV (As := [.int 1]) (rest := []) ⟨hx, hb, hml, hown, hts⟩ (c_X10_bad__1 l D cy z H.size Ps w0 hw.1 p0 1 s0 h_p0 (rl_1.to (by decide)) o_p0) (cwV 1 hts (gV tw_1336 tw_1338 ts_46 tw_15 tw_1339) rfl rfl rfl (by decide +kernel) ⟨Nat.le_of_ble_eq_true rfl, Nat.le_of_ble_eq_true rfl⟩) (tg_preV hw hK hSD hA (ci := 10) (q := (RX10, TX10, 49)) rfl h_p0 rfl) rfl rfl hl.1 rfl (lv_room (Nat.le_of_ble_eq_true rfl)) dX10_isOne_9 ⟨Nat.le_of_ble_eq_true rfl, Nat.le_of_ble_eq_true rfl⟩) hw hA ⟨by decide, by decide⟩ (fun v_11 ws H locs hp_v_11 hw hF9 => ?_)
    obtain ⟨hfn, hp_v_11⟩ := hp_v_11
    obtain ⟨sg_12, q_sg_12⟩ : ∃ q9 : OS, (f_X10_bad__1 (1 : Int32) s0).1 = q9 := ⟨_, rfl⟩
    have o_p0 : OV vw_MODEL Ps ws p0 sg_12 := by rw [← q_sg_12]; exact hfn.1
    have q_v_11 : (f_X10_bad__1 (1 : Int32) s0).2 = v_11 := hfn.2.1
    have r_v_11 : RI v_11 0 0 := hp_v_11.1
    simp only [f_X10_isOne__4, ↓reduceIte, q_v_1, eq_true c_4, q_sg_12, q_v_11] at hE
    subst hQ
    exact W.zret (v := v_11) hx hb hr (tq_nz (r_v_11.to (by decide))) (fun t ht hW => ⟨⟨v_11, ws, rfl, ⟨⟨⟨(by rw [hR, ← hE]; exact o_p0), (by rw [hR, ← hE]), trivial⟩, r_v_11.to (by decide), (fun h0 => trivial), (fun h0 => absurd (Int32.toInt_inj.mp (by have h8 := r_v_11; unfold RI at h8; rw [Int32.toInt_zero]; omega)) h0)⟩, hw.1, hw.2.2.2.2.1⟩, by rw [ht]; exact hw.2.1, va_K.moved hW.alike hK, hw.2.2.1⟩, hw.2.2.2.1.F ht⟩) hw.2.2.2.1.2.2 dX10_isOne_12
abbrev wr_X10_readOne__4 : List (Nat × Nat) := [(10, 5), (10, 6), (10, 7), (10, 8), (10, 9), (10, 10), (10, 11), (10, 12), (10, 13)]
abbrev wa_X10_readOne__4 : List Nat := []
set_option maxHeartbeats 4000000 in
set_option maxRecDepth 100000 in
theorem c_X10_readOne__4 (l : Launch) (D : va_G) (cy : Nat → ClassId) (z : Nat → Nat) (sz : Nat) (Ps : PSI) (w0 : va_W) (hT : HT cy GG Ps w0) (p0 : Nat) (p1 : Int32) (p2 : Int32) (gh : Int) (s0 : OS) (h_p0 : (p0, 55) ∈ Ps) (r_p1 : RI p1 10 10) (r_p2 : RI p2 0 6) (x_TO_p0_gh : TOP w0 p0 (gh)) (o_p0 : OV vw_MODEL Ps w0 p0 s0) : Met l yX10_readOne (Cond.code yX10_readOne cX10_readOne 3 (some .boolean) :: gT) ({ frames := 5, cells := 0, slots := 0, locals := 1000 } : Room) (va_Pc [.ref p0, .int p1, .int p2] (PRE D cy z w0 sz)) (va_Qi (fun (r : Int32) (u : va_W) => ((OV vw_MODEL Ps u p0 ((f_X10_readOne__3 p1 p2 s0).1) ∧ (f_X10_readOne__3 p1 p2 s0).2 = r ∧ True) ∧ (RI r 0 1 ∧ (r = 0 → True) ∧ (¬ r = 0 → RI p2 1 6 ∧ (∃ v9 : Int32, FLD u p0 10 13 (.int v9) ∧ RI v9 0 5) ∧ TKP u p0 (gh) ∧ True))) ∧ HT cy GG Ps u ∧ FR wr_X10_readOne__4 wa_X10_readOne__4 Ps w0 u) (BB D cy (va_A w0 sz) (fun (u : va_W) => u)) (va_A w0 sz)) 0 0 (va_A w0 sz) := by
  refine Met.ofW (cc := cX10_readOne) (maxL := 3) (ret := (some .boolean)) (by decide) rfl ?_
  intro p e s m args below meth c s₁ B hml hv
  obtain ⟨rfl, hsz, hP, hK, hD0, hSD⟩ := hv
  have hx := B.exec
  have hb := B.bytes
  have hr := B.returns
  have hlocks := B.notSynchronized
  have hts : ∀ w ∈ gT, w.before _ s = true := fun w h => atoms_spec (ws := Cond.code yX10_readOne cX10_readOne 3 (some .boolean) :: gT) B.pre w (List.mem_cons_of_mem _ h)
  have hown : s.vm.findClass RX10 = some m.cls := findClass_of_methodNamed B.named
  subst hsz
  have hD := hD0.self (sz := s.heap.size)
  generalize hAe : va_A w0 s.heap.size = A at hD hSD ⊢
  have hA : ∀ q : Nat, s.heap.size ≤ q → A q := fun q h => by rw [← hAe]; exact Or.inr h
  have hl := lv_entry ([.ref p0, .int p1, .int p2]) (n := 3) (Nat.le_of_ble_eq_true rfl)
  rw [lg_entry_eq]
  generalize (lg_sl ([.ref p0, .int p1, .int p2]) ++ List.replicate (3 - (lg_sl ([.ref p0, .int p1, .int p2])).length) Slot.unset).toArray = ls at hl ⊢
  have hl : lv_has ls 3 [(0, .ref p0), (1, .int p1), (2, .int p2)] := hl
  refine nameQ (fun Q hQ => ?_)
  have hw : WD D cy GG A s wr_X10_readOne__4 wa_X10_readOne__4 Ps w0 Ps w0 s.heap [] := ⟨hT, hP, hD, va_S.rf, FR.rf, hT.1, [], (List.append_nil _).symm⟩
  obtain ⟨R9, hR⟩ : ∃ q9 : OS × Int32, f_X10_readOne__3 p1 p2 s0 = q9 := ⟨_, rfl⟩
  have hE := hR
  refine lv_aload_n hx hb dX10_readOne_0 rfl (lv_at hl 0 rfl) ?_
  refine lv_iload_n hx hb dX10_readOne_1 rfl (lv_at hl 1 rfl) ?_
  refine lv_iload_n hx hb dX10_readOne_2 rfl (lv_at hl 2 rfl) ?_
  refine tk_i (va_runV (As := [.int p1, .int p2]) (rest := []) ⟨hx, hb, hml, hown, hts⟩ (c_X10_isOne__5 l D cy z s.heap.size Ps w0 hw.1 p0 p1 p2 s0 h_p0 r_p1 r_p2 o_p0) (cwV 2 hts (gV tw_1378 tw_1380 ts_55 tw_15 tw_1381) rfl rfl rfl (by decide +kernel) ⟨Nat.le_of_ble_eq_true rfl, Nat.le_of_ble_eq_true rfl⟩) (tg_preV hw hK hSD hA (ci := 10) (q := (RX10, TX10, 49)) rfl h_p0 rfl) rfl rfl hl.1 rfl (lv_room (Nat.le_of_ble_eq_true rfl)) dX10_readOne_3 ⟨Nat.le_of_ble_eq_true rfl, Nat.le_of_ble_eq_true rfl⟩) hw hA ⟨by decide, by decide⟩ (fun v_1 ws H locs hp_v_1 hw hF9 => ?_)
  have x_TO_p0_gh := TOP.over hF9 x_TO_p0_gh (by decide)
  obtain ⟨hfn, hp_v_1⟩ := hp_v_1
  obtain ⟨sg_2, q_sg_2⟩ : ∃ q9 : OS, (f_X10_isOne__4 p1 p2 s0).1 = q9 := ⟨_, rfl⟩
  have o_p0 : OV vw_MODEL Ps ws p0 sg_2 := by rw [← q_sg_2]; exact hfn.1
  have q_v_1 : (f_X10_isOne__4 p1 p2 s0).2 = v_1 := hfn.2.1
  have r_v_1 : RI v_1 0 1 := hp_v_1.1
  by_cases c9_v_1 : v_1 = 0
  · have r_v_1 : RI v_1 0 0 := by rw [c9_v_1]; exact rl_0
    refine lv_if_ne (tgt := 11) hx hb dX10_readOne_6 (by decide) (fun c_6 => ?_) (fun c_6 => ?_)
    · exact absurd (r_v_1.eq.trans rl_0.eq.symm) ((ti_ne c_6))
    · refine lv_iconst (v := 0) hx hb dX10_readOne_9 (by decide) ?_
      simp only [f_X10_readOne__3, ↓reduceIte, q_sg_2, q_v_1, eq_true c9_v_1, eq_true c_6] at hE
      subst hQ
      exact W.zret (v := 0) hx hb hr (rfl) (fun t ht hW => ⟨⟨0, ws, rfl, ⟨⟨⟨(by rw [hR, ← hE]; exact o_p0), (by rw [hR, ← hE]), trivial⟩, rl_0.to (by decide), (fun h0 => trivial), (fun h0 => absurd rfl h0)⟩, hw.1, hw.2.2.2.2.1⟩, by rw [ht]; exact hw.2.1, va_K.moved hW.alike hK, hw.2.2.1⟩, hw.2.2.2.1.F ht⟩) hw.2.2.2.1.2.2 dX10_readOne_10
  · have r_v_1 : RI v_1 1 1 := rc_neL r_v_1 rl_0 (ti_ne c9_v_1) (by decide)
    have r_p2 : RI p2 1 6 := ((hp_v_1.2.2 c9_v_1).1)
    obtain ⟨v_3, m_v_3, r_v_3⟩ := ((hp_v_1.2.2 c9_v_1).2.1)
    refine lv_if_ne (tgt := 11) hx hb dX10_readOne_6 (by decide) (fun c_6 => ?_) (fun c_6 => ?_)
    · refine lv_aload_n hx hb dX10_readOne_11 rfl (lv_at hl 0 rfl) ?_
      refine tk_v (va_runV (As := []) (rest := []) ⟨hx, hb, hml, hown, hts⟩ (c_X10_go__2 l D cy z H.size Ps ws hw.1 p0 (gh) sg_2 h_p0 x_TO_p0_gh o_p0) (cwV 0 hts (gV tw_1298 tw_1300 ts_40 tw_15 tw_1301) rfl rfl rfl (by decide +kernel) ⟨Nat.le_of_ble_eq_true rfl, Nat.le_of_ble_eq_true rfl⟩) (tg_preV hw hK hSD hA (ci := 10) (q := (RX10, TX10, 49)) rfl h_p0 rfl) rfl rfl hl.1 rfl (lv_room (Nat.le_of_ble_eq_true rfl)) dX10_readOne_12 ⟨Nat.le_of_ble_eq_true rfl, Nat.le_of_ble_eq_true rfl⟩) hw hA ⟨by decide, by decide⟩ (fun ws H locs hp_v_4 hw hF9 => ?_)
      have m_v_3 := FLD.over hF9 m_v_3 (by decide)
      obtain ⟨hfn, hp_v_4⟩ := hp_v_4
      obtain ⟨sg_5, q_sg_5⟩ : ∃ q9 : OS, (f_X10_go__2 sg_2) = q9 := ⟨_, rfl⟩
      have o_p0 : OV vw_MODEL Ps ws p0 sg_5 := by rw [← q_sg_5]; exact hfn.1
      have x_TOK_p0_gh := (hp_v_4.1)
      refine lv_iconst (v := 1) hx hb dX10_readOne_15 (by decide) ?_
      simp only [f_X10_readOne__3, ↓reduceIte, q_sg_2, q_v_1, eq_false c9_v_1, eq_false c_6, q_sg_5] at hE
      subst hQ
      exact W.zret (v := 1) hx hb hr (rfl) (fun t ht hW => ⟨⟨1, ws, rfl, ⟨⟨⟨(by rw [hR, ← hE]; exact o_p0), (by rw [hR, ← hE]), trivial⟩, rl_1.to (by decide), (fun _ => trivial), (fun h0 => ⟨r_p2, ⟨_, m_v_3, r_v_3⟩, x_TOK_p0_gh, trivial⟩)⟩, hw.1, hw.2.2.2.2.1⟩, by rw [ht]; exact hw.2.1, va_K.moved hW.alike hK, hw.2.2.1⟩, hw.2.2.2.1.F ht⟩) hw.2.2.2.1.2.2 dX10_readOne_16
    · have r_v_1 : RI v_1 1 0 := rc_eq1 r_v_1 rl_0 (ti_eq c_6) (by decide)
      exact (r_v_1.no (by decide)).elim
abbrev wr_X10_isIn__16 : List (Nat × Nat) := []
abbrev wa_X10_isIn__16 : List Nat := []
set_option maxHeartbeats 4000000 in
set_option maxRecDepth 100000 in
theorem c_X10_isIn__16 (l : Launch) (D : va_G) (cy : Nat → ClassId) (z : Nat → Nat) (sz : Nat) (Ps : PSI) (w0 : va_W) (hT : HT cy GG Ps w0) (p0 : Int32) (p1 : Int32) (p2 : Int32) (r_p0 : RI p0 (-2147483648) 2147483647) (r_p1 : RI p1 1 1) (r_p2 : RI p2 99 99) : Met l yX10_isIn (Cond.code yX10_isIn cX10_isIn 3 (some .boolean) :: gT) ({ frames := 0, cells := 0, slots := 0, locals := 200 } : Room) (va_Pc [.int p0, .int p1, .int p2] (PRE D cy z w0 sz)) (va_Qi (fun (r : Int32) (u : Unit) => ((f_X10_isIn__14 p0 p1 p2) = r ∧ True) ∧ (RI r 0 1 ∧ (r = 0 → True) ∧ (¬ r = 0 → RI p0 1 99 ∧ True))) (BB D cy (va_A w0 sz) (fun (u : Unit) => w0)) (va_A w0 sz)) 0 0 (va_A w0 sz) := by
  refine Met.ofW (cc := cX10_isIn) (maxL := 3) (ret := (some .boolean)) (by decide) rfl ?_
  intro p e s m args below meth c s₁ B hml hv
  obtain ⟨rfl, hsz, hP, hK, hD0, hSD⟩ := hv
  have hx := B.exec
  have hb := B.bytes
  have hr := B.returns
  have hlocks := B.notSynchronized
  have hts : ∀ w ∈ gT, w.before _ s = true := fun w h => atoms_spec (ws := Cond.code yX10_isIn cX10_isIn 3 (some .boolean) :: gT) B.pre w (List.mem_cons_of_mem _ h)
  have hown : s.vm.findClass RX10 = some m.cls := findClass_of_methodNamed B.named
  subst hsz
  have hD := hD0.self (sz := s.heap.size)
  generalize hAe : va_A w0 s.heap.size = A at hD hSD ⊢
  have hA : ∀ q : Nat, s.heap.size ≤ q → A q := fun q h => by rw [← hAe]; exact Or.inr h
  have hl := lv_entry ([.int p0, .int p1, .int p2]) (n := 3) (Nat.le_of_ble_eq_true rfl)
  rw [lg_entry_eq]
  generalize (lg_sl ([.int p0, .int p1, .int p2]) ++ List.replicate (3 - (lg_sl ([.int p0, .int p1, .int p2])).length) Slot.unset).toArray = ls at hl ⊢
  have hl : lv_has ls 3 [(0, .int p0), (1, .int p1), (2, .int p2)] := hl
  refine nameQ (fun Q hQ => ?_)
  have hw : WD D cy GG A s wr_X10_isIn__16 wa_X10_isIn__16 Ps w0 Ps w0 s.heap [] := ⟨hT, hP, hD, va_S.rf, FR.rf, hT.1, [], (List.append_nil _).symm⟩
  obtain ⟨R9, hR⟩ : ∃ q9 : Int32, f_X10_isIn__14 p0 p1 p2 = q9 := ⟨_, rfl⟩
  have hE := hR
  refine lv_iload_n hx hb dX10_isIn_0 rfl (lv_at hl 0 rfl) ?_
  refine lv_iload_n hx hb dX10_isIn_1 rfl (lv_at hl 1 rfl) ?_
  refine lv_icmp_lt (tgt := 14) hx hb dX10_isIn_2 (by decide) (fun c_2 => ?_) (fun c_2 => ?_)
  · have r_p0 : RI p0 (-2147483648) 0 := rc_lt1 r_p0 r_p1 (ti_lt c_2) (by decide)
    refine lv_iconst (v := 0) hx hb dX10_isIn_14 (by decide) ?_
    simp only [f_X10_isIn__14, ↓reduceIte, eq_true c_2] at hE
    subst hQ
    exact W.zret (v := 0) hx hb hr (rfl) (fun t ht hW => ⟨⟨0, (), rfl, ⟨⟨(by rw [hR, ← hE]), trivial⟩, rl_0.to (by decide), (fun h0 => trivial), (fun h0 => absurd rfl h0)⟩, by rw [ht]; exact hw.2.1, va_K.moved hW.alike hK, hw.2.2.1⟩, hw.2.2.2.1.F ht⟩) hw.2.2.2.1.2.2 dX10_isIn_15
  · have r_p0 : RI p0 1 2147483647 := rc_le2 r_p1 r_p0 (ti_nlt c_2) (by decide)
    refine lv_iload_n hx hb dX10_isIn_5 rfl (lv_at hl 0 rfl) ?_
    refine lv_iload_n hx hb dX10_isIn_6 rfl (lv_at hl 2 rfl) ?_
    refine lv_icmp_gt (tgt := 14) hx hb dX10_isIn_7 (by decide) (fun c_7 => ?_) (fun c_7 => ?_)
    · have r_p0 : RI p0 100 2147483647 := rc_lt2 r_p2 r_p0 (ti_lt c_7) (by decide)
      refine lv_iconst (v := 0) hx hb dX10_isIn_14 (by decide) ?_
      simp only [f_X10_isIn__14, ↓reduceIte, eq_false c_2, eq_true c_7] at hE
      subst hQ
      exact W.zret (v := 0) hx hb hr (rfl) (fun t ht hW => ⟨⟨0, (), rfl, ⟨⟨(by rw [hR, ← hE]), trivial⟩, rl_0.to (by decide), (fun h0 => trivial), (fun h0 => absurd rfl h0)⟩, by rw [ht]; exact hw.2.1, va_K.moved hW.alike hK, hw.2.2.1⟩, hw.2.2.2.1.F ht⟩) hw.2.2.2.1.2.2 dX10_isIn_15
    · have r_p0 : RI p0 1 99 := rc_le1 r_p0 r_p2 (ti_nlt c_7) (by decide)
      refine lv_iconst (v := 1) hx hb dX10_isIn_10 (by decide) ?_
      refine lv_goto (tgt := 15) hx hb dX10_isIn_11 (by decide) ?_
      simp only [f_X10_isIn__14, ↓reduceIte, eq_false c_2, eq_false c_7] at hE
      subst hQ
      exact W.zret (v := 1) hx hb hr (rfl) (fun t ht hW => ⟨⟨1, (), rfl, ⟨⟨(by rw [hR, ← hE]), trivial⟩, rl_1.to (by decide), (fun _ => trivial), (fun h0 => ⟨r_p0, trivial⟩)⟩, by rw [ht]; exact hw.2.1, va_K.moved hW.alike hK, hw.2.2.1⟩, hw.2.2.2.1.F ht⟩) hw.2.2.2.1.2.2 dX10_isIn_15
abbrev wr_X10_readNumber__9 : List (Nat × Nat) := [(10, 5), (10, 6), (10, 7), (10, 8), (10, 9), (10, 10), (10, 11), (10, 12), (10, 13)]
abbrev wa_X10_readNumber__9 : List Nat := []
set_option maxHeartbeats 4000000 in
set_option maxRecDepth 100000 in
theorem c_X10_readNumber__9 (l : Launch) (D : va_G) (cy : Nat → ClassId) (z : Nat → Nat) (sz : Nat) (Ps : PSI) (w0 : va_W) (hT : HT cy GG Ps w0) (p0 : Nat) (p1 : Int32) (p2 : Int32) (gh : Int) (s0 : OS) (h_p0 : (p0, 55) ∈ Ps) (r_p1 : RI p1 1 1) (r_p2 : RI p2 99 99) (x_TO_p0_gh : TOP w0 p0 (gh)) (o_p0 : OV vw_MODEL Ps w0 p0 s0) : Met l yX10_readNumber (Cond.code yX10_readNumber cX10_readNumber 3 (some .boolean) :: gT) ({ frames := 3, cells := 0, slots := 0, locals := 600 } : Room) (va_Pc [.ref p0, .int p1, .int p2] (PRE D cy z w0 sz)) (va_Qi (fun (r : Int32) (u : va_W) => ((OV vw_MODEL Ps u p0 ((f_X10_readNumber__7 p1 p2 s0).1) ∧ (f_X10_readNumber__7 p1 p2 s0).2 = r ∧ True) ∧ (RI r 0 1 ∧ (r = 0 → True) ∧ (¬ r = 0 → (∃ v9 : Int32, FLD u p0 10 13 (.int v9) ∧ RI v9 1 99) ∧ TKP u p0 (gh) ∧ True))) ∧ HT cy GG Ps u ∧ FR wr_X10_readNumber__9 wa_X10_readNumber__9 Ps w0 u) (BB D cy (va_A w0 sz) (fun (u : va_W) => u)) (va_A w0 sz)) 0 0 (va_A w0 sz) := by
  refine Met.ofW (cc := cX10_readNumber) (maxL := 3) (ret := (some .boolean)) (by decide) rfl ?_
  intro p e s m args below meth c s₁ B hml hv
  obtain ⟨rfl, hsz, hP, hK, hD0, hSD⟩ := hv
  have hx := B.exec
  have hb := B.bytes
  have hr := B.returns
  have hlocks := B.notSynchronized
  have hts : ∀ w ∈ gT, w.before _ s = true := fun w h => atoms_spec (ws := Cond.code yX10_readNumber cX10_readNumber 3 (some .boolean) :: gT) B.pre w (List.mem_cons_of_mem _ h)
  have hown : s.vm.findClass RX10 = some m.cls := findClass_of_methodNamed B.named
  subst hsz
  have hD := hD0.self (sz := s.heap.size)
  generalize hAe : va_A w0 s.heap.size = A at hD hSD ⊢
  have hA : ∀ q : Nat, s.heap.size ≤ q → A q := fun q h => by rw [← hAe]; exact Or.inr h
  have hl := lv_entry ([.ref p0, .int p1, .int p2]) (n := 3) (Nat.le_of_ble_eq_true rfl)
  rw [lg_entry_eq]
  generalize (lg_sl ([.ref p0, .int p1, .int p2]) ++ List.replicate (3 - (lg_sl ([.ref p0, .int p1, .int p2])).length) Slot.unset).toArray = ls at hl ⊢
  have hl : lv_has ls 3 [(0, .ref p0), (1, .int p1), (2, .int p2)] := hl
  refine nameQ (fun Q hQ => ?_)
  have hw : WD D cy GG A s wr_X10_readNumber__9 wa_X10_readNumber__9 Ps w0 Ps w0 s.heap [] := ⟨hT, hP, hD, va_S.rf, FR.rf, hT.1, [], (List.append_nil _).symm⟩
  obtain ⟨R9, hR⟩ : ∃ q9 : OS × Int32, f_X10_readNumber__7 p1 p2 s0 = q9 := ⟨_, rfl⟩
  have hE := hR
  refine lv_aload_n hx hb dX10_readNumber_0 rfl (lv_at hl 0 rfl) ?_
  refine tg_get (ci := 10) (ts := ty_MODEL) (C := RX10) (T := TX10) (N := 49) hx hb hts inX10 hown hK hw h_p0 rfl rfl 7 (by decide) (hts _ tw_1144) (fun _ h9 => h9) (ft := vI (-2147483648) 2147483647) rfl dX10_readNumber_1 (fun u_1 hv_u_1 m_u_1 => ?_)
  obtain ⟨vu_1, rfl, r_vu_1⟩ := hv_u_1
  have q_vu_1 : s0.1 7 = vu_1 := OV.eqI (V := vw_MODEL) hw.2.2.1 o_p0 m_u_1 (by decide)
  refine lv_iconst (v := 3) hx hb dX10_readNumber_4 (by decide) ?_
  refine lv_icmp_eq (tgt := 14) hx hb dX10_readNumber_5 (by decide) (fun c_5 => ?_) (fun c_5 => ?_)
  · have r_vu_1 : RI vu_1 3 3 := rc_eq1 r_vu_1 rl_3 (ti_eq c_5) (by decide)
    refine lv_aload_n hx hb dX10_readNumber_14 rfl (lv_at hl 0 rfl) ?_
    refine tg_get (ci := 10) (ts := ty_MODEL) (C := RX10) (T := TX10) (N := 49) hx hb hts inX10 hown hK hw h_p0 rfl rfl 8 (by decide) (hts _ tw_1145) (fun _ h9 => h9) (ft := vI (-2147483648) 2147483647) rfl dX10_readNumber_15 (fun u_2 hv_u_2 m_u_2 => ?_)
    obtain ⟨vu_2, rfl, r_vu_2⟩ := hv_u_2
    have q_vu_2 : s0.1 8 = vu_2 := OV.eqI (V := vw_MODEL) hw.2.2.1 o_p0 m_u_2 (by decide)
    refine lv_iload_n hx hb dX10_readNumber_18 rfl (lv_at hl 1 rfl) ?_
    refine lv_iload_n hx hb dX10_readNumber_19 rfl (lv_at hl 2 rfl) ?_
    refine tk_ir (va_runS (As := [.int vu_2, .int p1, .int p2]) (rest := []) ⟨hx, hb, hml, hown, hts⟩ (c_X10_isIn__16 l D cy z s.heap.size Ps w0 hw.1 vu_2 p1 p2 r_vu_2 r_p1 r_p2) (va_cwS 3 hts (gS tw_1359 tw_1360 tw_15 tw_1361) rfl rfl rfl (by decide +kernel) ⟨Nat.le_of_ble_eq_true rfl, Nat.le_of_ble_eq_true rfl⟩) (tg_preS hw hK hSD hA) rfl rfl hl.1 rfl (lv_room (Nat.le_of_ble_eq_true rfl)) dX10_readNumber_20 ⟨Nat.le_of_ble_eq_true rfl, Nat.le_of_ble_eq_true rfl⟩) hw hA (fun v_3  H locs hp_v_3 hw => ?_)
    obtain ⟨hfn, hp_v_3⟩ := hp_v_3
    have q_v_3 : (f_X10_isIn__14 vu_2 p1 p2) = v_3 := hfn.1
    have r_v_3 : RI v_3 0 1 := hp_v_3.1
    refine lv_if_ne (tgt := 32) hx hb dX10_readNumber_23 (by decide) (fun c_23 => ?_) (fun c_23 => ?_)
    · have r_v_3 : RI v_3 1 1 := rc_neL r_v_3 rl_0 (ti_ne c_23) (by decide)
      have r_vu_2 : RI vu_2 1 99 := ((hp_v_3.2.2 c_23).1)
      refine lv_aload_n hx hb dX10_readNumber_32 rfl (lv_at hl 0 rfl) ?_
      refine lv_aload_n hx hb dX10_readNumber_33 rfl (lv_at hl 0 rfl) ?_
      refine tg_mem (ci := 10) (C := RX10) (T := TX10) (N := 49) hx hb hts inX10 hown hK hw 8 m_u_2 rfl (by decide) (hts _ tw_1145) (fun _ h9 => h9) dX10_readNumber_34 ?_
      refine tg_put (ci := 10) (ts := ty_MODEL) (v := .int vu_2) (ty := .int) (C := RX10) (T := TX10) (N := 49) hx hb hts inX10 tyX10 tyX10_ok nmX10 hown hK hw h_p0 rfl rfl 13 (by decide) (hts _ tw_1150) (fun _ h9 => h9) rfl (by decide +kernel) rfl rfl (ft := vI (-2147483648) 2147483647) rfl ⟨_, rfl, (r_vu_2.to (by decide))⟩ (by decide) dX10_readNumber_37 (fun ws H locs hw n_k_4 hF9 => ?_)
      have m_u_1 := FLD.over hF9 m_u_1 (by decide)
      have m_u_2 := FLD.over hF9 m_u_2 (by decide)
      have x_TO_p0_gh := TOP.over hF9 x_TO_p0_gh (by decide)
      obtain ⟨sg_5, q_sg_5⟩ : ∃ q9 : OS, sI s0 13 vu_2 = q9 := ⟨_, rfl⟩
      have o_p0 : OV vw_MODEL Ps ws p0 sg_5 := by rw [← q_sg_5]; exact OV.putI (V := vw_MODEL) hF9 n_k_4 o_p0 (by decide)
      refine lv_aload_n hx hb dX10_readNumber_40 rfl (lv_at hl 0 rfl) ?_
      refine tk_v (va_runV (As := []) (rest := []) ⟨hx, hb, hml, hown, hts⟩ (c_X10_go__2 l D cy z H.size Ps ws hw.1 p0 (gh) sg_5 h_p0 x_TO_p0_gh o_p0) (cwV 0 hts (gV tw_1298 tw_1300 ts_40 tw_15 tw_1301) rfl rfl rfl (by decide +kernel) ⟨Nat.le_of_ble_eq_true rfl, Nat.le_of_ble_eq_true rfl⟩) (tg_preV hw hK hSD hA (ci := 10) (q := (RX10, TX10, 49)) rfl h_p0 rfl) rfl rfl hl.1 rfl (lv_room (Nat.le_of_ble_eq_true rfl)) dX10_readNumber_41 ⟨Nat.le_of_ble_eq_true rfl, Nat.le_of_ble_eq_true rfl⟩) hw hA ⟨by decide, by decide⟩ (fun ws H locs hp_v_6 hw hF9 => ?_)
      have n_k_4 := FLD.over hF9 n_k_4 (by decide)
      obtain ⟨hfn, hp_v_6⟩ := hp_v_6
      obtain ⟨sg_7, q_sg_7⟩ : ∃ q9 : OS, (f_X10_go__2 sg_5) = q9 := ⟨_, rfl⟩
      have o_p0 : OV vw_MODEL Ps ws p0 sg_7 := by rw [← q_sg_7]; exact hfn.1
      have x_TOK_p0_gh := (hp_v_6.1)
      refine lv_iconst (v := 1) hx hb dX10_readNumber_44 (by decide) ?_
      simp only [f_X10_readNumber__7, ↓reduceIte, q_vu_1, eq_true c_5, q_vu_2, q_v_3, eq_false c_23, q_sg_5, q_sg_7] at hE
      subst hQ
      exact W.zret (v := 1) hx hb hr (rfl) (fun t ht hW => ⟨⟨1, ws, rfl, ⟨⟨⟨(by rw [hR, ← hE]; exact o_p0), (by rw [hR, ← hE]), trivial⟩, rl_1.to (by decide), (fun _ => trivial), (fun h0 => ⟨⟨_, n_k_4, r_vu_2⟩, x_TOK_p0_gh, trivial⟩)⟩, hw.1, hw.2.2.2.2.1⟩, by rw [ht]; exact hw.2.1, va_K.moved hW.alike hK, hw.2.2.1⟩, hw.2.2.2.1.F ht⟩) hw.2.2.2.1.2.2 dX10_readNumber_45
    · have r_v_3 : RI v_3 0 0 := rc_eq1 r_v_3 rl_0 (ti_eq c_23) (by decide)
      refine lv_aload_n hx hb dX10_readNumber_26 rfl (lv_at hl 0 rfl) ?_
      refine lv_iconst (v := 2) hx hb dX10_readNumber_27 (by decide) ?_
      refine tk_i (va_runV (As := [.int 2]) (rest := []) ⟨hx, hb, hml, hown, hts⟩ (c_X10_bad__1 l D cy z H.size Ps w0 hw.1 p0 2 s0 h_p0 (rl_2.to (by decide)) o_p0) (cwV 1 hts (gV tw_1336 tw_1338 ts_46 tw_15 tw_1339) rfl rfl rfl (by decide +kernel) ⟨Nat.le_of_ble_eq_true rfl, Nat.le_of_ble_eq_true rfl⟩) (tg_preV hw hK hSD hA (ci := 10) (q := (RX10, TX10, 49)) rfl h_p0 rfl) rfl rfl hl.1 rfl (lv_room (Nat.le_of_ble_eq_true rfl)) dX10_readNumber_28 ⟨Nat.le_of_ble_eq_true rfl, Nat.le_of_ble_eq_true rfl⟩) hw hA ⟨by decide, by decide⟩ (fun v_8 ws H locs hp_v_8 hw hF9 => ?_)
      have m_u_1 := FLD.over hF9 m_u_1 (by decide)
      have m_u_2 := FLD.over hF9 m_u_2 (by decide)
      have x_TO_p0_gh := TOP.over hF9 x_TO_p0_gh (by decide)
      obtain ⟨hfn, hp_v_8⟩ := hp_v_8
      obtain ⟨sg_9, q_sg_9⟩ : ∃ q9 : OS, (f_X10_bad__1 (2 : Int32) s0).1 = q9 := ⟨_, rfl⟩
      have o_p0 : OV vw_MODEL Ps ws p0 sg_9 := by rw [← q_sg_9]; exact hfn.1
      have q_v_8 : (f_X10_bad__1 (2 : Int32) s0).2 = v_8 := hfn.2.1
      have r_v_8 : RI v_8 0 0 := hp_v_8.1
      simp only [f_X10_readNumber__7, ↓reduceIte, q_vu_1, eq_true c_5, q_vu_2, q_v_3, eq_true c_23, q_sg_9, q_v_8] at hE
      subst hQ
      exact W.zret (v := v_8) hx hb hr (tq_nz (r_v_8.to (by decide))) (fun t ht hW => ⟨⟨v_8, ws, rfl, ⟨⟨⟨(by rw [hR, ← hE]; exact o_p0), (by rw [hR, ← hE]), trivial⟩, r_v_8.to (by decide), (fun h0 => trivial), (fun h0 => absurd (Int32.toInt_inj.mp (by have h8 := r_v_8; unfold RI at h8; rw [Int32.toInt_zero]; omega)) h0)⟩, hw.1, hw.2.2.2.2.1⟩, by rw [ht]; exact hw.2.1, va_K.moved hW.alike hK, hw.2.2.1⟩, hw.2.2.2.1.F ht⟩) hw.2.2.2.1.2.2 dX10_readNumber_31
  · refine lv_aload_n hx hb dX10_readNumber_8 rfl (lv_at hl 0 rfl) ?_
    refine lv_iconst (v := 1) hx hb dX10_readNumber_9 (by decide) ?_
    refine tk_i (va_runV (As := [.int 1]) (rest := []) ⟨hx, hb, hml, hown, hts⟩ (c_X10_bad__1 l D cy z s.heap.size Ps w0 hw.1 p0 1 s0 h_p0 (rl_1.to (by decide)) o_p0) (cwV 1 hts (gV tw_1336 tw_1338 ts_46 tw_15 tw_1339) rfl rfl rfl (by decide +kernel) ⟨Nat.le_of_ble_eq_true rfl, Nat.le_of_ble_eq_true rfl⟩) (tg_preV hw hK hSD hA (ci := 10) (q := (RX10, TX10, 49)) rfl h_p0 rfl) rfl rfl hl.1 rfl (lv_room (Nat.le_of_ble_eq_true rfl)) dX10_readNumber_10 ⟨Nat.le_of_ble_eq_true rfl, Nat.le_of_ble_eq_true rfl⟩) hw hA ⟨by decide, by decide⟩ (fun v_10 ws H locs hp_v_10 hw hF9 => ?_)
    have m_u_1 := FLD.over hF9 m_u_1 (by decide)
    have x_TO_p0_gh := TOP.over hF9 x_TO_p0_gh (by decide)
    obtain ⟨hfn, hp_v_10⟩ := hp_v_10
    obtain ⟨sg_11, q_sg_11⟩ : ∃ q9 : OS, (f_X10_bad__1 (1 : Int32) s0).1 = q9 := ⟨_, rfl⟩
    have o_p0 : OV vw_MODEL Ps ws p0 sg_11 := by rw [← q_sg_11]; exact hfn.1
    have q_v_10 : (f_X10_bad__1 (1 : Int32) s0).2 = v_10 := hfn.2.1
    have r_v_10 : RI v_10 0 0 := hp_v_10.1
    simp only [f_X10_readNumber__7, ↓reduceIte, q_vu_1, eq_false c_5, q_sg_11, q_v_10] at hE
    subst hQ
    exact W.zret (v := v_10) hx hb hr (tq_nz (r_v_10.to (by decide))) (fun t ht hW => ⟨⟨v_10, ws, rfl, ⟨⟨⟨(by rw [hR, ← hE]; exact o_p0), (by rw [hR, ← hE]), trivial⟩, r_v_10.to (by decide), (fun h0 => trivial), (fun h0 => absurd (Int32.toInt_inj.mp (by have h8 := r_v_10; unfold RI at h8; rw [Int32.toInt_zero]; omega)) h0)⟩, hw.1, hw.2.2.2.2.1⟩, by rw [ht]; exact hw.2.1, va_K.moved hW.alike hK, hw.2.2.1⟩, hw.2.2.2.1.F ht⟩) hw.2.2.2.1.2.2 dX10_readNumber_13
abbrev wr_X10_put__20 : List (Nat × Nat) := []
abbrev wa_X10_put__20 : List Nat := []
set_option maxHeartbeats 4000000 in
set_option maxRecDepth 100000 in
theorem c_X10_put__20 (l : Launch) (D : va_G) (cy : Nat → ClassId) (z : Nat → Nat) (sz : Nat) (Ps : PSI) (w0 : va_W) (hT : HT cy GG Ps w0) (p0 : Nat) (p1 : Int32) (p2 : Int32) (F : (Nat → Int32) → Prop) (F2 : (Nat → Int32) → Prop) (s0 : OS) (h_p0 : (p0, 55) ∈ Ps) (r_p1 : RI p1 48 83) (r_p2 : RI p2 0 0) (x_F : AX 15 35 F Ps w0 p0) (hF : ∀ (f : Nat → Int32) (v : Int32), RI v (-2147483648) 2147483647 → F f → F2 (upd f (Int32.toNatClampNeg p1) v)) (o_p0 : OV vw_MODEL Ps w0 p0 s0) : Met l yX10_put (Cond.code yX10_put cX10_put 3 (some .boolean) :: gT) ({ frames := 0, cells := 0, slots := 0, locals := 200 } : Room) (va_Pc [.ref p0, .int p1, .int p2] (PRE D cy z w0 sz)) (va_Qi (fun (r : Int32) (u : Unit) => ((f_X10_put__16 p1 p2 s0) = r ∧ True) ∧ (RI r 0 0 ∧ (r = 0 → AX 15 35 F Ps w0 p0 ∧ True) ∧ (¬ r = 0 → AX 15 35 F2 Ps w0 p0 ∧ True))) (BB D cy (va_A w0 sz) (fun (u : Unit) => w0)) (va_A w0 sz)) 0 0 (va_A w0 sz) := by
  refine Met.ofW (cc := cX10_put) (maxL := 3) (ret := (some .boolean)) (by decide) rfl ?_
  intro p e s m args below meth c s₁ B hml hv
  obtain ⟨rfl, hsz, hP, hK, hD0, hSD⟩ := hv
  have hx := B.exec
  have hb := B.bytes
  have hr := B.returns
  have hlocks := B.notSynchronized
  have hts : ∀ w ∈ gT, w.before _ s = true := fun w h => atoms_spec (ws := Cond.code yX10_put cX10_put 3 (some .boolean) :: gT) B.pre w (List.mem_cons_of_mem _ h)
  have hown : s.vm.findClass RX10 = some m.cls := findClass_of_methodNamed B.named
  subst hsz
  have hD := hD0.self (sz := s.heap.size)
  generalize hAe : va_A w0 s.heap.size = A at hD hSD ⊢
  have hA : ∀ q : Nat, s.heap.size ≤ q → A q := fun q h => by rw [← hAe]; exact Or.inr h
  have hl := lv_entry ([.ref p0, .int p1, .int p2]) (n := 3) (Nat.le_of_ble_eq_true rfl)
  rw [lg_entry_eq]
  generalize (lg_sl ([.ref p0, .int p1, .int p2]) ++ List.replicate (3 - (lg_sl ([.ref p0, .int p1, .int p2])).length) Slot.unset).toArray = ls at hl ⊢
  have hl : lv_has ls 3 [(0, .ref p0), (1, .int p1), (2, .int p2)] := hl
  refine nameQ (fun Q hQ => ?_)
  have hw : WD D cy GG A s wr_X10_put__20 wa_X10_put__20 Ps w0 Ps w0 s.heap [] := ⟨hT, hP, hD, va_S.rf, FR.rf, hT.1, [], (List.append_nil _).symm⟩
  obtain ⟨R9, hR⟩ : ∃ q9 : Int32, f_X10_put__16 p1 p2 s0 = q9 := ⟨_, rfl⟩
  have hE := hR
  refine lv_iload_n hx hb dX10_put_0 rfl (lv_at hl 2 rfl) ?_
  refine lv_if_eq (tgt := 14) hx hb dX10_put_1 (by decide) (fun c_1 => ?_) (fun c_1 => ?_)
  · refine lv_iload_n hx hb dX10_put_14 rfl (lv_at hl 2 rfl) ?_
    simp only [f_X10_put__16, ↓reduceIte, eq_true c_1] at hE
    subst hQ
    exact W.zret (v := p2) hx hb hr (tq_nz (r_p2.to (by decide))) (fun t ht hW => ⟨⟨p2, (), rfl, ⟨⟨(by rw [hR, ← hE]), trivial⟩, r_p2.to (by decide), (fun h0 => ⟨x_F, trivial⟩), (fun h0 => absurd (Int32.toInt_inj.mp (by have h8 := r_p2; unfold RI at h8; rw [Int32.toInt_zero]; omega)) h0)⟩, by rw [ht]; exact hw.2.1, va_K.moved hW.alike hK, hw.2.2.1⟩, hw.2.2.2.1.F ht⟩) hw.2.2.2.1.2.2 dX10_put_15
  · exact absurd (r_p2.eq.trans rl_0.eq.symm) ((ti_ne c_1))
abbrev wr_X10_put__21 : List (Nat × Nat) := []
abbrev wa_X10_put__21 : List Nat := [35]
set_option maxHeartbeats 4000000 in
set_option maxRecDepth 100000 in
theorem c_X10_put__21 (l : Launch) (D : va_G) (cy : Nat → ClassId) (z : Nat → Nat) (sz : Nat) (Ps : PSI) (w0 : va_W) (hT : HT cy GG Ps w0) (p0 : Nat) (p1 : Int32) (p2 : Int32) (f0_13 : Int32) (F : (Nat → Int32) → Prop) (F2 : (Nat → Int32) → Prop) (s0 : OS) (h_p0 : (p0, 55) ∈ Ps) (r_p1 : RI p1 48 83) (r_p2 : RI p2 1 1) (r_f0_13 : RI f0_13 1 99) (m_f0_13 : FLD w0 p0 10 13 (.int f0_13)) (x_F : AX 15 35 F Ps w0 p0) (hF : ∀ (f : Nat → Int32) (v : Int32), RI v 1 99 → F f → F2 (upd f (Int32.toNatClampNeg p1) v)) (o_p0 : OV vw_MODEL Ps w0 p0 s0) : Met l yX10_put (Cond.code yX10_put cX10_put 3 (some .boolean) :: gT) ({ frames := 0, cells := 0, slots := 0, locals := 200 } : Room) (va_Pc [.ref p0, .int p1, .int p2] (PRE D cy z w0 sz)) (va_Qi (fun (r : Int32) (u : va_W) => ((OV vw_MODEL Ps u p0 ((f_X10_put__17 p1 p2 s0).1) ∧ (f_X10_put__17 p1 p2 s0).2 = r ∧ True) ∧ (RI r 1 1 ∧ (r = 0 → AX 15 35 F Ps u p0 ∧ True) ∧ (¬ r = 0 → (∃ v9 : Int32, FLD u p0 10 13 (.int v9) ∧ RI v9 1 99) ∧ AX 15 35 F2 Ps u p0 ∧ True))) ∧ HT cy GG Ps u ∧ FR wr_X10_put__21 wa_X10_put__21 Ps w0 u) (BB D cy (va_A w0 sz) (fun (u : va_W) => u)) (va_A w0 sz)) 0 0 (va_A w0 sz) := by
  refine Met.ofW (cc := cX10_put) (maxL := 3) (ret := (some .boolean)) (by decide) rfl ?_
  intro p e s m args below meth c s₁ B hml hv
  obtain ⟨rfl, hsz, hP, hK, hD0, hSD⟩ := hv
  have hx := B.exec
  have hb := B.bytes
  have hr := B.returns
  have hlocks := B.notSynchronized
  have hts : ∀ w ∈ gT, w.before _ s = true := fun w h => atoms_spec (ws := Cond.code yX10_put cX10_put 3 (some .boolean) :: gT) B.pre w (List.mem_cons_of_mem _ h)
  have hown : s.vm.findClass RX10 = some m.cls := findClass_of_methodNamed B.named
  subst hsz
  have hD := hD0.self (sz := s.heap.size)
  generalize hAe : va_A w0 s.heap.size = A at hD hSD ⊢
  have hA : ∀ q : Nat, s.heap.size ≤ q → A q := fun q h => by rw [← hAe]; exact Or.inr h
  have hl := lv_entry ([.ref p0, .int p1, .int p2]) (n := 3) (Nat.le_of_ble_eq_true rfl)
  rw [lg_entry_eq]
  generalize (lg_sl ([.ref p0, .int p1, .int p2]) ++ List.replicate (3 - (lg_sl ([.ref p0, .int p1, .int p2])).length) Slot.unset).toArray = ls at hl ⊢
  have hl : lv_has ls 3 [(0, .ref p0), (1, .int p1), (2, .int p2)] := hl
  refine nameQ (fun Q hQ => ?_)
  have hw : WD D cy GG A s wr_X10_put__21 wa_X10_put__21 Ps w0 Ps w0 s.heap [] := ⟨hT, hP, hD, va_S.rf, FR.rf, hT.1, [], (List.append_nil _).symm⟩
  obtain ⟨R9, hR⟩ : ∃ q9 : OS × Int32, f_X10_put__17 p1 p2 s0 = q9 := ⟨_, rfl⟩
  have hE := hR
  refine lv_iload_n hx hb dX10_put_0 rfl (lv_at hl 2 rfl) ?_
  refine lv_if_eq (tgt := 14) hx hb dX10_put_1 (by decide) (fun c_1 => ?_) (fun c_1 => ?_)
  · have r_p2 : RI p2 1 0 := rc_eq1 r_p2 rl_0 (ti_eq c_1) (by decide)
    exact (r_p2.no (by decide)).elim
  · refine lv_aload_n hx hb dX10_put_4 rfl (lv_at hl 0 rfl) ?_
    refine tg_get (ci := 10) (ts := ty_MODEL) (C := RX10) (T := TX10) (N := 49) hx hb hts inX10 hown hK hw h_p0 rfl rfl 15 (by decide) (hts _ tw_1152) (fun _ h9 => h9) (ft := vR 35) rfl dX10_put_5 (fun u_1 hv_u_1 m_u_1 => ?_)
    obtain ⟨vu_1, rfl, h_vu_1⟩ := hv_u_1
    refine lv_iload_n hx hb dX10_put_8 rfl (lv_at hl 1 rfl) ?_
    refine lv_aload_n hx hb dX10_put_9 rfl (lv_at hl 0 rfl) ?_
    refine tg_mem (ci := 10) (C := RX10) (T := TX10) (N := 49) hx hb hts inX10 hown hK hw 13 m_f0_13 rfl (by decide) (hts _ tw_1150) (fun _ h9 => h9) dX10_put_10 ?_
    have q_f0_13 : s0.1 13 = f0_13 := OV.eqI (V := vw_MODEL) hw.2.2.1 o_p0 m_f0_13 (by decide)
    have mo9 := m_u_1
    refine tg_iast hx hb hK hw h_vu_1 rfl 48 83 r_p1 (by decide) r_f0_13 (by decide +kernel) (fun _ _ _ _ _ => trivial) (by decide) dX10_put_13 (fun ws H locs hw hF9 hU9 => ?_)
    have x_GFRB_p0 : AX 15 35 F2 Ps ws p0 := AX.ast hF9 hU9 x_F m_u_1 (fun f9 h9 => hF f9 _ r_f0_13 h9)
    have m_f0_13 := FLD.over hF9 m_f0_13 (by decide)
    have m_u_1 := FLD.over hF9 m_u_1 (by decide)
    obtain ⟨sg_2, q_sg_2⟩ : ∃ q9 : OS, sA s0 15 (Int32.toNatClampNeg p1) f0_13 = q9 := ⟨_, rfl⟩
    have o_p0 : OV vw_MODEL Ps ws p0 sg_2 := by rw [← q_sg_2]; exact OV.putA (V := vw_MODEL) (t := 35) hF9 hU9 o_p0 mo9 (by decide) (by decide)
    refine lv_iload_n hx hb dX10_put_14 rfl (lv_at hl 2 rfl) ?_
    simp only [f_X10_put__17, ↓reduceIte, eq_false c_1, q_f0_13, q_sg_2] at hE
    subst hQ
    exact W.zret (v := p2) hx hb hr (tq_nz (r_p2.to (by decide))) (fun t ht hW => ⟨⟨p2, ws, rfl, ⟨⟨⟨(by rw [hR, ← hE]; exact o_p0), (by rw [hR, ← hE]), trivial⟩, r_p2.to (by decide), (fun h0 => absurd (ti_eq h0) (by have h8 := r_p2; unfold RI at h8; rw [Int32.toInt_zero]; omega)), (fun h0 => ⟨⟨_, m_f0_13, r_f0_13⟩, x_GFRB_p0, trivial⟩)⟩, hw.1, hw.2.2.2.2.1⟩, by rw [ht]; exact hw.2.1, va_K.moved hW.alike hK, hw.2.2.1⟩, hw.2.2.2.1.F ht⟩) hw.2.2.2.1.2.2 dX10_put_15
abbrev wr_X10_readHas__1 : List (Nat × Nat) := [(10, 5), (10, 6), (10, 7), (10, 8), (10, 9), (10, 10), (10, 11), (10, 12), (10, 13)]
abbrev wa_X10_readHas__1 : List Nat := [35]
set_option maxHeartbeats 4000000 in
set_option maxRecDepth 100000 in
theorem c_X10_readHas__1 (l : Launch) (D : va_G) (cy : Nat → ClassId) (z : Nat → Nat) (sz : Nat) (Ps : PSI) (w0 : va_W) (hT : HT cy GG Ps w0) (p0 : Nat) (gh : Int) (s0 : OS) (h_p0 : (p0, 55) ∈ Ps) (x_TO_p0_gh : TOP w0 p0 (gh)) (x_RH_p0 : AX 15 35 (fun f => RH2p f) Ps w0 p0) (o_p0 : OV vw_MODEL Ps w0 p0 s0) : Met l yX10_readHas (Cond.code yX10_readHas cX10_readHas 2 (some .boolean) :: gT) ({ frames := 6, cells := 0, slots := 0, locals := 1200 } : Room) (va_Pc [.ref p0] (PRE D cy z w0 sz)) (va_Qi (fun (r : Int32) (u : va_W) => ((OV vw_MODEL Ps u p0 ((f_X10_readHas__1 s0).1) ∧ (f_X10_readHas__1 s0).2 = r ∧ True) ∧ (RI r 0 1 ∧ (r = 0 → True) ∧ (¬ r = 0 → (∃ v9 : Int32, FLD u p0 10 13 (.int v9) ∧ RI v9 1 99) ∧ TKP u p0 (gh) ∧ AX 15 35 (fun f => RH2p f) Ps u p0 ∧ True))) ∧ HT cy GG Ps u ∧ FR wr_X10_readHas__1 wa_X10_readHas__1 Ps w0 u) (BB D cy (va_A w0 sz) (fun (u : va_W) => u)) (va_A w0 sz)) 0 0 (va_A w0 sz) := by
  refine Met.ofW (cc := cX10_readHas) (maxL := 2) (ret := (some .boolean)) (by decide) rfl ?_
  intro p e s m args below meth c s₁ B hml hv
  obtain ⟨rfl, hsz, hP, hK, hD0, hSD⟩ := hv
  have hx := B.exec
  have hb := B.bytes
  have hr := B.returns
  have hlocks := B.notSynchronized
  have hts : ∀ w ∈ gT, w.before _ s = true := fun w h => atoms_spec (ws := Cond.code yX10_readHas cX10_readHas 2 (some .boolean) :: gT) B.pre w (List.mem_cons_of_mem _ h)
  have hown : s.vm.findClass RX10 = some m.cls := findClass_of_methodNamed B.named
  subst hsz
  have hD := hD0.self (sz := s.heap.size)
  generalize hAe : va_A w0 s.heap.size = A at hD hSD ⊢
  have hA : ∀ q : Nat, s.heap.size ≤ q → A q := fun q h => by rw [← hAe]; exact Or.inr h
  have hl := lv_entry ([.ref p0]) (n := 2) (Nat.le_of_ble_eq_true rfl)
  rw [lg_entry_eq]
  generalize (lg_sl ([.ref p0]) ++ List.replicate (2 - (lg_sl ([.ref p0])).length) Slot.unset).toArray = ls at hl ⊢
  have hl : lv_has ls 2 [(0, .ref p0)] := hl
  refine nameQ (fun Q hQ => ?_)
  have hw : WD D cy GG A s wr_X10_readHas__1 wa_X10_readHas__1 Ps w0 Ps w0 s.heap [] := ⟨hT, hP, hD, va_S.rf, FR.rf, hT.1, [], (List.append_nil _).symm⟩
  obtain ⟨R9, hR⟩ : ∃ q9 : OS × Int32, f_X10_readHas__1 s0 = q9 := ⟨_, rfl⟩
  have hE := hR
  refine lv_aload_n hx hb dX10_readHas_0 rfl (lv_at hl 0 rfl) ?_
  refine tk_v (va_runV (As := []) (rest := []) ⟨hx, hb, hml, hown, hts⟩ (c_X10_go__2 l D cy z s.heap.size Ps w0 hw.1 p0 (gh) s0 h_p0 x_TO_p0_gh o_p0) (cwV 0 hts (gV tw_1298 tw_1300 ts_40 tw_15 tw_1301) rfl rfl rfl (by decide +kernel) ⟨Nat.le_of_ble_eq_true rfl, Nat.le_of_ble_eq_true rfl⟩) (tg_preV hw hK hSD hA (ci := 10) (q := (RX10, TX10, 49)) rfl h_p0 rfl) rfl rfl hl.1 rfl (lv_room (Nat.le_of_ble_eq_true rfl)) dX10_readHas_1 ⟨Nat.le_of_ble_eq_true rfl, Nat.le_of_ble_eq_true rfl⟩) hw hA ⟨by decide, by decide⟩ (fun ws H locs hp_v_1 hw hF9 => ?_)
  have x_RH_p0 := AX.over hF9 x_RH_p0 (by decide)
  obtain ⟨hfn, hp_v_1⟩ := hp_v_1
  obtain ⟨sg_2, q_sg_2⟩ : ∃ q9 : OS, (f_X10_go__2 s0) = q9 := ⟨_, rfl⟩
  have o_p0 : OV vw_MODEL Ps ws p0 sg_2 := by rw [← q_sg_2]; exact hfn.1
  have x_TOK_p0_gh := (hp_v_1.1)
  refine lv_aload_n hx hb dX10_readHas_4 rfl (lv_at hl 0 rfl) ?_
  refine lv_bipush (v := 10) hx hb dX10_readHas_5 (by decide) ?_
  refine lv_aload_n hx hb dX10_readHas_7 rfl (lv_at hl 0 rfl) ?_
  refine tg_get (ci := 10) (ts := ty_MODEL) (C := RX10) (T := TX10) (N := 49) hx hb hts inX10 hown hK hw h_p0 rfl rfl 15 (by decide) (hts _ tw_1152) (fun _ h9 => h9) (ft := vR 35) rfl dX10_readHas_8 (fun u_3 hv_u_3 m_u_3 => ?_)
  obtain ⟨vu_3, rfl, h_vu_3⟩ := hv_u_3
  refine lv_iconst (v := 2) hx hb dX10_readHas_11 (by decide) ?_
  refine tg_iald (lo := 0) (hi := 6) hx hb hK hw h_vu_3 rfl 2 2 rl_2 (by decide) (by decide +kernel) dX10_readHas_12 (fun v_4 r_v_4 m_v_4 o_v_4 => ?_)
  have q_v_4 : sg_2.2.2.1 15 (Int32.toNatClampNeg (2 : Int32)) = v_4 := OV.eqA (V := vw_MODEL) (t := 35) hw.2.2.1 o_p0 m_u_3 m_v_4 (by decide)
  have x_TO_p0_gh : TOP ws p0 (gh) := TKP.top x_TOK_p0_gh
  have hw8 := hw
  refine tk_i (va_runV (As := [.int 10, .int v_4]) (rest := []) ⟨hx, hb, hml, hown, hts⟩ (c_X10_readOne__4 l D cy z H.size Ps ws hw.1 p0 10 v_4 (gh) sg_2 h_p0 rl_10 r_v_4 x_TO_p0_gh o_p0) (cwV 2 hts (gV tw_1374 tw_1376 ts_54 tw_15 tw_1377) rfl rfl rfl (by decide +kernel) ⟨Nat.le_of_ble_eq_true rfl, Nat.le_of_ble_eq_true rfl⟩) (tg_preV hw hK hSD hA (ci := 10) (q := (RX10, TX10, 49)) rfl h_p0 rfl) rfl rfl hl.1 rfl (lv_room (Nat.le_of_ble_eq_true rfl)) dX10_readHas_13 ⟨Nat.le_of_ble_eq_true rfl, Nat.le_of_ble_eq_true rfl⟩) hw hA ⟨by decide, by decide⟩ (fun v_5 ws H locs hp_v_5 hw hF9 => ?_)
  have m_v_4 := AEL.over hw8 hF9 h_vu_3 m_v_4 (by decide)
  have m_u_3 := FLD.over hF9 m_u_3 (by decide)
  have x_RH_p0 := AX.over hF9 x_RH_p0 (by decide)
  obtain ⟨hfn, hp_v_5⟩ := hp_v_5
  obtain ⟨sg_6, q_sg_6⟩ : ∃ q9 : OS, (f_X10_readOne__3 (10 : Int32) v_4 sg_2).1 = q9 := ⟨_, rfl⟩
  have o_p0 : OV vw_MODEL Ps ws p0 sg_6 := by rw [← q_sg_6]; exact hfn.1
  have q_v_5 : (f_X10_readOne__3 (10 : Int32) v_4 sg_2).2 = v_5 := hfn.2.1
  have r_v_5 : RI v_5 0 1 := hp_v_5.1
  by_cases c9_v_5 : v_5 = 0
  · have r_v_5 : RI v_5 0 0 := by rw [c9_v_5]; exact rl_0
    refine lv_if_ne (tgt := 21) hx hb dX10_readHas_16 (by decide) (fun c_16 => ?_) (fun c_16 => ?_)
    · exact absurd (r_v_5.eq.trans rl_0.eq.symm) ((ti_ne c_16))
    · refine lv_iconst (v := 0) hx hb dX10_readHas_19 (by decide) ?_
      simp only [f_X10_readHas__1, ↓reduceIte, q_sg_2, q_v_4, q_sg_6, q_v_5, eq_true c9_v_5, eq_true c_16] at hE
      subst hQ
      exact W.zret (v := 0) hx hb hr (rfl) (fun t ht hW => ⟨⟨0, ws, rfl, ⟨⟨⟨(by rw [hR, ← hE]; exact o_p0), (by rw [hR, ← hE]), trivial⟩, rl_0.to (by decide), (fun h0 => trivial), (fun h0 => absurd rfl h0)⟩, hw.1, hw.2.2.2.2.1⟩, by rw [ht]; exact hw.2.1, va_K.moved hW.alike hK, hw.2.2.1⟩, hw.2.2.2.1.F ht⟩) hw.2.2.2.1.2.2 dX10_readHas_20
  · have r_v_5 : RI v_5 1 1 := rc_neL r_v_5 rl_0 (ti_ne c9_v_5) (by decide)
    have r_v_4 : RI v_4 1 6 := ((hp_v_5.2.2 c9_v_5).1)
    obtain ⟨v_7, m_v_7, r_v_7⟩ := ((hp_v_5.2.2 c9_v_5).2.1)
    have x_TOK_p0_gh := ((hp_v_5.2.2 c9_v_5).2.2.1)
    refine lv_if_ne (tgt := 21) hx hb dX10_readHas_16 (by decide) (fun c_16 => ?_) (fun c_16 => ?_)
    · refine lv_bipush (v := 48) hx hb dX10_readHas_21 (by decide) ?_
      refine lv_bipush (v := 6) hx hb dX10_readHas_23 (by decide) ?_
      refine lv_aload_n hx hb dX10_readHas_25 rfl (lv_at hl 0 rfl) ?_
      refine tg_mem (ci := 10) (C := RX10) (T := TX10) (N := 49) hx hb hts inX10 hown hK hw 13 m_v_7 rfl (by decide) (hts _ tw_1150) (fun _ h9 => h9) dX10_readHas_26 ?_
      have q_v_7 : sg_6.1 13 = v_7 := OV.eqI (V := vw_MODEL) hw.2.2.1 o_p0 m_v_7 (by decide)
      refine lv_imul hx hb dX10_readHas_29 (lv_topi (fun v_8 e_v_8 => ?_))
      obtain ⟨t_v_8, r_v_8⟩ := tq_mul (lo := 0) (hi := 30) rl_6 r_v_7 (by decide +kernel) e_v_8
      have t_v_8 : v_8.toInt = 6 * v_7.toInt := t_v_8
      have q_v_8 : (6 : Int32) * v_7 = v_8 := e_v_8.symm
      refine lv_iadd hx hb dX10_readHas_30 (lv_topi (fun v_9 e_v_9 => ?_))
      obtain ⟨t_v_9, r_v_9⟩ := tq_add (lo := 48) (hi := 78) rl_48 r_v_8 (by decide +kernel) e_v_9
      have t_v_9 : v_9.toInt = 48 + v_8.toInt := t_v_9
      have q_v_9 : (48 : Int32) + v_8 = v_9 := e_v_9.symm
      refine lv_istore_n (lv' := [(1, .int v_9), (0, .ref p0)]) hx hb dX10_readHas_31 rfl hl (by decide) rfl (fun ls hl => ?_)
      refine lv_aload_n hx hb dX10_readHas_32 rfl (lv_at hl 1 rfl) ?_
      refine lv_iconst (v := 0) hx hb dX10_readHas_33 (by decide) ?_
      refine lv_aload_n hx hb dX10_readHas_34 rfl (lv_at hl 1 rfl) ?_
      refine tg_mem (ci := 10) (C := RX10) (T := TX10) (N := 49) hx hb hts inX10 hown hK hw 15 m_u_3 rfl (by decide) (hts _ tw_1152) (fun _ h9 => h9) dX10_readHas_35 ?_
      refine lv_iconst (v := 0) hx hb dX10_readHas_38 (by decide) ?_
      refine tg_iald (lo := 0) (hi := 6) hx hb hK hw h_vu_3 rfl 0 0 rl_0 (by decide) (by decide +kernel) dX10_readHas_39 (fun v_10 r_v_10 m_v_10 o_v_10 => ?_)
      have q_v_10 : sg_6.2.2.1 15 (Int32.toNatClampNeg (0 : Int32)) = v_10 := OV.eqA (V := vw_MODEL) (t := 35) hw.2.2.1 o_p0 m_u_3 m_v_10 (by decide)
      have hw8 := hw
      refine tk_i (va_runV (As := [.int 0, .int v_10]) (rest := []) ⟨hx, hb, hml, hown, hts⟩ (c_X10_isOne__4 l D cy z H.size Ps ws hw.1 p0 0 v_10 sg_6 h_p0 rl_0 r_v_10 o_p0) (cwV 2 hts (gV tw_1378 tw_1380 ts_55 tw_15 tw_1381) rfl rfl rfl (by decide +kernel) ⟨Nat.le_of_ble_eq_true rfl, Nat.le_of_ble_eq_true rfl⟩) (tg_preV hw hK hSD hA (ci := 10) (q := (RX10, TX10, 49)) rfl h_p0 rfl) rfl rfl hl.1 rfl (lv_room (Nat.le_of_ble_eq_true rfl)) dX10_readHas_40 ⟨Nat.le_of_ble_eq_true rfl, Nat.le_of_ble_eq_true rfl⟩) hw hA ⟨by decide, by decide⟩ (fun v_11 ws H locs hp_v_11 hw hF9 => ?_)
      have m_v_4 := AEL.over hw8 hF9 h_vu_3 m_v_4 (by decide)
      have m_v_10 := AEL.over hw8 hF9 h_vu_3 m_v_10 (by decide)
      have m_u_3 := FLD.over hF9 m_u_3 (by decide)
      have x_RH_p0 := AX.over hF9 x_RH_p0 (by decide)
      have x_TOK_p0_gh := TKP.over hF9 x_TOK_p0_gh (by decide)
      obtain ⟨hfn, hp_v_11⟩ := hp_v_11
      obtain ⟨sg_12, q_sg_12⟩ : ∃ q9 : OS, (f_X10_isOne__4 (0 : Int32) v_10 sg_6).1 = q9 := ⟨_, rfl⟩
      have o_p0 : OV vw_MODEL Ps ws p0 sg_12 := by rw [← q_sg_12]; exact hfn.1
      have q_v_11 : (f_X10_isOne__4 (0 : Int32) v_10 sg_6).2 = v_11 := hfn.2.1
      have r_v_11 : RI v_11 0 1 := hp_v_11.1
      by_cases c9_v_11 : v_11 = 0
      · have r_v_11 : RI v_11 0 0 := by rw [c9_v_11]; exact rl_0
        refine lv_if_ne (tgt := 48) hx hb dX10_readHas_43 (by decide) (fun c_43 => ?_) (fun c_43 => ?_)
        · exact absurd (r_v_11.eq.trans rl_0.eq.symm) ((ti_ne c_43))
        · refine lv_iconst (v := 0) hx hb dX10_readHas_46 (by decide) ?_
          simp only [f_X10_readHas__1, ↓reduceIte, q_sg_2, q_v_4, q_sg_6, q_v_5, eq_false c9_v_5, eq_false c_16, q_v_7, q_v_8, q_v_9, q_v_10, q_sg_12, q_v_11, eq_true c9_v_11, eq_true c_43] at hE
          subst hQ
          exact W.zret (v := 0) hx hb hr (rfl) (fun t ht hW => ⟨⟨0, ws, rfl, ⟨⟨⟨(by rw [hR, ← hE]; exact o_p0), (by rw [hR, ← hE]), trivial⟩, rl_0.to (by decide), (fun h0 => trivial), (fun h0 => absurd rfl h0)⟩, hw.1, hw.2.2.2.2.1⟩, by rw [ht]; exact hw.2.1, va_K.moved hW.alike hK, hw.2.2.1⟩, hw.2.2.2.1.F ht⟩) hw.2.2.2.1.2.2 dX10_readHas_47
      · have r_v_11 : RI v_11 1 1 := rc_neL r_v_11 rl_0 (ti_ne c9_v_11) (by decide)
        have r_v_10 : RI v_10 1 6 := ((hp_v_11.2.2 c9_v_11).1)
        obtain ⟨v_13, m_v_13, r_v_13⟩ := ((hp_v_11.2.2 c9_v_11).2.1)
        refine lv_if_ne (tgt := 48) hx hb dX10_readHas_43 (by decide) (fun c_43 => ?_) (fun c_43 => ?_)
        · refine lv_iload_n hx hb dX10_readHas_48 rfl (lv_at hl 0 rfl) ?_
          refine lv_aload_n hx hb dX10_readHas_49 rfl (lv_at hl 1 rfl) ?_
          refine tg_mem (ci := 10) (C := RX10) (T := TX10) (N := 49) hx hb hts inX10 hown hK hw 13 m_v_13 rfl (by decide) (hts _ tw_1150) (fun _ h9 => h9) dX10_readHas_50 ?_
          have q_v_13 : sg_12.1 13 = v_13 := OV.eqI (V := vw_MODEL) hw.2.2.1 o_p0 m_v_13 (by decide)
          refine lv_iadd hx hb dX10_readHas_53 (lv_topi (fun v_14 e_v_14 => ?_))
          obtain ⟨t_v_14, r_v_14⟩ := tq_add (lo := 48) (hi := 83) r_v_9 r_v_13 (by decide +kernel) e_v_14
          have q_v_14 : v_9 + v_13 = v_14 := e_v_14.symm
          refine lv_istore_n (lv' := [(1, .int v_14), (0, .ref p0)]) hx hb dX10_readHas_54 rfl hl (by decide) rfl (fun ls hl => ?_)
          refine lv_aload_n hx hb dX10_readHas_55 rfl (lv_at hl 1 rfl) ?_
          refine tg_mem (ci := 10) (C := RX10) (T := TX10) (N := 49) hx hb hts inX10 hown hK hw 15 m_u_3 rfl (by decide) (hts _ tw_1152) (fun _ h9 => h9) dX10_readHas_56 ?_
          refine lv_iload_n hx hb dX10_readHas_59 rfl (lv_at hl 0 rfl) ?_
          refine tg_iald (lo := (-2147483648)) (hi := 2147483647) hx hb hK hw h_vu_3 rfl 48 83 r_v_14 (by decide) (by decide +kernel) dX10_readHas_60 (fun v_15 r_v_15 m_v_15 o_v_15 => ?_)
          have q_v_15 : sg_12.2.2.1 15 (Int32.toNatClampNeg v_14) = v_15 := OV.eqA (V := vw_MODEL) (t := 35) hw.2.2.1 o_p0 m_u_3 m_v_15 (by decide)
          refine lv_if_eq (tgt := 70) hx hb dX10_readHas_61 (by decide) (fun c_61 => ?_) (fun c_61 => ?_)
          · have r_v_15 : RI v_15 0 0 := rc_eq1 r_v_15 rl_0 (ti_eq c_61) (by decide)
            refine lv_aload_n hx hb dX10_readHas_70 rfl (lv_at hl 1 rfl) ?_
            have x_TO_p0_gh : TOP ws p0 (gh) := TKP.top x_TOK_p0_gh
            have hw8 := hw
            refine tk_v (va_runV (As := []) (rest := []) ⟨hx, hb, hml, hown, hts⟩ (c_X10_go__2 l D cy z H.size Ps ws hw.1 p0 (gh) sg_12 h_p0 x_TO_p0_gh o_p0) (cwV 0 hts (gV tw_1298 tw_1300 ts_40 tw_15 tw_1301) rfl rfl rfl (by decide +kernel) ⟨Nat.le_of_ble_eq_true rfl, Nat.le_of_ble_eq_true rfl⟩) (tg_preV hw hK hSD hA (ci := 10) (q := (RX10, TX10, 49)) rfl h_p0 rfl) rfl rfl hl.1 rfl (lv_room (Nat.le_of_ble_eq_true rfl)) dX10_readHas_71 ⟨Nat.le_of_ble_eq_true rfl, Nat.le_of_ble_eq_true rfl⟩) hw hA ⟨by decide, by decide⟩ (fun ws H locs hp_v_16 hw hF9 => ?_)
            have m_v_4 := AEL.over hw8 hF9 h_vu_3 m_v_4 (by decide)
            have m_v_10 := AEL.over hw8 hF9 h_vu_3 m_v_10 (by decide)
            have m_v_15 := AEL.over hw8 hF9 h_vu_3 m_v_15 (by decide)
            have m_u_3 := FLD.over hF9 m_u_3 (by decide)
            have m_v_13 := FLD.over hF9 m_v_13 (by decide)
            have x_RH_p0 := AX.over hF9 x_RH_p0 (by decide)
            obtain ⟨hfn, hp_v_16⟩ := hp_v_16
            obtain ⟨sg_17, q_sg_17⟩ : ∃ q9 : OS, (f_X10_go__2 sg_12) = q9 := ⟨_, rfl⟩
            have o_p0 : OV vw_MODEL Ps ws p0 sg_17 := by rw [← q_sg_17]; exact hfn.1
            have x_TOK_p0_gh := (hp_v_16.1)
            refine lv_aload_n hx hb dX10_readHas_74 rfl (lv_at hl 1 rfl) ?_
            refine lv_iload_n hx hb dX10_readHas_75 rfl (lv_at hl 0 rfl) ?_
            refine lv_aload_n hx hb dX10_readHas_76 rfl (lv_at hl 1 rfl) ?_
            refine lv_iconst (v := 1) hx hb dX10_readHas_77 (by decide) ?_
            refine lv_bipush (v := 99) hx hb dX10_readHas_78 (by decide) ?_
            have x_TO_p0_gh : TOP ws p0 (gh) := TKP.top x_TOK_p0_gh
            have hw8 := hw
            refine tk_i (va_runV (As := [.int 1, .int 99]) (rest := [.int v_14, .ref p0]) ⟨hx, hb, hml, hown, hts⟩ (c_X10_readNumber__9 l D cy z H.size Ps ws hw.1 p0 1 99 (gh) sg_17 h_p0 rl_1 rl_99 x_TO_p0_gh o_p0) (cwV 2 hts (gV tw_1355 tw_1357 ts_50 tw_15 tw_1358) rfl rfl rfl (by decide +kernel) ⟨Nat.le_of_ble_eq_true rfl, Nat.le_of_ble_eq_true rfl⟩) (tg_preV hw hK hSD hA (ci := 10) (q := (RX10, TX10, 49)) rfl h_p0 rfl) rfl rfl hl.1 rfl (lv_room (Nat.le_of_ble_eq_true rfl)) dX10_readHas_80 ⟨Nat.le_of_ble_eq_true rfl, Nat.le_of_ble_eq_true rfl⟩) hw hA ⟨by decide, by decide⟩ (fun v_18 ws H locs hp_v_18 hw hF9 => ?_)
            have m_v_4 := AEL.over hw8 hF9 h_vu_3 m_v_4 (by decide)
            have m_v_10 := AEL.over hw8 hF9 h_vu_3 m_v_10 (by decide)
            have m_v_15 := AEL.over hw8 hF9 h_vu_3 m_v_15 (by decide)
            have m_u_3 := FLD.over hF9 m_u_3 (by decide)
            have x_RH_p0 := AX.over hF9 x_RH_p0 (by decide)
            obtain ⟨hfn, hp_v_18⟩ := hp_v_18
            obtain ⟨sg_19, q_sg_19⟩ : ∃ q9 : OS, (f_X10_readNumber__7 (1 : Int32) (99 : Int32) sg_17).1 = q9 := ⟨_, rfl⟩
            have o_p0 : OV vw_MODEL Ps ws p0 sg_19 := by rw [← q_sg_19]; exact hfn.1
            have q_v_18 : (f_X10_readNumber__7 (1 : Int32) (99 : Int32) sg_17).2 = v_18 := hfn.2.1
            have r_v_18 : RI v_18 0 1 := hp_v_18.1
            by_cases c9_v_18 : v_18 = 0
            · have r_v_18 : RI v_18 0 0 := by rw [c9_v_18]; exact rl_0
              refine tk_ir (va_runV (As := [.int v_14, .int v_18]) (rest := []) ⟨hx, hb, hml, hown, hts⟩ (c_X10_put__20 l D cy z H.size Ps ws hw.1 p0 v_14 v_18 (fun f => RH2p f ∧ True) (fun f => RH2p f ∧ True) sg_19 h_p0 r_v_14 r_v_18 (AX.and hw x_RH_p0 (rx_true hw h_p0)) (fun f9 v9 hv9 H9 => ⟨(have h9 := H9.1; RH_keep h9 (by have k4 := r_v_14.cl (by decide); have k5 := r_v_14; unfold RI at k5; omega)), trivial⟩) o_p0) (cwV 2 hts (gV tw_1362 tw_1364 ts_51 tw_15 tw_1365) rfl rfl rfl (by decide +kernel) ⟨Nat.le_of_ble_eq_true rfl, Nat.le_of_ble_eq_true rfl⟩) (tg_preV hw hK hSD hA (ci := 10) (q := (RX10, TX10, 49)) rfl h_p0 rfl) rfl rfl hl.1 rfl (lv_room (Nat.le_of_ble_eq_true rfl)) dX10_readHas_83 ⟨Nat.le_of_ble_eq_true rfl, Nat.le_of_ble_eq_true rfl⟩) hw hA (fun v_20  H locs hp_v_20 hw => ?_)
              obtain ⟨hfn, hp_v_20⟩ := hp_v_20
              have q_v_20 : (f_X10_put__16 v_14 v_18 sg_19) = v_20 := hfn.1
              have r_v_20 : RI v_20 0 0 := hp_v_20.1
              by_cases c9_v_20 : v_20 = 0
              · have r_v_20 : RI v_20 0 0 := by rw [c9_v_20]; exact rl_0
                have x_RH_p0 : AX 15 35 (fun f => RH2p f) Ps ws p0 := AX.imp ((hp_v_20.2.1 c9_v_20).1) (fun _ h9 => h9.1)
                simp only [f_X10_readHas__1, ↓reduceIte, q_sg_2, q_v_4, q_sg_6, q_v_5, eq_false c9_v_5, eq_false c_16, q_v_7, q_v_8, q_v_9, q_v_10, q_sg_12, q_v_11, eq_false c9_v_11, eq_false c_43, q_v_13, q_v_14, q_v_15, eq_true c_61, q_sg_17, q_sg_19, q_v_18, eq_true c9_v_18, q_v_20, eq_true c9_v_20] at hE
                subst hQ
                exact W.zret (v := v_20) hx hb hr (tq_nz (r_v_20.to (by decide))) (fun t ht hW => ⟨⟨v_20, ws, rfl, ⟨⟨⟨(by rw [hR, ← hE]; exact o_p0), (by rw [hR, ← hE]), trivial⟩, r_v_20.to (by decide), (fun h0 => trivial), (fun h0 => absurd (Int32.toInt_inj.mp (by have h8 := r_v_20; unfold RI at h8; rw [Int32.toInt_zero]; omega)) h0)⟩, hw.1, hw.2.2.2.2.1⟩, by rw [ht]; exact hw.2.1, va_K.moved hW.alike hK, hw.2.2.1⟩, hw.2.2.2.1.F ht⟩) hw.2.2.2.1.2.2 dX10_readHas_86
              · exact absurd (Int32.toInt_inj.mp (by rw [Int32.toInt_zero]; unfold RI at r_v_20; omega)) c9_v_20
            · have r_v_18 : RI v_18 1 1 := rc_neL r_v_18 rl_0 (ti_ne c9_v_18) (by decide)
              obtain ⟨v_21, m_v_21, r_v_21⟩ := ((hp_v_18.2.2 c9_v_18).1)
              have x_TOK_p0_gh := ((hp_v_18.2.2 c9_v_18).2.1)
              have hw8 := hw
              refine tk_i (va_runV (As := [.int v_14, .int v_18]) (rest := []) ⟨hx, hb, hml, hown, hts⟩ (c_X10_put__21 l D cy z H.size Ps ws hw.1 p0 v_14 v_18 v_21 (fun f => RH2p f ∧ True) (fun f => RH2p f ∧ True) sg_19 h_p0 r_v_14 r_v_18 r_v_21 m_v_21 (AX.and hw x_RH_p0 (rx_true hw h_p0)) (fun f9 v9 hv9 H9 => ⟨(have h9 := H9.1; RH_keep h9 (by have k4 := r_v_14.cl (by decide); have k5 := r_v_14; unfold RI at k5; omega)), trivial⟩) o_p0) (cwV 2 hts (gV tw_1362 tw_1364 ts_51 tw_15 tw_1365) rfl rfl rfl (by decide +kernel) ⟨Nat.le_of_ble_eq_true rfl, Nat.le_of_ble_eq_true rfl⟩) (tg_preV hw hK hSD hA (ci := 10) (q := (RX10, TX10, 49)) rfl h_p0 rfl) rfl rfl hl.1 rfl (lv_room (Nat.le_of_ble_eq_true rfl)) dX10_readHas_83 ⟨Nat.le_of_ble_eq_true rfl, Nat.le_of_ble_eq_true rfl⟩) hw hA ⟨by decide, by decide⟩ (fun v_22 ws H locs hp_v_22 hw hF9 => ?_)
              have m_u_3 := FLD.over hF9 m_u_3 (by decide)
              have m_v_21 := FLD.over hF9 m_v_21 (by decide)
              have x_TOK_p0_gh := TKP.over hF9 x_TOK_p0_gh (by decide)
              obtain ⟨hfn, hp_v_22⟩ := hp_v_22
              obtain ⟨sg_23, q_sg_23⟩ : ∃ q9 : OS, (f_X10_put__17 v_14 v_18 sg_19).1 = q9 := ⟨_, rfl⟩
              have o_p0 : OV vw_MODEL Ps ws p0 sg_23 := by rw [← q_sg_23]; exact hfn.1
              have q_v_22 : (f_X10_put__17 v_14 v_18 sg_19).2 = v_22 := hfn.2.1
              have r_v_22 : RI v_22 1 1 := hp_v_22.1
              by_cases c9_v_22 : v_22 = 0
              · exact absurd (ti_eq c9_v_22) (by unfold RI at r_v_22; rw [Int32.toInt_zero]; omega)
              · obtain ⟨v_24, m_v_24, r_v_24⟩ := ((hp_v_22.2.2 c9_v_22).1)
                have x_RH_p0 : AX 15 35 (fun f => RH2p f) Ps ws p0 := AX.imp ((hp_v_22.2.2 c9_v_22).2.1) (fun _ h9 => h9.1)
                simp only [f_X10_readHas__1, ↓reduceIte, q_sg_2, q_v_4, q_sg_6, q_v_5, eq_false c9_v_5, eq_false c_16, q_v_7, q_v_8, q_v_9, q_v_10, q_sg_12, q_v_11, eq_false c9_v_11, eq_false c_43, q_v_13, q_v_14, q_v_15, eq_true c_61, q_sg_17, q_sg_19, q_v_18, eq_false c9_v_18, q_sg_23, q_v_22, eq_false c9_v_22] at hE
                subst hQ
                exact W.zret (v := v_22) hx hb hr (tq_nz (r_v_22.to (by decide))) (fun t ht hW => ⟨⟨v_22, ws, rfl, ⟨⟨⟨(by rw [hR, ← hE]; exact o_p0), (by rw [hR, ← hE]), trivial⟩, r_v_22.to (by decide), (fun _ => trivial), (fun h0 => ⟨⟨_, m_v_24, r_v_24⟩, x_TOK_p0_gh, x_RH_p0, trivial⟩)⟩, hw.1, hw.2.2.2.2.1⟩, by rw [ht]; exact hw.2.1, va_K.moved hW.alike hK, hw.2.2.1⟩, hw.2.2.2.1.F ht⟩) hw.2.2.2.1.2.2 dX10_readHas_86
          · refine lv_aload_n hx hb dX10_readHas_64 rfl (lv_at hl 1 rfl) ?_
            refine lv_iconst (v := 3) hx hb dX10_readHas_65 (by decide) ?_
            have hw8 := hw
            refine tk_i (va_runV (As := [.int 3]) (rest := []) ⟨hx, hb, hml, hown, hts⟩ (c_X10_bad__1 l D cy z H.size Ps ws hw.1 p0 3 sg_12 h_p0 (rl_3.to (by decide)) o_p0) (cwV 1 hts (gV tw_1336 tw_1338 ts_46 tw_15 tw_1339) rfl rfl rfl (by decide +kernel) ⟨Nat.le_of_ble_eq_true rfl, Nat.le_of_ble_eq_true rfl⟩) (tg_preV hw hK hSD hA (ci := 10) (q := (RX10, TX10, 49)) rfl h_p0 rfl) rfl rfl hl.1 rfl (lv_room (Nat.le_of_ble_eq_true rfl)) dX10_readHas_66 ⟨Nat.le_of_ble_eq_true rfl, Nat.le_of_ble_eq_true rfl⟩) hw hA ⟨by decide, by decide⟩ (fun v_25 ws H locs hp_v_25 hw hF9 => ?_)
            have m_v_4 := AEL.over hw8 hF9 h_vu_3 m_v_4 (by decide)
            have m_v_10 := AEL.over hw8 hF9 h_vu_3 m_v_10 (by decide)
            have m_v_15 := AEL.over hw8 hF9 h_vu_3 m_v_15 (by decide)
            have m_u_3 := FLD.over hF9 m_u_3 (by decide)
            have m_v_13 := FLD.over hF9 m_v_13 (by decide)
            have x_RH_p0 := AX.over hF9 x_RH_p0 (by decide)
            have x_TOK_p0_gh := TKP.over hF9 x_TOK_p0_gh (by decide)
            obtain ⟨hfn, hp_v_25⟩ := hp_v_25
            obtain ⟨sg_26, q_sg_26⟩ : ∃ q9 : OS, (f_X10_bad__1 (3 : Int32) sg_12).1 = q9 := ⟨_, rfl⟩
            have o_p0 : OV vw_MODEL Ps ws p0 sg_26 := by rw [← q_sg_26]; exact hfn.1
            have q_v_25 : (f_X10_bad__1 (3 : Int32) sg_12).2 = v_25 := hfn.2.1
            have r_v_25 : RI v_25 0 0 := hp_v_25.1
            simp only [f_X10_readHas__1, ↓reduceIte, q_sg_2, q_v_4, q_sg_6, q_v_5, eq_false c9_v_5, eq_false c_16, q_v_7, q_v_8, q_v_9, q_v_10, q_sg_12, q_v_11, eq_false c9_v_11, eq_false c_43, q_v_13, q_v_14, q_v_15, eq_false c_61, q_sg_26, q_v_25] at hE
            subst hQ
            exact W.zret (v := v_25) hx hb hr (tq_nz (r_v_25.to (by decide))) (fun t ht hW => ⟨⟨v_25, ws, rfl, ⟨⟨⟨(by rw [hR, ← hE]; exact o_p0), (by rw [hR, ← hE]), trivial⟩, r_v_25.to (by decide), (fun h0 => trivial), (fun h0 => absurd (Int32.toInt_inj.mp (by have h8 := r_v_25; unfold RI at h8; rw [Int32.toInt_zero]; omega)) h0)⟩, hw.1, hw.2.2.2.2.1⟩, by rw [ht]; exact hw.2.1, va_K.moved hW.alike hK, hw.2.2.1⟩, hw.2.2.2.1.F ht⟩) hw.2.2.2.1.2.2 dX10_readHas_69
        · have r_v_11 : RI v_11 1 0 := rc_eq1 r_v_11 rl_0 (ti_eq c_43) (by decide)
          exact (r_v_11.no (by decide)).elim
    · have r_v_5 : RI v_5 1 0 := rc_eq1 r_v_5 rl_0 (ti_eq c_16) (by decide)
      exact (r_v_5.no (by decide)).elim
abbrev wr_X10_findIn__11 : List (Nat × Nat) := []
abbrev wa_X10_findIn__11 : List Nat := []
set_option maxHeartbeats 4000000 in
set_option maxRecDepth 100000 in
theorem c_X10_findIn__11 (l : Launch) (D : va_G) (cy : Nat → ClassId) (z : Nat → Nat) (sz : Nat) (Ps : PSI) (w0 : va_W) (hT : HT cy GG Ps w0) (p0 : Nat) (p1 : Int32) (p2 : Int32) (p3 : Int64) (s0 : Nat → Int64) (h_p0 : (p0, 42) ∈ Ps) (r_p1 : RI p1 16 16) (r_p2 : RI p2 0 8) (r_p3 : RJ p3 (-9223372036854775808) 9223372036854775807) (o_p0 : ARL Ps w0 p0 42 s0) : Met l yX10_findIn (Cond.code yX10_findIn cX10_findIn 6 (some .int) :: gT) ({ frames := 0, cells := 0, slots := 0, locals := 200 } : Room) (va_Pc [.ref p0, .int p1, .int p2, .long p3] (PRE D cy z w0 sz)) (va_Qi (fun (r : Int32) (u : Unit) => ((f_X10_findIn__9 p1 p2 p3 s0) = r ∧ True) ∧ (RI r (-1) 7 ∧ (r = 0 → True) ∧ (¬ r = 0 → True) ∧ (True) ∧ (r.toInt < 0 → NFD w0 p0 p1 p2 p3 ∧ True) ∧ (0 ≤ r.toInt → FDD w0 p0 p1 p2 p3 ∧ 1 ≤ Int32.toInt p2 ∧ True))) (BB D cy (va_A w0 sz) (fun (u : Unit) => w0)) (va_A w0 sz)) 0 0 (va_A w0 sz) := by
  refine Met.ofW (cc := cX10_findIn) (maxL := 6) (ret := (some .int)) (by decide) rfl ?_
  intro p e s m args below meth c s₁ B hml hv
  obtain ⟨rfl, hsz, hP, hK, hD0, hSD⟩ := hv
  have hx := B.exec
  have hb := B.bytes
  have hr := B.returns
  have hlocks := B.notSynchronized
  have hts : ∀ w ∈ gT, w.before _ s = true := fun w h => atoms_spec (ws := Cond.code yX10_findIn cX10_findIn 6 (some .int) :: gT) B.pre w (List.mem_cons_of_mem _ h)
  have hown : s.vm.findClass RX10 = some m.cls := findClass_of_methodNamed B.named
  subst hsz
  have hD := hD0.self (sz := s.heap.size)
  generalize hAe : va_A w0 s.heap.size = A at hD hSD ⊢
  have hA : ∀ q : Nat, s.heap.size ≤ q → A q := fun q h => by rw [← hAe]; exact Or.inr h
  have hl := lv_entry ([.ref p0, .int p1, .int p2, .long p3]) (n := 6) (Nat.le_of_ble_eq_true rfl)
  rw [lg_entry_eq]
  generalize (lg_sl ([.ref p0, .int p1, .int p2, .long p3]) ++ List.replicate (6 - (lg_sl ([.ref p0, .int p1, .int p2, .long p3])).length) Slot.unset).toArray = ls at hl ⊢
  have hl : lv_has ls 6 [(0, .ref p0), (1, .int p1), (2, .int p2), (3, .long p3)] := hl
  refine nameQ (fun Q hQ => ?_)
  have hw : WD D cy GG A s wr_X10_findIn__11 wa_X10_findIn__11 Ps w0 Ps w0 s.heap [] := ⟨hT, hP, hD, va_S.rf, FR.rf, hT.1, [], (List.append_nil _).symm⟩
  obtain ⟨R9, hR⟩ : ∃ q9 : Int32, f_X10_findIn__9 p1 p2 p3 s0 = q9 := ⟨_, rfl⟩
  have hE := hR
  have B3 : ∀ (nf : Nat) (x5 : Int32) (s0 : Nat → Int64) (H : Heap) (locs : List Loc) (ls : Array Slot), 8 - x5.toInt < (nf : Int) → RI p1 16 16 → RI p2 0 8 → RJ p3 (-9223372036854775808) 9223372036854775807 → RI x5 0 8 → NFD w0 p0 p1 x5 p3 → ARL Ps w0 p0 42 s0 → f_X10_findIn__9_3 p1 p2 p3 nf x5 s0 = R9 → WD D cy GG A s wr_X10_findIn__11 wa_X10_findIn__11 Ps w0 Ps w0 H locs → lv_has ls 6 [(0, .ref p0), (1, .int p1), (2, .int p2), (3, .long p3), (5, .int x5)] → W p l e (headSpec (Cond.code yX10_findIn cX10_findIn 6 (some .int) :: gT) ({ frames := 0, cells := 0, slots := 0, locals := 200 } : Room)).room s m ([.ref p0, .int p1, .int p2, .long p3] : List Value).toArray below meth c H locs 0 0 Q (F0 m 3 ls []) := by
    intro nf3
    induction nf3 with
    | zero =>
      intro x5 s0 H locs ls hn3 r_p1 r_p2 r_p3 r_x5 x_NF_p0_p1__5_p3 o_p0 hE hw hl
      exact absurd hn3 (by have q0 := r_x5.1; have u0 := r_x5.2; omega)
    | succ nf3 ih3 =>
      intro x5 s0 H locs ls hn3 r_p1 r_p2 r_p3 r_x5 x_NF_p0_p1__5_p3 o_p0 hE hw hl
      refine lv_iload hx hb dX10_findIn_3 (lv_at hl 4 rfl) ?_
      refine lv_iload_n hx hb dX10_findIn_5 rfl (lv_at hl 2 rfl) ?_
      refine lv_icmp_ge (tgt := 29) hx hb dX10_findIn_6 (by decide) (fun c_6 => ?_) (fun c_6 => ?_)
      · have x_NF_p0_p1_p2_p3 : NFD w0 p0 p1 p2 p3 := NFD.mono x_NF_p0_p1__5_p3 c_6
        refine lv_iconst (v := (-1)) hx hb dX10_findIn_29 (by decide) ?_
        simp only [f_X10_findIn__9_3, ↓reduceIte, eq_true c_6] at hE
        subst hQ
        exact W.iret (v := (-1)) hx hb hr (fun t ht hW => ⟨⟨(-1), (), rfl, ⟨⟨(by rw [hR, ← hE]), trivial⟩, rl_m1.to (by decide), (fun _ => trivial), (fun h0 => trivial), trivial, (fun h0 => ⟨x_NF_p0_p1_p2_p3, trivial⟩), (fun h0 => absurd h0 (by have h8 := rl_m1; unfold RI at h8; omega))⟩, by rw [ht]; exact hw.2.1, va_K.moved hW.alike hK, hw.2.2.1⟩, hw.2.2.2.1.F ht⟩) hw.2.2.2.1.2.2 dX10_findIn_30
      · have r_x5 : RI x5 0 7 := rc_lt1 r_x5 r_p2 (ti_nle c_6) (by decide)
        have r_p2 : RI p2 1 8 := rc_lt2 r_x5 r_p2 (ti_nle c_6) (by decide)
        refine lv_aload_n hx hb dX10_findIn_9 rfl (lv_at hl 0 rfl) ?_
        refine lv_iload_n hx hb dX10_findIn_10 rfl (lv_at hl 1 rfl) ?_
        refine lv_iload hx hb dX10_findIn_11 (lv_at hl 4 rfl) ?_
        refine lv_iadd hx hb dX10_findIn_13 (lv_topi (fun v_1 e_v_1 => ?_))
        obtain ⟨t_v_1, r_v_1⟩ := tq_add (lo := 16) (hi := 23) r_p1 r_x5 (by decide +kernel) e_v_1
        have q_v_1 : p1 + x5 = v_1 := e_v_1.symm
        refine tg_laldE hx hb hK hw h_p0 rfl r_v_1 (by decide) dX10_findIn_14 (fun w_2 r_w_2 l_w_2 => ?_)
        have q_w_2 : s0 (Int32.toNatClampNeg v_1) = w_2 := ARL.lel hw.2.2.1 o_p0 l_w_2
        refine lv_lload_n hx hb dX10_findIn_15 rfl (lv_at hl 3 rfl) ?_
        refine W.lcmp hx hb dX10_findIn_16 (lv_topi (fun v_3 e_v_3 => ?_))
        have r_v_3 := ri_any v_3
        have q_v_3 : lg_cmp w_2 p3 = v_3 := e_v_3.symm
        refine lv_if_ne (tgt := 23) hx hb dX10_findIn_17 (by decide) (fun c_17 => ?_) (fun c_17 => ?_)
        · obtain ⟨v_4, e_v_4⟩ : ∃ q9 : Int32, q9 = x5 + Int32.ofInt 1 := ⟨_, rfl⟩
          obtain ⟨t_v_4, r_v_4⟩ := tq_add (lo := 1) (hi := 8) r_x5 (show RI (Int32.ofInt 1) 1 1 by unfold RI; decide +kernel) (by decide +kernel) e_v_4
          have t_v_4 : v_4.toInt = x5.toInt + 1 := t_v_4
          refine lv_iinc (v := v_4) (lv' := [(5, .int v_4), (0, .ref p0), (1, .int p1), (2, .int p2), (3, .long p3)]) hx hb dX10_findIn_23 hl (k := 4) rfl e_v_4.symm (by decide) rfl (fun ls hl => ?_)
          have q_v_4 : x5 + (1 : Int32) = v_4 := by rw [e_v_4, show Int32.ofInt 1 = (1 : Int32) by decide]
          refine lv_goto (tgt := 3) hx hb dX10_findIn_26 (by decide) ?_
          simp only [f_X10_findIn__9_3, ↓reduceIte, eq_false c_6, q_v_1, q_w_2, q_v_3, eq_false c_17, q_v_4] at hE
          have x_NF_p0_p1_v_4_p3 : NFD w0 p0 p1 v_4 p3 := NFD.step hw x_NF_p0_p1__5_p3 l_w_2 (by have k1 := r_v_1.cl (by decide); have k2 := r_p1.cl (by decide); have k3 := r_x5.cl (by decide); omega) (lcmp_ne e_v_3 c_17) t_v_4 r_x5.1
          exact ih3 v_4 s0 _ _ ls (by have q0 := r_v_4.1; have u0 := r_v_4.2; have o0 := r_x5.1; have p0 := r_x5.2; omega) r_p1 (r_p2.to (by decide)) r_p3 (r_v_4.to (by decide)) x_NF_p0_p1_v_4_p3 o_p0 hE hw (lv_sub hl [1, 2, 3, 4, 0] rfl)
        · have r_v_3 : RI v_3 0 0 := rc_eq1 r_v_3 rl_0 (ti_eq c_17) (by decide)
          have x_FD_p0_p1_p2_p3 : FDD w0 p0 p1 p2 p3 := FDD.mk l_w_2 (by have k1 := r_v_1.cl (by decide); have k2 := r_p1.cl (by decide); have k3 := r_x5.cl (by decide); omega) (lcmp_eq e_v_3 c_17) (ti_nle c_6) r_x5.1
          have x_POS_p2 : 1 ≤ Int32.toInt p2 := by have k1 := ti_nle c_6; have k2 := r_x5.1; omega
          refine lv_iload hx hb dX10_findIn_20 (lv_at hl 4 rfl) ?_
          simp only [f_X10_findIn__9_3, ↓reduceIte, eq_false c_6, q_v_1, q_w_2, q_v_3, eq_true c_17] at hE
          subst hQ
          exact W.iret (v := x5) hx hb hr (fun t ht hW => ⟨⟨x5, (), rfl, ⟨⟨(by rw [hR, ← hE]), trivial⟩, r_x5.to (by decide), (fun h0 => trivial), (fun h0 => trivial), trivial, (fun h0 => absurd h0 (by have h8 := r_x5; unfold RI at h8; omega)), (fun h0 => ⟨x_FD_p0_p1_p2_p3, x_POS_p2, trivial⟩)⟩, by rw [ht]; exact hw.2.1, va_K.moved hW.alike hK, hw.2.2.1⟩, hw.2.2.2.1.F ht⟩) hw.2.2.2.1.2.2 dX10_findIn_22
  refine lv_iconst (v := 0) hx hb dX10_findIn_0 (by decide) ?_
  refine lv_istore (lv' := [(5, .int 0), (0, .ref p0), (1, .int p1), (2, .int p2), (3, .long p3)]) hx hb dX10_findIn_1 hl (by decide) rfl (fun ls hl => ?_)
  simp only [f_X10_findIn__9, ↓reduceIte] at hE
  have x_NF_p0_p1_0_p3 : NFD w0 p0 p1 0 p3 := NFD.zero hw h_p0 rfl
  exact B3 4294967298 0 s0 _ _ ls (by have q0 := rl_0.1; have u0 := rl_0.2; omega) r_p1 r_p2 r_p3 (rl_0.to (by decide)) x_NF_p0_p1_0_p3 o_p0 hE hw (lv_sub hl [1, 2, 3, 4, 0] rfl)
abbrev wr_X10_isOne__6 : List (Nat × Nat) := [(10, 10), (10, 11), (10, 13)]
abbrev wa_X10_isOne__6 : List Nat := []
set_option maxHeartbeats 4000000 in
set_option maxRecDepth 100000 in
theorem c_X10_isOne__6 (l : Launch) (D : va_G) (cy : Nat → ClassId) (z : Nat → Nat) (sz : Nat) (Ps : PSI) (w0 : va_W) (hT : HT cy GG Ps w0) (p0 : Nat) (p1 : Int32) (p2 : Int32) (s0 : OS) (h_p0 : (p0, 55) ∈ Ps) (r_p1 : RI p1 16 16) (r_p2 : RI p2 0 8) (o_p0 : OV vw_MODEL Ps w0 p0 s0) : Met l yX10_isOne (Cond.code yX10_isOne cX10_isOne 3 (some .boolean) :: gT) ({ frames := 4, cells := 0, slots := 0, locals := 800 } : Room) (va_Pc [.ref p0, .int p1, .int p2] (PRE D cy z w0 sz)) (va_Qi (fun (r : Int32) (u : va_W) => ((OV vw_MODEL Ps u p0 ((f_X10_isOne__4 p1 p2 s0).1) ∧ (f_X10_isOne__4 p1 p2 s0).2 = r ∧ True) ∧ (RI r 0 1 ∧ (r = 0 → True) ∧ (¬ r = 0 → RI p2 1 8 ∧ (∃ v9 : Int32, FLD u p0 10 13 (.int v9) ∧ RI v9 0 7) ∧ True))) ∧ HT cy GG Ps u ∧ FR wr_X10_isOne__6 wa_X10_isOne__6 Ps w0 u) (BB D cy (va_A w0 sz) (fun (u : va_W) => u)) (va_A w0 sz)) 0 0 (va_A w0 sz) := by
  refine Met.ofW (cc := cX10_isOne) (maxL := 3) (ret := (some .boolean)) (by decide) rfl ?_
  intro p e s m args below meth c s₁ B hml hv
  obtain ⟨rfl, hsz, hP, hK, hD0, hSD⟩ := hv
  have hx := B.exec
  have hb := B.bytes
  have hr := B.returns
  have hlocks := B.notSynchronized
  have hts : ∀ w ∈ gT, w.before _ s = true := fun w h => atoms_spec (ws := Cond.code yX10_isOne cX10_isOne 3 (some .boolean) :: gT) B.pre w (List.mem_cons_of_mem _ h)
  have hown : s.vm.findClass RX10 = some m.cls := findClass_of_methodNamed B.named
  subst hsz
  have hD := hD0.self (sz := s.heap.size)
  generalize hAe : va_A w0 s.heap.size = A at hD hSD ⊢
  have hA : ∀ q : Nat, s.heap.size ≤ q → A q := fun q h => by rw [← hAe]; exact Or.inr h
  have hl := lv_entry ([.ref p0, .int p1, .int p2]) (n := 3) (Nat.le_of_ble_eq_true rfl)
  rw [lg_entry_eq]
  generalize (lg_sl ([.ref p0, .int p1, .int p2]) ++ List.replicate (3 - (lg_sl ([.ref p0, .int p1, .int p2])).length) Slot.unset).toArray = ls at hl ⊢
  have hl : lv_has ls 3 [(0, .ref p0), (1, .int p1), (2, .int p2)] := hl
  refine nameQ (fun Q hQ => ?_)
  have hw : WD D cy GG A s wr_X10_isOne__6 wa_X10_isOne__6 Ps w0 Ps w0 s.heap [] := ⟨hT, hP, hD, va_S.rf, FR.rf, hT.1, [], (List.append_nil _).symm⟩
  obtain ⟨R9, hR⟩ : ∃ q9 : OS × Int32, f_X10_isOne__4 p1 p2 s0 = q9 := ⟨_, rfl⟩
  have hE := hR
  refine lv_aload_n hx hb dX10_isOne_0 rfl (lv_at hl 0 rfl) ?_
  refine tk_ir (va_runV (As := []) (rest := []) ⟨hx, hb, hml, hown, hts⟩ (c_X10_isName__1 l D cy z s.heap.size Ps w0 hw.1 p0 s0 h_p0 o_p0) (cwV 0 hts (gV tw_1344 tw_1346 ts_48 tw_15 tw_1347) rfl rfl rfl (by decide +kernel) ⟨Nat.le_of_ble_eq_true rfl, Nat.le_of_ble_eq_true rfl⟩) (tg_preV hw hK hSD hA (ci := 10) (q := (RX10, TX10, 49)) rfl h_p0 rfl) rfl rfl hl.1 rfl (lv_room (Nat.le_of_ble_eq_true rfl)) dX10_isOne_1 ⟨Nat.le_of_ble_eq_true rfl, Nat.le_of_ble_eq_true rfl⟩) hw hA (fun v_1  H locs hp_v_1 hw => ?_)
  obtain ⟨hfn, hp_v_1⟩ := hp_v_1
  have q_v_1 : (f_X10_isName__1 s0) = v_1 := hfn.1
  have r_v_1 : RI v_1 0 1 := hp_v_1.1
  refine lv_if_ne (tgt := 13) hx hb dX10_isOne_4 (by decide) (fun c_4 => ?_) (fun c_4 => ?_)
  · have r_v_1 : RI v_1 1 1 := rc_neL r_v_1 rl_0 (ti_ne c_4) (by decide)
    refine lv_aload_n hx hb dX10_isOne_13 rfl (lv_at hl 0 rfl) ?_
    refine lv_aload_n hx hb dX10_isOne_14 rfl (lv_at hl 0 rfl) ?_
    refine tg_get (ci := 10) (ts := ty_MODEL) (C := RX10) (T := TX10) (N := 49) hx hb hts inX10 hown hK hw h_p0 rfl rfl 21 (by decide) (hts _ tw_1158) (fun _ h9 => h9) (ft := vR 42) rfl dX10_isOne_15 (fun u_2 hv_u_2 m_u_2 => ?_)
    obtain ⟨vu_2, rfl, h_vu_2⟩ := hv_u_2
    refine lv_iload_n hx hb dX10_isOne_18 rfl (lv_at hl 1 rfl) ?_
    refine lv_iload_n hx hb dX10_isOne_19 rfl (lv_at hl 2 rfl) ?_
    refine lv_aload_n hx hb dX10_isOne_20 rfl (lv_at hl 0 rfl) ?_
    refine tg_get (ci := 10) (ts := ty_MODEL) (C := RX10) (T := TX10) (N := 49) hx hb hts inX10 hown hK hw h_p0 rfl rfl 12 (by decide) (hts _ tw_1149) (fun _ h9 => h9) (ft := vJ (-9223372036854775808) 9223372036854775807) rfl dX10_isOne_21 (fun u_3 hv_u_3 m_u_3 => ?_)
    obtain ⟨vu_3, rfl, r_vu_3⟩ := hv_u_3
    have q_vu_3 : s0.2.1 12 = vu_3 := OV.eqL (V := vw_MODEL) hw.2.2.1 o_p0 m_u_3 (by decide)
    have oa_vu_2 := OV.arrB (V := vw_MODEL) (t := 42) hw.2.2.1 o_p0 m_u_2 (by decide)
    have mo9_vu_2 := And.intro hw.2.2.1 m_u_2
    refine tk_ir (va_runS (As := [.ref vu_2, .int p1, .int p2, .long vu_3]) (rest := [.ref p0]) ⟨hx, hb, hml, hown, hts⟩ (c_X10_findIn__11 l D cy z H.size Ps w0 hw.1 vu_2 p1 p2 vu_3 (s0.2.2.2 21) h_vu_2 r_p1 r_p2 r_vu_3 oa_vu_2) (va_cwS 4 hts (gS tw_1352 tw_1353 tw_15 tw_1354) rfl rfl rfl (by decide +kernel) ⟨Nat.le_of_ble_eq_true rfl, Nat.le_of_ble_eq_true rfl⟩) (tg_preS hw hK hSD hA) rfl rfl hl.1 rfl (lv_room (Nat.le_of_ble_eq_true rfl)) dX10_isOne_24 ⟨Nat.le_of_ble_eq_true rfl, Nat.le_of_ble_eq_true rfl⟩) hw hA (fun v_4  H locs hp_v_4 hw => ?_)
    obtain ⟨hfn, hp_v_4⟩ := hp_v_4
    have q_v_4 : (f_X10_findIn__9 p1 p2 vu_3 (s0.2.2.2 21)) = v_4 := hfn.1
    have r_v_4 : RI v_4 (-1) 7 := hp_v_4.1
    by_cases c9_v_4 : v_4.toInt < 0
    · have r_v_4 : RI v_4 (-1) (-1) := by unfold RI at r_v_4 ⊢; omega
      have x_NF_vu_2_p1_p2_vu_3 := (hp_v_4.2.2.2.2.1 (by omega)).1
      have hw8 := hw
      refine tg_put (ci := 10) (ts := ty_MODEL) (v := .int v_4) (ty := .int) (C := RX10) (T := TX10) (N := 49) hx hb hts inX10 tyX10 tyX10_ok nmX10 hown hK hw h_p0 rfl rfl 13 (by decide) (hts _ tw_1150) (fun _ h9 => h9) rfl (by decide +kernel) rfl rfl (ft := vI (-2147483648) 2147483647) rfl ⟨_, rfl, (r_v_4.to (by decide))⟩ (by decide) dX10_isOne_27 (fun ws H locs hw n_k_5 hF9 => ?_)
      have m_u_2 := FLD.over hF9 m_u_2 (by decide)
      have m_u_3 := FLD.over hF9 m_u_3 (by decide)
      have x_NF_vu_2_p1_p2_vu_3 := NFD.over hw8 hF9 h_vu_2 x_NF_vu_2_p1_p2_vu_3 (by decide)
      obtain ⟨sg_6, q_sg_6⟩ : ∃ q9 : OS, sI s0 13 v_4 = q9 := ⟨_, rfl⟩
      have o_p0 : OV vw_MODEL Ps ws p0 sg_6 := by rw [← q_sg_6]; exact OV.putI (V := vw_MODEL) hF9 n_k_5 o_p0 (by decide)
      refine lv_aload_n hx hb dX10_isOne_30 rfl (lv_at hl 0 rfl) ?_
      refine tg_mem (ci := 10) (C := RX10) (T := TX10) (N := 49) hx hb hts inX10 hown hK hw 13 n_k_5 rfl (by decide) (hts _ tw_1150) (fun _ h9 => h9) dX10_isOne_31 ?_
      refine lv_iconst (v := (-1)) hx hb dX10_isOne_34 (by decide) ?_
      refine lv_icmp_ne (tgt := 46) hx hb dX10_isOne_35 (by decide) (fun c_35 => ?_) (fun c_35 => ?_)
      · exact absurd (r_v_4.eq.trans rl_m1.eq.symm) ((ti_ne c_35))
      · refine lv_aload_n hx hb dX10_isOne_38 rfl (lv_at hl 0 rfl) ?_
        refine lv_iconst (v := 3) hx hb dX10_isOne_39 (by decide) ?_
        have hw8 := hw
        refine tk_i (va_runV (As := [.int 3]) (rest := []) ⟨hx, hb, hml, hown, hts⟩ (c_X10_bad__1 l D cy z H.size Ps ws hw.1 p0 3 sg_6 h_p0 (rl_3.to (by decide)) o_p0) (cwV 1 hts (gV tw_1336 tw_1338 ts_46 tw_15 tw_1339) rfl rfl rfl (by decide +kernel) ⟨Nat.le_of_ble_eq_true rfl, Nat.le_of_ble_eq_true rfl⟩) (tg_preV hw hK hSD hA (ci := 10) (q := (RX10, TX10, 49)) rfl h_p0 rfl) rfl rfl hl.1 rfl (lv_room (Nat.le_of_ble_eq_true rfl)) dX10_isOne_40 ⟨Nat.le_of_ble_eq_true rfl, Nat.le_of_ble_eq_true rfl⟩) hw hA ⟨by decide, by decide⟩ (fun v_7 ws H locs hp_v_7 hw hF9 => ?_)
        have m_u_2 := FLD.over hF9 m_u_2 (by decide)
        have m_u_3 := FLD.over hF9 m_u_3 (by decide)
        have n_k_5 := FLD.over hF9 n_k_5 (by decide)
        have x_NF_vu_2_p1_p2_vu_3 := NFD.over hw8 hF9 h_vu_2 x_NF_vu_2_p1_p2_vu_3 (by decide)
        obtain ⟨hfn, hp_v_7⟩ := hp_v_7
        obtain ⟨sg_8, q_sg_8⟩ : ∃ q9 : OS, (f_X10_bad__1 (3 : Int32) sg_6).1 = q9 := ⟨_, rfl⟩
        have o_p0 : OV vw_MODEL Ps ws p0 sg_8 := by rw [← q_sg_8]; exact hfn.1
        have q_v_7 : (f_X10_bad__1 (3 : Int32) sg_6).2 = v_7 := hfn.2.1
        have r_v_7 : RI v_7 0 0 := hp_v_7.1
        refine lv_if_eq (tgt := 50) hx hb dX10_isOne_43 (by decide) (fun c_43 => ?_) (fun c_43 => ?_)
        · refine lv_iconst (v := 0) hx hb dX10_isOne_50 (by decide) ?_
          simp only [f_X10_isOne__4, ↓reduceIte, q_v_1, eq_false c_4, q_vu_3, q_v_4, eq_true c9_v_4, q_sg_6, eq_true c_35, q_sg_8, q_v_7, eq_true c_43] at hE
          subst hQ
          exact W.zret (v := 0) hx hb hr (rfl) (fun t ht hW => ⟨⟨0, ws, rfl, ⟨⟨⟨(by rw [hR, ← hE]; exact o_p0), (by rw [hR, ← hE]), trivial⟩, rl_0.to (by decide), (fun h0 => trivial), (fun h0 => absurd rfl h0)⟩, hw.1, hw.2.2.2.2.1⟩, by rw [ht]; exact hw.2.1, va_K.moved hW.alike hK, hw.2.2.1⟩, hw.2.2.2.1.F ht⟩) hw.2.2.2.1.2.2 dX10_isOne_51
        · exact absurd (r_v_7.eq.trans rl_0.eq.symm) ((ti_ne c_43))
    · have r_v_4 : RI v_4 0 7 := by unfold RI at r_v_4 ⊢; omega
      have x_FD_vu_2_p1_p2_vu_3 := (hp_v_4.2.2.2.2.2 (by omega)).1
      have x_POS_p2 := (hp_v_4.2.2.2.2.2 (by omega)).2.1
      have r_p2 : RI p2 1 8 := ⟨x_POS_p2, r_p2.2⟩
      have hw8 := hw
      refine tg_put (ci := 10) (ts := ty_MODEL) (v := .int v_4) (ty := .int) (C := RX10) (T := TX10) (N := 49) hx hb hts inX10 tyX10 tyX10_ok nmX10 hown hK hw h_p0 rfl rfl 13 (by decide) (hts _ tw_1150) (fun _ h9 => h9) rfl (by decide +kernel) rfl rfl (ft := vI (-2147483648) 2147483647) rfl ⟨_, rfl, (r_v_4.to (by decide))⟩ (by decide) dX10_isOne_27 (fun ws H locs hw n_k_9 hF9 => ?_)
      have m_u_2 := FLD.over hF9 m_u_2 (by decide)
      have m_u_3 := FLD.over hF9 m_u_3 (by decide)
      have x_FD_vu_2_p1_p2_vu_3 := FDD.over hw8 hF9 h_vu_2 x_FD_vu_2_p1_p2_vu_3 (by decide)
      obtain ⟨sg_10, q_sg_10⟩ : ∃ q9 : OS, sI s0 13 v_4 = q9 := ⟨_, rfl⟩
      have o_p0 : OV vw_MODEL Ps ws p0 sg_10 := by rw [← q_sg_10]; exact OV.putI (V := vw_MODEL) hF9 n_k_9 o_p0 (by decide)
      refine lv_aload_n hx hb dX10_isOne_30 rfl (lv_at hl 0 rfl) ?_
      refine tg_mem (ci := 10) (C := RX10) (T := TX10) (N := 49) hx hb hts inX10 hown hK hw 13 n_k_9 rfl (by decide) (hts _ tw_1150) (fun _ h9 => h9) dX10_isOne_31 ?_
      refine lv_iconst (v := (-1)) hx hb dX10_isOne_34 (by decide) ?_
      refine lv_icmp_ne (tgt := 46) hx hb dX10_isOne_35 (by decide) (fun c_35 => ?_) (fun c_35 => ?_)
      · refine lv_iconst (v := 1) hx hb dX10_isOne_46 (by decide) ?_
        refine lv_goto (tgt := 51) hx hb dX10_isOne_47 (by decide) ?_
        simp only [f_X10_isOne__4, ↓reduceIte, q_v_1, eq_false c_4, q_vu_3, q_v_4, eq_false c9_v_4, q_sg_10, eq_false c_35] at hE
        subst hQ
        exact W.zret (v := 1) hx hb hr (rfl) (fun t ht hW => ⟨⟨1, ws, rfl, ⟨⟨⟨(by rw [hR, ← hE]; exact o_p0), (by rw [hR, ← hE]), trivial⟩, rl_1.to (by decide), (fun _ => trivial), (fun h0 => ⟨r_p2, ⟨_, n_k_9, r_v_4⟩, trivial⟩)⟩, hw.1, hw.2.2.2.2.1⟩, by rw [ht]; exact hw.2.1, va_K.moved hW.alike hK, hw.2.2.1⟩, hw.2.2.2.1.F ht⟩) hw.2.2.2.1.2.2 dX10_isOne_51
      · have r_v_4 : RI v_4 0 (-1) := rc_eq1 r_v_4 rl_m1 (ti_eq c_35) (by decide)
        exact (r_v_4.no (by decide)).elim
  · have r_v_1 : RI v_1 0 0 := rc_eq1 r_v_1 rl_0 (ti_eq c_4) (by decide)
    refine lv_aload_n hx hb dX10_isOne_7 rfl (lv_at hl 0 rfl) ?_
    refine lv_iconst (v := 1) hx hb dX10_isOne_8 (by decide) ?_
    refine tk_i (va_runV (As := [.int 1]) (rest := []) ⟨hx, hb, hml, hown, hts⟩ (c_X10_bad__1 l D cy z H.size Ps w0 hw.1 p0 1 s0 h_p0 (rl_1.to (by decide)) o_p0) (cwV 1 hts (gV tw_1336 tw_1338 ts_46 tw_15 tw_1339) rfl rfl rfl (by decide +kernel) ⟨Nat.le_of_ble_eq_true rfl, Nat.le_of_ble_eq_true rfl⟩) (tg_preV hw hK hSD hA (ci := 10) (q := (RX10, TX10, 49)) rfl h_p0 rfl) rfl rfl hl.1 rfl (lv_room (Nat.le_of_ble_eq_true rfl)) dX10_isOne_9 ⟨Nat.le_of_ble_eq_true rfl, Nat.le_of_ble_eq_true rfl⟩) hw hA ⟨by decide, by decide⟩ (fun v_11 ws H locs hp_v_11 hw hF9 => ?_)
    obtain ⟨hfn, hp_v_11⟩ := hp_v_11
    obtain ⟨sg_12, q_sg_12⟩ : ∃ q9 : OS, (f_X10_bad__1 (1 : Int32) s0).1 = q9 := ⟨_, rfl⟩
    have o_p0 : OV vw_MODEL Ps ws p0 sg_12 := by rw [← q_sg_12]; exact hfn.1
    have q_v_11 : (f_X10_bad__1 (1 : Int32) s0).2 = v_11 := hfn.2.1
    have r_v_11 : RI v_11 0 0 := hp_v_11.1
    simp only [f_X10_isOne__4, ↓reduceIte, q_v_1, eq_true c_4, q_sg_12, q_v_11] at hE
    subst hQ
    exact W.zret (v := v_11) hx hb hr (tq_nz (r_v_11.to (by decide))) (fun t ht hW => ⟨⟨v_11, ws, rfl, ⟨⟨⟨(by rw [hR, ← hE]; exact o_p0), (by rw [hR, ← hE]), trivial⟩, r_v_11.to (by decide), (fun h0 => trivial), (fun h0 => absurd (Int32.toInt_inj.mp (by have h8 := r_v_11; unfold RI at h8; rw [Int32.toInt_zero]; omega)) h0)⟩, hw.1, hw.2.2.2.2.1⟩, by rw [ht]; exact hw.2.1, va_K.moved hW.alike hK, hw.2.2.1⟩, hw.2.2.2.1.F ht⟩) hw.2.2.2.1.2.2 dX10_isOne_12
abbrev wr_X10_put__22 : List (Nat × Nat) := []
abbrev wa_X10_put__22 : List Nat := []
set_option maxHeartbeats 4000000 in
set_option maxRecDepth 100000 in
theorem c_X10_put__22 (l : Launch) (D : va_G) (cy : Nat → ClassId) (z : Nat → Nat) (sz : Nat) (Ps : PSI) (w0 : va_W) (hT : HT cy GG Ps w0) (p0 : Nat) (p1 : Int32) (p2 : Int32) (F : (Nat → Int32) → Prop) (F2 : (Nat → Int32) → Prop) (s0 : OS) (h_p0 : (p0, 55) ∈ Ps) (r_p1 : RI p1 40 47) (r_p2 : RI p2 0 0) (x_F : AX 15 35 F Ps w0 p0) (hF : ∀ (f : Nat → Int32) (v : Int32), RI v (-2147483648) 2147483647 → F f → F2 (upd f (Int32.toNatClampNeg p1) v)) (o_p0 : OV vw_MODEL Ps w0 p0 s0) : Met l yX10_put (Cond.code yX10_put cX10_put 3 (some .boolean) :: gT) ({ frames := 0, cells := 0, slots := 0, locals := 200 } : Room) (va_Pc [.ref p0, .int p1, .int p2] (PRE D cy z w0 sz)) (va_Qi (fun (r : Int32) (u : Unit) => ((f_X10_put__16 p1 p2 s0) = r ∧ True) ∧ (RI r 0 0 ∧ (r = 0 → AX 15 35 F Ps w0 p0 ∧ True) ∧ (¬ r = 0 → AX 15 35 F2 Ps w0 p0 ∧ True))) (BB D cy (va_A w0 sz) (fun (u : Unit) => w0)) (va_A w0 sz)) 0 0 (va_A w0 sz) := by
  refine Met.ofW (cc := cX10_put) (maxL := 3) (ret := (some .boolean)) (by decide) rfl ?_
  intro p e s m args below meth c s₁ B hml hv
  obtain ⟨rfl, hsz, hP, hK, hD0, hSD⟩ := hv
  have hx := B.exec
  have hb := B.bytes
  have hr := B.returns
  have hlocks := B.notSynchronized
  have hts : ∀ w ∈ gT, w.before _ s = true := fun w h => atoms_spec (ws := Cond.code yX10_put cX10_put 3 (some .boolean) :: gT) B.pre w (List.mem_cons_of_mem _ h)
  have hown : s.vm.findClass RX10 = some m.cls := findClass_of_methodNamed B.named
  subst hsz
  have hD := hD0.self (sz := s.heap.size)
  generalize hAe : va_A w0 s.heap.size = A at hD hSD ⊢
  have hA : ∀ q : Nat, s.heap.size ≤ q → A q := fun q h => by rw [← hAe]; exact Or.inr h
  have hl := lv_entry ([.ref p0, .int p1, .int p2]) (n := 3) (Nat.le_of_ble_eq_true rfl)
  rw [lg_entry_eq]
  generalize (lg_sl ([.ref p0, .int p1, .int p2]) ++ List.replicate (3 - (lg_sl ([.ref p0, .int p1, .int p2])).length) Slot.unset).toArray = ls at hl ⊢
  have hl : lv_has ls 3 [(0, .ref p0), (1, .int p1), (2, .int p2)] := hl
  refine nameQ (fun Q hQ => ?_)
  have hw : WD D cy GG A s wr_X10_put__22 wa_X10_put__22 Ps w0 Ps w0 s.heap [] := ⟨hT, hP, hD, va_S.rf, FR.rf, hT.1, [], (List.append_nil _).symm⟩
  obtain ⟨R9, hR⟩ : ∃ q9 : Int32, f_X10_put__16 p1 p2 s0 = q9 := ⟨_, rfl⟩
  have hE := hR
  refine lv_iload_n hx hb dX10_put_0 rfl (lv_at hl 2 rfl) ?_
  refine lv_if_eq (tgt := 14) hx hb dX10_put_1 (by decide) (fun c_1 => ?_) (fun c_1 => ?_)
  · refine lv_iload_n hx hb dX10_put_14 rfl (lv_at hl 2 rfl) ?_
    simp only [f_X10_put__16, ↓reduceIte, eq_true c_1] at hE
    subst hQ
    exact W.zret (v := p2) hx hb hr (tq_nz (r_p2.to (by decide))) (fun t ht hW => ⟨⟨p2, (), rfl, ⟨⟨(by rw [hR, ← hE]), trivial⟩, r_p2.to (by decide), (fun h0 => ⟨x_F, trivial⟩), (fun h0 => absurd (Int32.toInt_inj.mp (by have h8 := r_p2; unfold RI at h8; rw [Int32.toInt_zero]; omega)) h0)⟩, by rw [ht]; exact hw.2.1, va_K.moved hW.alike hK, hw.2.2.1⟩, hw.2.2.2.1.F ht⟩) hw.2.2.2.1.2.2 dX10_put_15
  · exact absurd (r_p2.eq.trans rl_0.eq.symm) ((ti_ne c_1))
abbrev wr_X10_put__23 : List (Nat × Nat) := []
abbrev wa_X10_put__23 : List Nat := [35]
set_option maxHeartbeats 4000000 in
set_option maxRecDepth 100000 in
theorem c_X10_put__23 (l : Launch) (D : va_G) (cy : Nat → ClassId) (z : Nat → Nat) (sz : Nat) (Ps : PSI) (w0 : va_W) (hT : HT cy GG Ps w0) (p0 : Nat) (p1 : Int32) (p2 : Int32) (f0_13 : Int32) (F : (Nat → Int32) → Prop) (F2 : (Nat → Int32) → Prop) (s0 : OS) (h_p0 : (p0, 55) ∈ Ps) (r_p1 : RI p1 40 47) (r_p2 : RI p2 1 1) (r_f0_13 : RI f0_13 0 5) (m_f0_13 : FLD w0 p0 10 13 (.int f0_13)) (x_F : AX 15 35 F Ps w0 p0) (hF : ∀ (f : Nat → Int32) (v : Int32), RI v 0 5 → F f → F2 (upd f (Int32.toNatClampNeg p1) v)) (o_p0 : OV vw_MODEL Ps w0 p0 s0) : Met l yX10_put (Cond.code yX10_put cX10_put 3 (some .boolean) :: gT) ({ frames := 0, cells := 0, slots := 0, locals := 200 } : Room) (va_Pc [.ref p0, .int p1, .int p2] (PRE D cy z w0 sz)) (va_Qi (fun (r : Int32) (u : va_W) => ((OV vw_MODEL Ps u p0 ((f_X10_put__17 p1 p2 s0).1) ∧ (f_X10_put__17 p1 p2 s0).2 = r ∧ True) ∧ (RI r 1 1 ∧ (r = 0 → AX 15 35 F Ps u p0 ∧ True) ∧ (¬ r = 0 → (∃ v9 : Int32, FLD u p0 10 13 (.int v9) ∧ RI v9 0 5) ∧ AX 15 35 F2 Ps u p0 ∧ True))) ∧ HT cy GG Ps u ∧ FR wr_X10_put__23 wa_X10_put__23 Ps w0 u) (BB D cy (va_A w0 sz) (fun (u : va_W) => u)) (va_A w0 sz)) 0 0 (va_A w0 sz) := by
  refine Met.ofW (cc := cX10_put) (maxL := 3) (ret := (some .boolean)) (by decide) rfl ?_
  intro p e s m args below meth c s₁ B hml hv
  obtain ⟨rfl, hsz, hP, hK, hD0, hSD⟩ := hv
  have hx := B.exec
  have hb := B.bytes
  have hr := B.returns
  have hlocks := B.notSynchronized
  have hts : ∀ w ∈ gT, w.before _ s = true := fun w h => atoms_spec (ws := Cond.code yX10_put cX10_put 3 (some .boolean) :: gT) B.pre w (List.mem_cons_of_mem _ h)
  have hown : s.vm.findClass RX10 = some m.cls := findClass_of_methodNamed B.named
  subst hsz
  have hD := hD0.self (sz := s.heap.size)
  generalize hAe : va_A w0 s.heap.size = A at hD hSD ⊢
  have hA : ∀ q : Nat, s.heap.size ≤ q → A q := fun q h => by rw [← hAe]; exact Or.inr h
  have hl := lv_entry ([.ref p0, .int p1, .int p2]) (n := 3) (Nat.le_of_ble_eq_true rfl)
  rw [lg_entry_eq]
  generalize (lg_sl ([.ref p0, .int p1, .int p2]) ++ List.replicate (3 - (lg_sl ([.ref p0, .int p1, .int p2])).length) Slot.unset).toArray = ls at hl ⊢
  have hl : lv_has ls 3 [(0, .ref p0), (1, .int p1), (2, .int p2)] := hl
  refine nameQ (fun Q hQ => ?_)
  have hw : WD D cy GG A s wr_X10_put__23 wa_X10_put__23 Ps w0 Ps w0 s.heap [] := ⟨hT, hP, hD, va_S.rf, FR.rf, hT.1, [], (List.append_nil _).symm⟩
  obtain ⟨R9, hR⟩ : ∃ q9 : OS × Int32, f_X10_put__17 p1 p2 s0 = q9 := ⟨_, rfl⟩
  have hE := hR
  refine lv_iload_n hx hb dX10_put_0 rfl (lv_at hl 2 rfl) ?_
  refine lv_if_eq (tgt := 14) hx hb dX10_put_1 (by decide) (fun c_1 => ?_) (fun c_1 => ?_)
  · have r_p2 : RI p2 1 0 := rc_eq1 r_p2 rl_0 (ti_eq c_1) (by decide)
    exact (r_p2.no (by decide)).elim
  · refine lv_aload_n hx hb dX10_put_4 rfl (lv_at hl 0 rfl) ?_
    refine tg_get (ci := 10) (ts := ty_MODEL) (C := RX10) (T := TX10) (N := 49) hx hb hts inX10 hown hK hw h_p0 rfl rfl 15 (by decide) (hts _ tw_1152) (fun _ h9 => h9) (ft := vR 35) rfl dX10_put_5 (fun u_1 hv_u_1 m_u_1 => ?_)
    obtain ⟨vu_1, rfl, h_vu_1⟩ := hv_u_1
    refine lv_iload_n hx hb dX10_put_8 rfl (lv_at hl 1 rfl) ?_
    refine lv_aload_n hx hb dX10_put_9 rfl (lv_at hl 0 rfl) ?_
    refine tg_mem (ci := 10) (C := RX10) (T := TX10) (N := 49) hx hb hts inX10 hown hK hw 13 m_f0_13 rfl (by decide) (hts _ tw_1150) (fun _ h9 => h9) dX10_put_10 ?_
    have q_f0_13 : s0.1 13 = f0_13 := OV.eqI (V := vw_MODEL) hw.2.2.1 o_p0 m_f0_13 (by decide)
    have mo9 := m_u_1
    refine tg_iast hx hb hK hw h_vu_1 rfl 40 47 r_p1 (by decide) r_f0_13 (by decide +kernel) (fun _ _ _ _ _ => trivial) (by decide) dX10_put_13 (fun ws H locs hw hF9 hU9 => ?_)
    have x_GFRB_p0 : AX 15 35 F2 Ps ws p0 := AX.ast hF9 hU9 x_F m_u_1 (fun f9 h9 => hF f9 _ r_f0_13 h9)
    have m_f0_13 := FLD.over hF9 m_f0_13 (by decide)
    have m_u_1 := FLD.over hF9 m_u_1 (by decide)
    obtain ⟨sg_2, q_sg_2⟩ : ∃ q9 : OS, sA s0 15 (Int32.toNatClampNeg p1) f0_13 = q9 := ⟨_, rfl⟩
    have o_p0 : OV vw_MODEL Ps ws p0 sg_2 := by rw [← q_sg_2]; exact OV.putA (V := vw_MODEL) (t := 35) hF9 hU9 o_p0 mo9 (by decide) (by decide)
    refine lv_iload_n hx hb dX10_put_14 rfl (lv_at hl 2 rfl) ?_
    simp only [f_X10_put__17, ↓reduceIte, eq_false c_1, q_f0_13, q_sg_2] at hE
    subst hQ
    exact W.zret (v := p2) hx hb hr (tq_nz (r_p2.to (by decide))) (fun t ht hW => ⟨⟨p2, ws, rfl, ⟨⟨⟨(by rw [hR, ← hE]; exact o_p0), (by rw [hR, ← hE]), trivial⟩, r_p2.to (by decide), (fun h0 => absurd (ti_eq h0) (by have h8 := r_p2; unfold RI at h8; rw [Int32.toInt_zero]; omega)), (fun h0 => ⟨⟨_, m_f0_13, r_f0_13⟩, x_GFRB_p0, trivial⟩)⟩, hw.1, hw.2.2.2.2.1⟩, by rw [ht]; exact hw.2.1, va_K.moved hW.alike hK, hw.2.2.1⟩, hw.2.2.2.1.F ht⟩) hw.2.2.2.1.2.2 dX10_put_15
abbrev wr_X10_readSits__1 : List (Nat × Nat) := [(10, 5), (10, 6), (10, 7), (10, 8), (10, 9), (10, 10), (10, 11), (10, 12), (10, 13)]
abbrev wa_X10_readSits__1 : List Nat := [35]
set_option maxHeartbeats 4000000 in
set_option maxRecDepth 100000 in
theorem c_X10_readSits__1 (l : Launch) (D : va_G) (cy : Nat → ClassId) (z : Nat → Nat) (sz : Nat) (Ps : PSI) (w0 : va_W) (hT : HT cy GG Ps w0) (p0 : Nat) (gh : Int) (s0 : OS) (h_p0 : (p0, 55) ∈ Ps) (x_TO_p0_gh : TOP w0 p0 (gh)) (x_RH_p0 : AX 15 35 (fun f => RH2p f) Ps w0 p0) (o_p0 : OV vw_MODEL Ps w0 p0 s0) : Met l yX10_readSits (Cond.code yX10_readSits cX10_readSits 2 (some .boolean) :: gT) ({ frames := 6, cells := 0, slots := 0, locals := 1200 } : Room) (va_Pc [.ref p0] (PRE D cy z w0 sz)) (va_Qi (fun (r : Int32) (u : va_W) => ((OV vw_MODEL Ps u p0 ((f_X10_readSits__1 s0).1) ∧ (f_X10_readSits__1 s0).2 = r ∧ True) ∧ (RI r 0 1 ∧ (r = 0 → True) ∧ (¬ r = 0 → (∃ v9 : Int32, FLD u p0 10 13 (.int v9) ∧ RI v9 0 5) ∧ TKP u p0 (gh) ∧ AX 15 35 (fun f => RH2p f) Ps u p0 ∧ True))) ∧ HT cy GG Ps u ∧ FR wr_X10_readSits__1 wa_X10_readSits__1 Ps w0 u) (BB D cy (va_A w0 sz) (fun (u : va_W) => u)) (va_A w0 sz)) 0 0 (va_A w0 sz) := by
  refine Met.ofW (cc := cX10_readSits) (maxL := 2) (ret := (some .boolean)) (by decide) rfl ?_
  intro p e s m args below meth c s₁ B hml hv
  obtain ⟨rfl, hsz, hP, hK, hD0, hSD⟩ := hv
  have hx := B.exec
  have hb := B.bytes
  have hr := B.returns
  have hlocks := B.notSynchronized
  have hts : ∀ w ∈ gT, w.before _ s = true := fun w h => atoms_spec (ws := Cond.code yX10_readSits cX10_readSits 2 (some .boolean) :: gT) B.pre w (List.mem_cons_of_mem _ h)
  have hown : s.vm.findClass RX10 = some m.cls := findClass_of_methodNamed B.named
  subst hsz
  have hD := hD0.self (sz := s.heap.size)
  generalize hAe : va_A w0 s.heap.size = A at hD hSD ⊢
  have hA : ∀ q : Nat, s.heap.size ≤ q → A q := fun q h => by rw [← hAe]; exact Or.inr h
  have hl := lv_entry ([.ref p0]) (n := 2) (Nat.le_of_ble_eq_true rfl)
  rw [lg_entry_eq]
  generalize (lg_sl ([.ref p0]) ++ List.replicate (2 - (lg_sl ([.ref p0])).length) Slot.unset).toArray = ls at hl ⊢
  have hl : lv_has ls 2 [(0, .ref p0)] := hl
  refine nameQ (fun Q hQ => ?_)
  have hw : WD D cy GG A s wr_X10_readSits__1 wa_X10_readSits__1 Ps w0 Ps w0 s.heap [] := ⟨hT, hP, hD, va_S.rf, FR.rf, hT.1, [], (List.append_nil _).symm⟩
  obtain ⟨R9, hR⟩ : ∃ q9 : OS × Int32, f_X10_readSits__1 s0 = q9 := ⟨_, rfl⟩
  have hE := hR
  refine lv_aload_n hx hb dX10_readSits_0 rfl (lv_at hl 0 rfl) ?_
  refine tk_v (va_runV (As := []) (rest := []) ⟨hx, hb, hml, hown, hts⟩ (c_X10_go__2 l D cy z s.heap.size Ps w0 hw.1 p0 (gh) s0 h_p0 x_TO_p0_gh o_p0) (cwV 0 hts (gV tw_1298 tw_1300 ts_40 tw_15 tw_1301) rfl rfl rfl (by decide +kernel) ⟨Nat.le_of_ble_eq_true rfl, Nat.le_of_ble_eq_true rfl⟩) (tg_preV hw hK hSD hA (ci := 10) (q := (RX10, TX10, 49)) rfl h_p0 rfl) rfl rfl hl.1 rfl (lv_room (Nat.le_of_ble_eq_true rfl)) dX10_readSits_1 ⟨Nat.le_of_ble_eq_true rfl, Nat.le_of_ble_eq_true rfl⟩) hw hA ⟨by decide, by decide⟩ (fun ws H locs hp_v_1 hw hF9 => ?_)
  have x_RH_p0 := AX.over hF9 x_RH_p0 (by decide)
  obtain ⟨hfn, hp_v_1⟩ := hp_v_1
  obtain ⟨sg_2, q_sg_2⟩ : ∃ q9 : OS, (f_X10_go__2 s0) = q9 := ⟨_, rfl⟩
  have o_p0 : OV vw_MODEL Ps ws p0 sg_2 := by rw [← q_sg_2]; exact hfn.1
  have x_TOK_p0_gh := (hp_v_1.1)
  refine lv_aload_n hx hb dX10_readSits_4 rfl (lv_at hl 0 rfl) ?_
  refine lv_bipush (v := 16) hx hb dX10_readSits_5 (by decide) ?_
  refine lv_aload_n hx hb dX10_readSits_7 rfl (lv_at hl 0 rfl) ?_
  refine tg_get (ci := 10) (ts := ty_MODEL) (C := RX10) (T := TX10) (N := 49) hx hb hts inX10 hown hK hw h_p0 rfl rfl 15 (by decide) (hts _ tw_1152) (fun _ h9 => h9) (ft := vR 35) rfl dX10_readSits_8 (fun u_3 hv_u_3 m_u_3 => ?_)
  obtain ⟨vu_3, rfl, h_vu_3⟩ := hv_u_3
  refine lv_iconst (v := 3) hx hb dX10_readSits_11 (by decide) ?_
  refine tg_iald (lo := 0) (hi := 8) hx hb hK hw h_vu_3 rfl 3 3 rl_3 (by decide) (by decide +kernel) dX10_readSits_12 (fun v_4 r_v_4 m_v_4 o_v_4 => ?_)
  have q_v_4 : sg_2.2.2.1 15 (Int32.toNatClampNeg (3 : Int32)) = v_4 := OV.eqA (V := vw_MODEL) (t := 35) hw.2.2.1 o_p0 m_u_3 m_v_4 (by decide)
  have hw8 := hw
  refine tk_i (va_runV (As := [.int 16, .int v_4]) (rest := []) ⟨hx, hb, hml, hown, hts⟩ (c_X10_isOne__6 l D cy z H.size Ps ws hw.1 p0 16 v_4 sg_2 h_p0 rl_16 r_v_4 o_p0) (cwV 2 hts (gV tw_1378 tw_1380 ts_55 tw_15 tw_1381) rfl rfl rfl (by decide +kernel) ⟨Nat.le_of_ble_eq_true rfl, Nat.le_of_ble_eq_true rfl⟩) (tg_preV hw hK hSD hA (ci := 10) (q := (RX10, TX10, 49)) rfl h_p0 rfl) rfl rfl hl.1 rfl (lv_room (Nat.le_of_ble_eq_true rfl)) dX10_readSits_13 ⟨Nat.le_of_ble_eq_true rfl, Nat.le_of_ble_eq_true rfl⟩) hw hA ⟨by decide, by decide⟩ (fun v_5 ws H locs hp_v_5 hw hF9 => ?_)
  have m_v_4 := AEL.over hw8 hF9 h_vu_3 m_v_4 (by decide)
  have m_u_3 := FLD.over hF9 m_u_3 (by decide)
  have x_RH_p0 := AX.over hF9 x_RH_p0 (by decide)
  have x_TOK_p0_gh := TKP.over hF9 x_TOK_p0_gh (by decide)
  obtain ⟨hfn, hp_v_5⟩ := hp_v_5
  obtain ⟨sg_6, q_sg_6⟩ : ∃ q9 : OS, (f_X10_isOne__4 (16 : Int32) v_4 sg_2).1 = q9 := ⟨_, rfl⟩
  have o_p0 : OV vw_MODEL Ps ws p0 sg_6 := by rw [← q_sg_6]; exact hfn.1
  have q_v_5 : (f_X10_isOne__4 (16 : Int32) v_4 sg_2).2 = v_5 := hfn.2.1
  have r_v_5 : RI v_5 0 1 := hp_v_5.1
  by_cases c9_v_5 : v_5 = 0
  · have r_v_5 : RI v_5 0 0 := by rw [c9_v_5]; exact rl_0
    refine lv_if_ne (tgt := 21) hx hb dX10_readSits_16 (by decide) (fun c_16 => ?_) (fun c_16 => ?_)
    · exact absurd (r_v_5.eq.trans rl_0.eq.symm) ((ti_ne c_16))
    · refine lv_iconst (v := 0) hx hb dX10_readSits_19 (by decide) ?_
      simp only [f_X10_readSits__1, ↓reduceIte, q_sg_2, q_v_4, q_sg_6, q_v_5, eq_true c9_v_5, eq_true c_16] at hE
      subst hQ
      exact W.zret (v := 0) hx hb hr (rfl) (fun t ht hW => ⟨⟨0, ws, rfl, ⟨⟨⟨(by rw [hR, ← hE]; exact o_p0), (by rw [hR, ← hE]), trivial⟩, rl_0.to (by decide), (fun h0 => trivial), (fun h0 => absurd rfl h0)⟩, hw.1, hw.2.2.2.2.1⟩, by rw [ht]; exact hw.2.1, va_K.moved hW.alike hK, hw.2.2.1⟩, hw.2.2.2.1.F ht⟩) hw.2.2.2.1.2.2 dX10_readSits_20
  · have r_v_5 : RI v_5 1 1 := rc_neL r_v_5 rl_0 (ti_ne c9_v_5) (by decide)
    have r_v_4 : RI v_4 1 8 := ((hp_v_5.2.2 c9_v_5).1)
    obtain ⟨v_7, m_v_7, r_v_7⟩ := ((hp_v_5.2.2 c9_v_5).2.1)
    refine lv_if_ne (tgt := 21) hx hb dX10_readSits_16 (by decide) (fun c_16 => ?_) (fun c_16 => ?_)
    · refine lv_bipush (v := 40) hx hb dX10_readSits_21 (by decide) ?_
      refine lv_aload_n hx hb dX10_readSits_23 rfl (lv_at hl 0 rfl) ?_
      refine tg_mem (ci := 10) (C := RX10) (T := TX10) (N := 49) hx hb hts inX10 hown hK hw 13 m_v_7 rfl (by decide) (hts _ tw_1150) (fun _ h9 => h9) dX10_readSits_24 ?_
      have q_v_7 : sg_6.1 13 = v_7 := OV.eqI (V := vw_MODEL) hw.2.2.1 o_p0 m_v_7 (by decide)
      refine lv_iadd hx hb dX10_readSits_27 (lv_topi (fun v_8 e_v_8 => ?_))
      obtain ⟨t_v_8, r_v_8⟩ := tq_add (lo := 40) (hi := 47) rl_40 r_v_7 (by decide +kernel) e_v_8
      have t_v_8 : v_8.toInt = 40 + v_7.toInt := t_v_8
      have q_v_8 : (40 : Int32) + v_7 = v_8 := e_v_8.symm
      refine lv_istore_n (lv' := [(1, .int v_8), (0, .ref p0)]) hx hb dX10_readSits_28 rfl hl (by decide) rfl (fun ls hl => ?_)
      refine lv_aload_n hx hb dX10_readSits_29 rfl (lv_at hl 1 rfl) ?_
      refine tg_mem (ci := 10) (C := RX10) (T := TX10) (N := 49) hx hb hts inX10 hown hK hw 15 m_u_3 rfl (by decide) (hts _ tw_1152) (fun _ h9 => h9) dX10_readSits_30 ?_
      refine lv_iload_n hx hb dX10_readSits_33 rfl (lv_at hl 0 rfl) ?_
      refine tg_iald (lo := (-1)) (hi := 5) hx hb hK hw h_vu_3 rfl 40 47 r_v_8 (by decide) (by decide +kernel) dX10_readSits_34 (fun v_9 r_v_9 m_v_9 o_v_9 => ?_)
      have q_v_9 : sg_6.2.2.1 15 (Int32.toNatClampNeg v_8) = v_9 := OV.eqA (V := vw_MODEL) (t := 35) hw.2.2.1 o_p0 m_u_3 m_v_9 (by decide)
      refine lv_iconst (v := (-1)) hx hb dX10_readSits_35 (by decide) ?_
      refine lv_icmp_eq (tgt := 45) hx hb dX10_readSits_36 (by decide) (fun c_36 => ?_) (fun c_36 => ?_)
      · have r_v_9 : RI v_9 (-1) (-1) := rc_eq1 r_v_9 rl_m1 (ti_eq c_36) (by decide)
        refine lv_aload_n hx hb dX10_readSits_45 rfl (lv_at hl 1 rfl) ?_
        have x_TO_p0_gh : TOP ws p0 (gh) := TKP.top x_TOK_p0_gh
        have hw8 := hw
        refine tk_v (va_runV (As := []) (rest := []) ⟨hx, hb, hml, hown, hts⟩ (c_X10_go__2 l D cy z H.size Ps ws hw.1 p0 (gh) sg_6 h_p0 x_TO_p0_gh o_p0) (cwV 0 hts (gV tw_1298 tw_1300 ts_40 tw_15 tw_1301) rfl rfl rfl (by decide +kernel) ⟨Nat.le_of_ble_eq_true rfl, Nat.le_of_ble_eq_true rfl⟩) (tg_preV hw hK hSD hA (ci := 10) (q := (RX10, TX10, 49)) rfl h_p0 rfl) rfl rfl hl.1 rfl (lv_room (Nat.le_of_ble_eq_true rfl)) dX10_readSits_46 ⟨Nat.le_of_ble_eq_true rfl, Nat.le_of_ble_eq_true rfl⟩) hw hA ⟨by decide, by decide⟩ (fun ws H locs hp_v_10 hw hF9 => ?_)
        have m_v_4 := AEL.over hw8 hF9 h_vu_3 m_v_4 (by decide)
        have m_v_9 := AEL.over hw8 hF9 h_vu_3 m_v_9 (by decide)
        have m_u_3 := FLD.over hF9 m_u_3 (by decide)
        have m_v_7 := FLD.over hF9 m_v_7 (by decide)
        have x_RH_p0 := AX.over hF9 x_RH_p0 (by decide)
        obtain ⟨hfn, hp_v_10⟩ := hp_v_10
        obtain ⟨sg_11, q_sg_11⟩ : ∃ q9 : OS, (f_X10_go__2 sg_6) = q9 := ⟨_, rfl⟩
        have o_p0 : OV vw_MODEL Ps ws p0 sg_11 := by rw [← q_sg_11]; exact hfn.1
        have x_TOK_p0_gh := (hp_v_10.1)
        refine lv_aload_n hx hb dX10_readSits_49 rfl (lv_at hl 1 rfl) ?_
        refine lv_iload_n hx hb dX10_readSits_50 rfl (lv_at hl 0 rfl) ?_
        refine lv_aload_n hx hb dX10_readSits_51 rfl (lv_at hl 1 rfl) ?_
        refine lv_bipush (v := 10) hx hb dX10_readSits_52 (by decide) ?_
        refine lv_aload_n hx hb dX10_readSits_54 rfl (lv_at hl 1 rfl) ?_
        refine tg_mem (ci := 10) (C := RX10) (T := TX10) (N := 49) hx hb hts inX10 hown hK hw 15 m_u_3 rfl (by decide) (hts _ tw_1152) (fun _ h9 => h9) dX10_readSits_55 ?_
        refine lv_iconst (v := 2) hx hb dX10_readSits_58 (by decide) ?_
        refine tg_iald (lo := 0) (hi := 6) hx hb hK hw h_vu_3 rfl 2 2 rl_2 (by decide) (by decide +kernel) dX10_readSits_59 (fun v_12 r_v_12 m_v_12 o_v_12 => ?_)
        have q_v_12 : sg_11.2.2.1 15 (Int32.toNatClampNeg (2 : Int32)) = v_12 := OV.eqA (V := vw_MODEL) (t := 35) hw.2.2.1 o_p0 m_u_3 m_v_12 (by decide)
        have x_TO_p0_gh : TOP ws p0 (gh) := TKP.top x_TOK_p0_gh
        have hw8 := hw
        refine tk_i (va_runV (As := [.int 10, .int v_12]) (rest := [.int v_8, .ref p0]) ⟨hx, hb, hml, hown, hts⟩ (c_X10_readOne__4 l D cy z H.size Ps ws hw.1 p0 10 v_12 (gh) sg_11 h_p0 rl_10 r_v_12 x_TO_p0_gh o_p0) (cwV 2 hts (gV tw_1374 tw_1376 ts_54 tw_15 tw_1377) rfl rfl rfl (by decide +kernel) ⟨Nat.le_of_ble_eq_true rfl, Nat.le_of_ble_eq_true rfl⟩) (tg_preV hw hK hSD hA (ci := 10) (q := (RX10, TX10, 49)) rfl h_p0 rfl) rfl rfl hl.1 rfl (lv_room (Nat.le_of_ble_eq_true rfl)) dX10_readSits_60 ⟨Nat.le_of_ble_eq_true rfl, Nat.le_of_ble_eq_true rfl⟩) hw hA ⟨by decide, by decide⟩ (fun v_13 ws H locs hp_v_13 hw hF9 => ?_)
        have m_v_4 := AEL.over hw8 hF9 h_vu_3 m_v_4 (by decide)
        have m_v_9 := AEL.over hw8 hF9 h_vu_3 m_v_9 (by decide)
        have m_v_12 := AEL.over hw8 hF9 h_vu_3 m_v_12 (by decide)
        have m_u_3 := FLD.over hF9 m_u_3 (by decide)
        have x_RH_p0 := AX.over hF9 x_RH_p0 (by decide)
        obtain ⟨hfn, hp_v_13⟩ := hp_v_13
        obtain ⟨sg_14, q_sg_14⟩ : ∃ q9 : OS, (f_X10_readOne__3 (10 : Int32) v_12 sg_11).1 = q9 := ⟨_, rfl⟩
        have o_p0 : OV vw_MODEL Ps ws p0 sg_14 := by rw [← q_sg_14]; exact hfn.1
        have q_v_13 : (f_X10_readOne__3 (10 : Int32) v_12 sg_11).2 = v_13 := hfn.2.1
        have r_v_13 : RI v_13 0 1 := hp_v_13.1
        by_cases c9_v_13 : v_13 = 0
        · have r_v_13 : RI v_13 0 0 := by rw [c9_v_13]; exact rl_0
          refine tk_ir (va_runV (As := [.int v_8, .int v_13]) (rest := []) ⟨hx, hb, hml, hown, hts⟩ (c_X10_put__22 l D cy z H.size Ps ws hw.1 p0 v_8 v_13 (fun f => RH2p f ∧ True) (fun f => RH2p f ∧ True) sg_14 h_p0 r_v_8 r_v_13 (AX.and hw x_RH_p0 (rx_true hw h_p0)) (fun f9 v9 hv9 H9 => ⟨(have h9 := H9.1; RH_keep h9 (by have k4 := r_v_8.cl (by decide); have k5 := r_v_8; unfold RI at k5; omega)), trivial⟩) o_p0) (cwV 2 hts (gV tw_1362 tw_1364 ts_51 tw_15 tw_1365) rfl rfl rfl (by decide +kernel) ⟨Nat.le_of_ble_eq_true rfl, Nat.le_of_ble_eq_true rfl⟩) (tg_preV hw hK hSD hA (ci := 10) (q := (RX10, TX10, 49)) rfl h_p0 rfl) rfl rfl hl.1 rfl (lv_room (Nat.le_of_ble_eq_true rfl)) dX10_readSits_63 ⟨Nat.le_of_ble_eq_true rfl, Nat.le_of_ble_eq_true rfl⟩) hw hA (fun v_15  H locs hp_v_15 hw => ?_)
          obtain ⟨hfn, hp_v_15⟩ := hp_v_15
          have q_v_15 : (f_X10_put__16 v_8 v_13 sg_14) = v_15 := hfn.1
          have r_v_15 : RI v_15 0 0 := hp_v_15.1
          by_cases c9_v_15 : v_15 = 0
          · have r_v_15 : RI v_15 0 0 := by rw [c9_v_15]; exact rl_0
            have x_RH_p0 : AX 15 35 (fun f => RH2p f) Ps ws p0 := AX.imp ((hp_v_15.2.1 c9_v_15).1) (fun _ h9 => h9.1)
            simp only [f_X10_readSits__1, ↓reduceIte, q_sg_2, q_v_4, q_sg_6, q_v_5, eq_false c9_v_5, eq_false c_16, q_v_7, q_v_8, q_v_9, eq_true c_36, q_sg_11, q_v_12, q_sg_14, q_v_13, eq_true c9_v_13, q_v_15, eq_true c9_v_15] at hE
            subst hQ
            exact W.zret (v := v_15) hx hb hr (tq_nz (r_v_15.to (by decide))) (fun t ht hW => ⟨⟨v_15, ws, rfl, ⟨⟨⟨(by rw [hR, ← hE]; exact o_p0), (by rw [hR, ← hE]), trivial⟩, r_v_15.to (by decide), (fun h0 => trivial), (fun h0 => absurd (Int32.toInt_inj.mp (by have h8 := r_v_15; unfold RI at h8; rw [Int32.toInt_zero]; omega)) h0)⟩, hw.1, hw.2.2.2.2.1⟩, by rw [ht]; exact hw.2.1, va_K.moved hW.alike hK, hw.2.2.1⟩, hw.2.2.2.1.F ht⟩) hw.2.2.2.1.2.2 dX10_readSits_66
          · exact absurd (Int32.toInt_inj.mp (by rw [Int32.toInt_zero]; unfold RI at r_v_15; omega)) c9_v_15
        · have r_v_13 : RI v_13 1 1 := rc_neL r_v_13 rl_0 (ti_ne c9_v_13) (by decide)
          have r_v_12 : RI v_12 1 6 := ((hp_v_13.2.2 c9_v_13).1)
          obtain ⟨v_16, m_v_16, r_v_16⟩ := ((hp_v_13.2.2 c9_v_13).2.1)
          have x_TOK_p0_gh := ((hp_v_13.2.2 c9_v_13).2.2.1)
          have hw8 := hw
          refine tk_i (va_runV (As := [.int v_8, .int v_13]) (rest := []) ⟨hx, hb, hml, hown, hts⟩ (c_X10_put__23 l D cy z H.size Ps ws hw.1 p0 v_8 v_13 v_16 (fun f => RH2p f ∧ True) (fun f => RH2p f ∧ True) sg_14 h_p0 r_v_8 r_v_13 r_v_16 m_v_16 (AX.and hw x_RH_p0 (rx_true hw h_p0)) (fun f9 v9 hv9 H9 => ⟨(have h9 := H9.1; RH_keep h9 (by have k4 := r_v_8.cl (by decide); have k5 := r_v_8; unfold RI at k5; omega)), trivial⟩) o_p0) (cwV 2 hts (gV tw_1362 tw_1364 ts_51 tw_15 tw_1365) rfl rfl rfl (by decide +kernel) ⟨Nat.le_of_ble_eq_true rfl, Nat.le_of_ble_eq_true rfl⟩) (tg_preV hw hK hSD hA (ci := 10) (q := (RX10, TX10, 49)) rfl h_p0 rfl) rfl rfl hl.1 rfl (lv_room (Nat.le_of_ble_eq_true rfl)) dX10_readSits_63 ⟨Nat.le_of_ble_eq_true rfl, Nat.le_of_ble_eq_true rfl⟩) hw hA ⟨by decide, by decide⟩ (fun v_17 ws H locs hp_v_17 hw hF9 => ?_)
          have m_u_3 := FLD.over hF9 m_u_3 (by decide)
          have m_v_16 := FLD.over hF9 m_v_16 (by decide)
          have x_TOK_p0_gh := TKP.over hF9 x_TOK_p0_gh (by decide)
          obtain ⟨hfn, hp_v_17⟩ := hp_v_17
          obtain ⟨sg_18, q_sg_18⟩ : ∃ q9 : OS, (f_X10_put__17 v_8 v_13 sg_14).1 = q9 := ⟨_, rfl⟩
          have o_p0 : OV vw_MODEL Ps ws p0 sg_18 := by rw [← q_sg_18]; exact hfn.1
          have q_v_17 : (f_X10_put__17 v_8 v_13 sg_14).2 = v_17 := hfn.2.1
          have r_v_17 : RI v_17 1 1 := hp_v_17.1
          by_cases c9_v_17 : v_17 = 0
          · exact absurd (ti_eq c9_v_17) (by unfold RI at r_v_17; rw [Int32.toInt_zero]; omega)
          · obtain ⟨v_19, m_v_19, r_v_19⟩ := ((hp_v_17.2.2 c9_v_17).1)
            have x_RH_p0 : AX 15 35 (fun f => RH2p f) Ps ws p0 := AX.imp ((hp_v_17.2.2 c9_v_17).2.1) (fun _ h9 => h9.1)
            simp only [f_X10_readSits__1, ↓reduceIte, q_sg_2, q_v_4, q_sg_6, q_v_5, eq_false c9_v_5, eq_false c_16, q_v_7, q_v_8, q_v_9, eq_true c_36, q_sg_11, q_v_12, q_sg_14, q_v_13, eq_false c9_v_13, q_sg_18, q_v_17, eq_false c9_v_17] at hE
            subst hQ
            exact W.zret (v := v_17) hx hb hr (tq_nz (r_v_17.to (by decide))) (fun t ht hW => ⟨⟨v_17, ws, rfl, ⟨⟨⟨(by rw [hR, ← hE]; exact o_p0), (by rw [hR, ← hE]), trivial⟩, r_v_17.to (by decide), (fun _ => trivial), (fun h0 => ⟨⟨_, m_v_19, r_v_19⟩, x_TOK_p0_gh, x_RH_p0, trivial⟩)⟩, hw.1, hw.2.2.2.2.1⟩, by rw [ht]; exact hw.2.1, va_K.moved hW.alike hK, hw.2.2.1⟩, hw.2.2.2.1.F ht⟩) hw.2.2.2.1.2.2 dX10_readSits_66
      · have r_v_9 : RI v_9 0 5 := rc_neL r_v_9 rl_m1 (ti_ne c_36) (by decide)
        refine lv_aload_n hx hb dX10_readSits_39 rfl (lv_at hl 1 rfl) ?_
        refine lv_iconst (v := 3) hx hb dX10_readSits_40 (by decide) ?_
        have hw8 := hw
        refine tk_i (va_runV (As := [.int 3]) (rest := []) ⟨hx, hb, hml, hown, hts⟩ (c_X10_bad__1 l D cy z H.size Ps ws hw.1 p0 3 sg_6 h_p0 (rl_3.to (by decide)) o_p0) (cwV 1 hts (gV tw_1336 tw_1338 ts_46 tw_15 tw_1339) rfl rfl rfl (by decide +kernel) ⟨Nat.le_of_ble_eq_true rfl, Nat.le_of_ble_eq_true rfl⟩) (tg_preV hw hK hSD hA (ci := 10) (q := (RX10, TX10, 49)) rfl h_p0 rfl) rfl rfl hl.1 rfl (lv_room (Nat.le_of_ble_eq_true rfl)) dX10_readSits_41 ⟨Nat.le_of_ble_eq_true rfl, Nat.le_of_ble_eq_true rfl⟩) hw hA ⟨by decide, by decide⟩ (fun v_20 ws H locs hp_v_20 hw hF9 => ?_)
        have m_v_4 := AEL.over hw8 hF9 h_vu_3 m_v_4 (by decide)
        have m_v_9 := AEL.over hw8 hF9 h_vu_3 m_v_9 (by decide)
        have m_u_3 := FLD.over hF9 m_u_3 (by decide)
        have m_v_7 := FLD.over hF9 m_v_7 (by decide)
        have x_RH_p0 := AX.over hF9 x_RH_p0 (by decide)
        have x_TOK_p0_gh := TKP.over hF9 x_TOK_p0_gh (by decide)
        obtain ⟨hfn, hp_v_20⟩ := hp_v_20
        obtain ⟨sg_21, q_sg_21⟩ : ∃ q9 : OS, (f_X10_bad__1 (3 : Int32) sg_6).1 = q9 := ⟨_, rfl⟩
        have o_p0 : OV vw_MODEL Ps ws p0 sg_21 := by rw [← q_sg_21]; exact hfn.1
        have q_v_20 : (f_X10_bad__1 (3 : Int32) sg_6).2 = v_20 := hfn.2.1
        have r_v_20 : RI v_20 0 0 := hp_v_20.1
        simp only [f_X10_readSits__1, ↓reduceIte, q_sg_2, q_v_4, q_sg_6, q_v_5, eq_false c9_v_5, eq_false c_16, q_v_7, q_v_8, q_v_9, eq_false c_36, q_sg_21, q_v_20] at hE
        subst hQ
        exact W.zret (v := v_20) hx hb hr (tq_nz (r_v_20.to (by decide))) (fun t ht hW => ⟨⟨v_20, ws, rfl, ⟨⟨⟨(by rw [hR, ← hE]; exact o_p0), (by rw [hR, ← hE]), trivial⟩, r_v_20.to (by decide), (fun h0 => trivial), (fun h0 => absurd (Int32.toInt_inj.mp (by have h8 := r_v_20; unfold RI at h8; rw [Int32.toInt_zero]; omega)) h0)⟩, hw.1, hw.2.2.2.2.1⟩, by rw [ht]; exact hw.2.1, va_K.moved hW.alike hK, hw.2.2.1⟩, hw.2.2.2.1.F ht⟩) hw.2.2.2.1.2.2 dX10_readSits_44
    · have r_v_5 : RI v_5 1 0 := rc_eq1 r_v_5 rl_0 (ti_eq c_16) (by decide)
      exact (r_v_5.no (by decide)).elim
abbrev wr_X10_readFirst__4 : List (Nat × Nat) := [(10, 5), (10, 6), (10, 7), (10, 8), (10, 9), (10, 10), (10, 11), (10, 12)]
abbrev wa_X10_readFirst__4 : List Nat := []
set_option maxHeartbeats 4000000 in
set_option maxRecDepth 100000 in
theorem c_X10_readFirst__4 (l : Launch) (D : va_G) (cy : Nat → ClassId) (z : Nat → Nat) (sz : Nat) (Ps : PSI) (w0 : va_W) (hT : HT cy GG Ps w0) (p0 : Nat) (p1 : Int32) (p2 : Int32) (gh : Int) (s0 : OS) (h_p0 : (p0, 55) ∈ Ps) (r_p1 : RI p1 3 3) (r_p2 : RI p2 8 8) (x_TO_p0_gh : TOP w0 p0 (gh)) (o_p0 : OV vw_MODEL Ps w0 p0 s0) : Met l yX10_readFirst (Cond.code yX10_readFirst cX10_readFirst 3 (some .boolean) :: gT) ({ frames := 3, cells := 0, slots := 0, locals := 600 } : Room) (va_Pc [.ref p0, .int p1, .int p2] (PRE D cy z w0 sz)) (va_Qi (fun (r : Int32) (u : va_W) => ((OV vw_MODEL Ps u p0 ((f_X10_readFirst__4 p1 p2 s0).1) ∧ (f_X10_readFirst__4 p1 p2 s0).2 = r ∧ True) ∧ (RI r 0 1 ∧ (r = 0 → True) ∧ (¬ r = 0 → TKP u p0 (gh) ∧ AX 15 35 (fun f => (f (Int32.toNatClampNeg p1)).toInt < Int32.toInt p2) Ps u p0 ∧ True))) ∧ HT cy GG Ps u ∧ FR wr_X10_readFirst__4 wa_X10_readFirst__4 Ps w0 u) (BB D cy (va_A w0 sz) (fun (u : va_W) => u)) (va_A w0 sz)) 0 0 (va_A w0 sz) := by
  refine Met.ofW (cc := cX10_readFirst) (maxL := 3) (ret := (some .boolean)) (by decide) rfl ?_
  intro p e s m args below meth c s₁ B hml hv
  obtain ⟨rfl, hsz, hP, hK, hD0, hSD⟩ := hv
  have hx := B.exec
  have hb := B.bytes
  have hr := B.returns
  have hlocks := B.notSynchronized
  have hts : ∀ w ∈ gT, w.before _ s = true := fun w h => atoms_spec (ws := Cond.code yX10_readFirst cX10_readFirst 3 (some .boolean) :: gT) B.pre w (List.mem_cons_of_mem _ h)
  have hown : s.vm.findClass RX10 = some m.cls := findClass_of_methodNamed B.named
  subst hsz
  have hD := hD0.self (sz := s.heap.size)
  generalize hAe : va_A w0 s.heap.size = A at hD hSD ⊢
  have hA : ∀ q : Nat, s.heap.size ≤ q → A q := fun q h => by rw [← hAe]; exact Or.inr h
  have hl := lv_entry ([.ref p0, .int p1, .int p2]) (n := 3) (Nat.le_of_ble_eq_true rfl)
  rw [lg_entry_eq]
  generalize (lg_sl ([.ref p0, .int p1, .int p2]) ++ List.replicate (3 - (lg_sl ([.ref p0, .int p1, .int p2])).length) Slot.unset).toArray = ls at hl ⊢
  have hl : lv_has ls 3 [(0, .ref p0), (1, .int p1), (2, .int p2)] := hl
  refine nameQ (fun Q hQ => ?_)
  have hw : WD D cy GG A s wr_X10_readFirst__4 wa_X10_readFirst__4 Ps w0 Ps w0 s.heap [] := ⟨hT, hP, hD, va_S.rf, FR.rf, hT.1, [], (List.append_nil _).symm⟩
  obtain ⟨R9, hR⟩ : ∃ q9 : OS × Int32, f_X10_readFirst__4 p1 p2 s0 = q9 := ⟨_, rfl⟩
  have hE := hR
  refine lv_aload_n hx hb dX10_readFirst_0 rfl (lv_at hl 0 rfl) ?_
  refine tg_get (ci := 10) (ts := ty_MODEL) (C := RX10) (T := TX10) (N := 49) hx hb hts inX10 hown hK hw h_p0 rfl rfl 15 (by decide) (hts _ tw_1152) (fun _ h9 => h9) (ft := vR 35) rfl dX10_readFirst_1 (fun u_1 hv_u_1 m_u_1 => ?_)
  obtain ⟨vu_1, rfl, h_vu_1⟩ := hv_u_1
  refine lv_iload_n hx hb dX10_readFirst_4 rfl (lv_at hl 1 rfl) ?_
  refine tg_iald (lo := 0) (hi := 8) hx hb hK hw h_vu_1 rfl 3 3 r_p1 (by decide) (by decide +kernel) dX10_readFirst_5 (fun v_2 r_v_2 m_v_2 o_v_2 => ?_)
  have q_v_2 : s0.2.2.1 15 (Int32.toNatClampNeg p1) = v_2 := OV.eqA (V := vw_MODEL) (t := 35) hw.2.2.1 o_p0 m_u_1 m_v_2 (by decide)
  refine lv_iload_n hx hb dX10_readFirst_6 rfl (lv_at hl 2 rfl) ?_
  refine lv_icmp_ne (tgt := 16) hx hb dX10_readFirst_7 (by decide) (fun c_7 => ?_) (fun c_7 => ?_)
  · have r_v_2 : RI v_2 0 7 := rc_neU r_v_2 r_p2 (ti_ne c_7) (by decide)
    have x_RLT_p0_p1_p2 : AX 15 35 (fun f => (f (Int32.toNatClampNeg p1)).toInt < Int32.toInt p2) Ps w0 p0 := AX.mk hw h_vu_1 rfl m_u_1 (fun f9 g9 _ => by have e9 := g9 _ _ m_v_2; have j9 : Int32.toNatClampNeg p1 = Int32.toNatClampNeg p1 := rfl; rw [j9] at e9; show _; rw [e9]; have k1 := r_v_2.2; have k2 := r_p2.1; omega)
    refine lv_aload_n hx hb dX10_readFirst_16 rfl (lv_at hl 0 rfl) ?_
    have hw8 := hw
    refine tk_v (va_runV (As := []) (rest := []) ⟨hx, hb, hml, hown, hts⟩ (c_X10_go__2 l D cy z s.heap.size Ps w0 hw.1 p0 (gh) s0 h_p0 x_TO_p0_gh o_p0) (cwV 0 hts (gV tw_1298 tw_1300 ts_40 tw_15 tw_1301) rfl rfl rfl (by decide +kernel) ⟨Nat.le_of_ble_eq_true rfl, Nat.le_of_ble_eq_true rfl⟩) (tg_preV hw hK hSD hA (ci := 10) (q := (RX10, TX10, 49)) rfl h_p0 rfl) rfl rfl hl.1 rfl (lv_room (Nat.le_of_ble_eq_true rfl)) dX10_readFirst_17 ⟨Nat.le_of_ble_eq_true rfl, Nat.le_of_ble_eq_true rfl⟩) hw hA ⟨by decide, by decide⟩ (fun ws H locs hp_v_3 hw hF9 => ?_)
    have m_v_2 := AEL.over hw8 hF9 h_vu_1 m_v_2 (by decide)
    have m_u_1 := FLD.over hF9 m_u_1 (by decide)
    have x_RLT_p0_p1_p2 := AX.over hF9 x_RLT_p0_p1_p2 (by decide)
    obtain ⟨hfn, hp_v_3⟩ := hp_v_3
    obtain ⟨sg_4, q_sg_4⟩ : ∃ q9 : OS, (f_X10_go__2 s0) = q9 := ⟨_, rfl⟩
    have o_p0 : OV vw_MODEL Ps ws p0 sg_4 := by rw [← q_sg_4]; exact hfn.1
    have x_TOK_p0_gh := (hp_v_3.1)
    refine lv_iconst (v := 1) hx hb dX10_readFirst_20 (by decide) ?_
    simp only [f_X10_readFirst__4, ↓reduceIte, q_v_2, eq_false c_7, q_sg_4] at hE
    subst hQ
    exact W.zret (v := 1) hx hb hr (rfl) (fun t ht hW => ⟨⟨1, ws, rfl, ⟨⟨⟨(by rw [hR, ← hE]; exact o_p0), (by rw [hR, ← hE]), trivial⟩, rl_1.to (by decide), (fun _ => trivial), (fun h0 => ⟨x_TOK_p0_gh, x_RLT_p0_p1_p2, trivial⟩)⟩, hw.1, hw.2.2.2.2.1⟩, by rw [ht]; exact hw.2.1, va_K.moved hW.alike hK, hw.2.2.1⟩, hw.2.2.2.1.F ht⟩) hw.2.2.2.1.2.2 dX10_readFirst_21
  · have r_v_2 : RI v_2 8 8 := rc_eq1 r_v_2 r_p2 (ti_eq c_7) (by decide)
    refine lv_aload_n hx hb dX10_readFirst_10 rfl (lv_at hl 0 rfl) ?_
    refine lv_iconst (v := 4) hx hb dX10_readFirst_11 (by decide) ?_
    have hw8 := hw
    refine tk_i (va_runV (As := [.int 4]) (rest := []) ⟨hx, hb, hml, hown, hts⟩ (c_X10_bad__1 l D cy z s.heap.size Ps w0 hw.1 p0 4 s0 h_p0 (rl_4.to (by decide)) o_p0) (cwV 1 hts (gV tw_1336 tw_1338 ts_46 tw_15 tw_1339) rfl rfl rfl (by decide +kernel) ⟨Nat.le_of_ble_eq_true rfl, Nat.le_of_ble_eq_true rfl⟩) (tg_preV hw hK hSD hA (ci := 10) (q := (RX10, TX10, 49)) rfl h_p0 rfl) rfl rfl hl.1 rfl (lv_room (Nat.le_of_ble_eq_true rfl)) dX10_readFirst_12 ⟨Nat.le_of_ble_eq_true rfl, Nat.le_of_ble_eq_true rfl⟩) hw hA ⟨by decide, by decide⟩ (fun v_5 ws H locs hp_v_5 hw hF9 => ?_)
    have m_v_2 := AEL.over hw8 hF9 h_vu_1 m_v_2 (by decide)
    have m_u_1 := FLD.over hF9 m_u_1 (by decide)
    have x_TO_p0_gh := TOP.over hF9 x_TO_p0_gh (by decide)
    obtain ⟨hfn, hp_v_5⟩ := hp_v_5
    obtain ⟨sg_6, q_sg_6⟩ : ∃ q9 : OS, (f_X10_bad__1 (4 : Int32) s0).1 = q9 := ⟨_, rfl⟩
    have o_p0 : OV vw_MODEL Ps ws p0 sg_6 := by rw [← q_sg_6]; exact hfn.1
    have q_v_5 : (f_X10_bad__1 (4 : Int32) s0).2 = v_5 := hfn.2.1
    have r_v_5 : RI v_5 0 0 := hp_v_5.1
    simp only [f_X10_readFirst__4, ↓reduceIte, q_v_2, eq_true c_7, q_sg_6, q_v_5] at hE
    subst hQ
    exact W.zret (v := v_5) hx hb hr (tq_nz (r_v_5.to (by decide))) (fun t ht hW => ⟨⟨v_5, ws, rfl, ⟨⟨⟨(by rw [hR, ← hE]; exact o_p0), (by rw [hR, ← hE]), trivial⟩, r_v_5.to (by decide), (fun h0 => trivial), (fun h0 => absurd (Int32.toInt_inj.mp (by have h8 := r_v_5; unfold RI at h8; rw [Int32.toInt_zero]; omega)) h0)⟩, hw.1, hw.2.2.2.2.1⟩, by rw [ht]; exact hw.2.1, va_K.moved hW.alike hK, hw.2.2.1⟩, hw.2.2.2.1.F ht⟩) hw.2.2.2.1.2.2 dX10_readFirst_15
abbrev wr_X10_findIn__12 : List (Nat × Nat) := []
abbrev wa_X10_findIn__12 : List Nat := []
set_option maxHeartbeats 4000000 in
set_option maxRecDepth 100000 in
theorem c_X10_findIn__12 (l : Launch) (D : va_G) (cy : Nat → ClassId) (z : Nat → Nat) (sz : Nat) (Ps : PSI) (w0 : va_W) (hT : HT cy GG Ps w0) (p0 : Nat) (p1 : Int32) (p2 : Int32) (p3 : Int64) (s0 : Nat → Int64) (h_p0 : (p0, 42) ∈ Ps) (r_p1 : RI p1 6 6) (r_p2 : RI p2 0 4) (r_p3 : RJ p3 (-9223372036854775808) 9223372036854775807) (o_p0 : ARL Ps w0 p0 42 s0) : Met l yX10_findIn (Cond.code yX10_findIn cX10_findIn 6 (some .int) :: gT) ({ frames := 0, cells := 0, slots := 0, locals := 200 } : Room) (va_Pc [.ref p0, .int p1, .int p2, .long p3] (PRE D cy z w0 sz)) (va_Qi (fun (r : Int32) (u : Unit) => ((f_X10_findIn__9 p1 p2 p3 s0) = r ∧ True) ∧ (RI r (-1) 3 ∧ (r = 0 → True) ∧ (¬ r = 0 → True) ∧ (True) ∧ (r.toInt < 0 → NFD w0 p0 p1 p2 p3 ∧ True) ∧ (0 ≤ r.toInt → FDD w0 p0 p1 p2 p3 ∧ 1 ≤ Int32.toInt p2 ∧ True))) (BB D cy (va_A w0 sz) (fun (u : Unit) => w0)) (va_A w0 sz)) 0 0 (va_A w0 sz) := by
  refine Met.ofW (cc := cX10_findIn) (maxL := 6) (ret := (some .int)) (by decide) rfl ?_
  intro p e s m args below meth c s₁ B hml hv
  obtain ⟨rfl, hsz, hP, hK, hD0, hSD⟩ := hv
  have hx := B.exec
  have hb := B.bytes
  have hr := B.returns
  have hlocks := B.notSynchronized
  have hts : ∀ w ∈ gT, w.before _ s = true := fun w h => atoms_spec (ws := Cond.code yX10_findIn cX10_findIn 6 (some .int) :: gT) B.pre w (List.mem_cons_of_mem _ h)
  have hown : s.vm.findClass RX10 = some m.cls := findClass_of_methodNamed B.named
  subst hsz
  have hD := hD0.self (sz := s.heap.size)
  generalize hAe : va_A w0 s.heap.size = A at hD hSD ⊢
  have hA : ∀ q : Nat, s.heap.size ≤ q → A q := fun q h => by rw [← hAe]; exact Or.inr h
  have hl := lv_entry ([.ref p0, .int p1, .int p2, .long p3]) (n := 6) (Nat.le_of_ble_eq_true rfl)
  rw [lg_entry_eq]
  generalize (lg_sl ([.ref p0, .int p1, .int p2, .long p3]) ++ List.replicate (6 - (lg_sl ([.ref p0, .int p1, .int p2, .long p3])).length) Slot.unset).toArray = ls at hl ⊢
  have hl : lv_has ls 6 [(0, .ref p0), (1, .int p1), (2, .int p2), (3, .long p3)] := hl
  refine nameQ (fun Q hQ => ?_)
  have hw : WD D cy GG A s wr_X10_findIn__12 wa_X10_findIn__12 Ps w0 Ps w0 s.heap [] := ⟨hT, hP, hD, va_S.rf, FR.rf, hT.1, [], (List.append_nil _).symm⟩
  obtain ⟨R9, hR⟩ : ∃ q9 : Int32, f_X10_findIn__9 p1 p2 p3 s0 = q9 := ⟨_, rfl⟩
  have hE := hR
  have B3 : ∀ (nf : Nat) (x5 : Int32) (s0 : Nat → Int64) (H : Heap) (locs : List Loc) (ls : Array Slot), 4 - x5.toInt < (nf : Int) → RI p1 6 6 → RI p2 0 4 → RJ p3 (-9223372036854775808) 9223372036854775807 → RI x5 0 4 → NFD w0 p0 p1 x5 p3 → ARL Ps w0 p0 42 s0 → f_X10_findIn__9_3 p1 p2 p3 nf x5 s0 = R9 → WD D cy GG A s wr_X10_findIn__12 wa_X10_findIn__12 Ps w0 Ps w0 H locs → lv_has ls 6 [(0, .ref p0), (1, .int p1), (2, .int p2), (3, .long p3), (5, .int x5)] → W p l e (headSpec (Cond.code yX10_findIn cX10_findIn 6 (some .int) :: gT) ({ frames := 0, cells := 0, slots := 0, locals := 200 } : Room)).room s m ([.ref p0, .int p1, .int p2, .long p3] : List Value).toArray below meth c H locs 0 0 Q (F0 m 3 ls []) := by
    intro nf3
    induction nf3 with
    | zero =>
      intro x5 s0 H locs ls hn3 r_p1 r_p2 r_p3 r_x5 x_NF_p0_p1__5_p3 o_p0 hE hw hl
      exact absurd hn3 (by have q0 := r_x5.1; have u0 := r_x5.2; omega)
    | succ nf3 ih3 =>
      intro x5 s0 H locs ls hn3 r_p1 r_p2 r_p3 r_x5 x_NF_p0_p1__5_p3 o_p0 hE hw hl
      refine lv_iload hx hb dX10_findIn_3 (lv_at hl 4 rfl) ?_
      refine lv_iload_n hx hb dX10_findIn_5 rfl (lv_at hl 2 rfl) ?_
      refine lv_icmp_ge (tgt := 29) hx hb dX10_findIn_6 (by decide) (fun c_6 => ?_) (fun c_6 => ?_)
      · have x_NF_p0_p1_p2_p3 : NFD w0 p0 p1 p2 p3 := NFD.mono x_NF_p0_p1__5_p3 c_6
        refine lv_iconst (v := (-1)) hx hb dX10_findIn_29 (by decide) ?_
        simp only [f_X10_findIn__9_3, ↓reduceIte, eq_true c_6] at hE
        subst hQ
        exact W.iret (v := (-1)) hx hb hr (fun t ht hW => ⟨⟨(-1), (), rfl, ⟨⟨(by rw [hR, ← hE]), trivial⟩, rl_m1.to (by decide), (fun _ => trivial), (fun h0 => trivial), trivial, (fun h0 => ⟨x_NF_p0_p1_p2_p3, trivial⟩), (fun h0 => absurd h0 (by have h8 := rl_m1; unfold RI at h8; omega))⟩, by rw [ht]; exact hw.2.1, va_K.moved hW.alike hK, hw.2.2.1⟩, hw.2.2.2.1.F ht⟩) hw.2.2.2.1.2.2 dX10_findIn_30
      · have r_x5 : RI x5 0 3 := rc_lt1 r_x5 r_p2 (ti_nle c_6) (by decide)
        have r_p2 : RI p2 1 4 := rc_lt2 r_x5 r_p2 (ti_nle c_6) (by decide)
        refine lv_aload_n hx hb dX10_findIn_9 rfl (lv_at hl 0 rfl) ?_
        refine lv_iload_n hx hb dX10_findIn_10 rfl (lv_at hl 1 rfl) ?_
        refine lv_iload hx hb dX10_findIn_11 (lv_at hl 4 rfl) ?_
        refine lv_iadd hx hb dX10_findIn_13 (lv_topi (fun v_1 e_v_1 => ?_))
        obtain ⟨t_v_1, r_v_1⟩ := tq_add (lo := 6) (hi := 9) r_p1 r_x5 (by decide +kernel) e_v_1
        have q_v_1 : p1 + x5 = v_1 := e_v_1.symm
        refine tg_laldE hx hb hK hw h_p0 rfl r_v_1 (by decide) dX10_findIn_14 (fun w_2 r_w_2 l_w_2 => ?_)
        have q_w_2 : s0 (Int32.toNatClampNeg v_1) = w_2 := ARL.lel hw.2.2.1 o_p0 l_w_2
        refine lv_lload_n hx hb dX10_findIn_15 rfl (lv_at hl 3 rfl) ?_
        refine W.lcmp hx hb dX10_findIn_16 (lv_topi (fun v_3 e_v_3 => ?_))
        have r_v_3 := ri_any v_3
        have q_v_3 : lg_cmp w_2 p3 = v_3 := e_v_3.symm
        refine lv_if_ne (tgt := 23) hx hb dX10_findIn_17 (by decide) (fun c_17 => ?_) (fun c_17 => ?_)
        · obtain ⟨v_4, e_v_4⟩ : ∃ q9 : Int32, q9 = x5 + Int32.ofInt 1 := ⟨_, rfl⟩
          obtain ⟨t_v_4, r_v_4⟩ := tq_add (lo := 1) (hi := 4) r_x5 (show RI (Int32.ofInt 1) 1 1 by unfold RI; decide +kernel) (by decide +kernel) e_v_4
          have t_v_4 : v_4.toInt = x5.toInt + 1 := t_v_4
          refine lv_iinc (v := v_4) (lv' := [(5, .int v_4), (0, .ref p0), (1, .int p1), (2, .int p2), (3, .long p3)]) hx hb dX10_findIn_23 hl (k := 4) rfl e_v_4.symm (by decide) rfl (fun ls hl => ?_)
          have q_v_4 : x5 + (1 : Int32) = v_4 := by rw [e_v_4, show Int32.ofInt 1 = (1 : Int32) by decide]
          refine lv_goto (tgt := 3) hx hb dX10_findIn_26 (by decide) ?_
          simp only [f_X10_findIn__9_3, ↓reduceIte, eq_false c_6, q_v_1, q_w_2, q_v_3, eq_false c_17, q_v_4] at hE
          have x_NF_p0_p1_v_4_p3 : NFD w0 p0 p1 v_4 p3 := NFD.step hw x_NF_p0_p1__5_p3 l_w_2 (by have k1 := r_v_1.cl (by decide); have k2 := r_p1.cl (by decide); have k3 := r_x5.cl (by decide); omega) (lcmp_ne e_v_3 c_17) t_v_4 r_x5.1
          exact ih3 v_4 s0 _ _ ls (by have q0 := r_v_4.1; have u0 := r_v_4.2; have o0 := r_x5.1; have p0 := r_x5.2; omega) r_p1 (r_p2.to (by decide)) r_p3 (r_v_4.to (by decide)) x_NF_p0_p1_v_4_p3 o_p0 hE hw (lv_sub hl [1, 2, 3, 4, 0] rfl)
        · have r_v_3 : RI v_3 0 0 := rc_eq1 r_v_3 rl_0 (ti_eq c_17) (by decide)
          have x_FD_p0_p1_p2_p3 : FDD w0 p0 p1 p2 p3 := FDD.mk l_w_2 (by have k1 := r_v_1.cl (by decide); have k2 := r_p1.cl (by decide); have k3 := r_x5.cl (by decide); omega) (lcmp_eq e_v_3 c_17) (ti_nle c_6) r_x5.1
          have x_POS_p2 : 1 ≤ Int32.toInt p2 := by have k1 := ti_nle c_6; have k2 := r_x5.1; omega
          refine lv_iload hx hb dX10_findIn_20 (lv_at hl 4 rfl) ?_
          simp only [f_X10_findIn__9_3, ↓reduceIte, eq_false c_6, q_v_1, q_w_2, q_v_3, eq_true c_17] at hE
          subst hQ
          exact W.iret (v := x5) hx hb hr (fun t ht hW => ⟨⟨x5, (), rfl, ⟨⟨(by rw [hR, ← hE]), trivial⟩, r_x5.to (by decide), (fun h0 => trivial), (fun h0 => trivial), trivial, (fun h0 => absurd h0 (by have h8 := r_x5; unfold RI at h8; omega)), (fun h0 => ⟨x_FD_p0_p1_p2_p3, x_POS_p2, trivial⟩)⟩, by rw [ht]; exact hw.2.1, va_K.moved hW.alike hK, hw.2.2.1⟩, hw.2.2.2.1.F ht⟩) hw.2.2.2.1.2.2 dX10_findIn_22
  refine lv_iconst (v := 0) hx hb dX10_findIn_0 (by decide) ?_
  refine lv_istore (lv' := [(5, .int 0), (0, .ref p0), (1, .int p1), (2, .int p2), (3, .long p3)]) hx hb dX10_findIn_1 hl (by decide) rfl (fun ls hl => ?_)
  simp only [f_X10_findIn__9, ↓reduceIte] at hE
  have x_NF_p0_p1_0_p3 : NFD w0 p0 p1 0 p3 := NFD.zero hw h_p0 rfl
  exact B3 4294967298 0 s0 _ _ ls (by have q0 := rl_0.1; have u0 := rl_0.2; omega) r_p1 r_p2 r_p3 (rl_0.to (by decide)) x_NF_p0_p1_0_p3 o_p0 hE hw (lv_sub hl [1, 2, 3, 4, 0] rfl)
abbrev wr_X10_isTaken__1 : List (Nat × Nat) := []
abbrev wa_X10_isTaken__1 : List Nat := []
set_option maxHeartbeats 4000000 in
set_option maxRecDepth 100000 in
theorem c_X10_isTaken__1 (l : Launch) (D : va_G) (cy : Nat → ClassId) (z : Nat → Nat) (sz : Nat) (Ps : PSI) (w0 : va_W) (hT : HT cy GG Ps w0) (p0 : Nat) (s0 : OS) (h_p0 : (p0, 55) ∈ Ps) (o_p0 : OV vw_MODEL Ps w0 p0 s0) : Met l yX10_isTaken (Cond.code yX10_isTaken cX10_isTaken 1 (some .boolean) :: gT) ({ frames := 2, cells := 0, slots := 0, locals := 400 } : Room) (va_Pc [.ref p0] (PRE D cy z w0 sz)) (va_Qi (fun (r : Int32) (u : Unit) => ((f_X10_isTaken__1 s0) = r ∧ True) ∧ (RI r 0 1 ∧ (r = 0 → True) ∧ (¬ r = 0 → True))) (BB D cy (va_A w0 sz) (fun (u : Unit) => w0)) (va_A w0 sz)) 0 0 (va_A w0 sz) := by
  refine Met.ofW (cc := cX10_isTaken) (maxL := 1) (ret := (some .boolean)) (by decide) rfl ?_
  intro p e s m args below meth c s₁ B hml hv
  obtain ⟨rfl, hsz, hP, hK, hD0, hSD⟩ := hv
  have hx := B.exec
  have hb := B.bytes
  have hr := B.returns
  have hlocks := B.notSynchronized
  have hts : ∀ w ∈ gT, w.before _ s = true := fun w h => atoms_spec (ws := Cond.code yX10_isTaken cX10_isTaken 1 (some .boolean) :: gT) B.pre w (List.mem_cons_of_mem _ h)
  have hown : s.vm.findClass RX10 = some m.cls := findClass_of_methodNamed B.named
  subst hsz
  have hD := hD0.self (sz := s.heap.size)
  generalize hAe : va_A w0 s.heap.size = A at hD hSD ⊢
  have hA : ∀ q : Nat, s.heap.size ≤ q → A q := fun q h => by rw [← hAe]; exact Or.inr h
  have hl := lv_entry ([.ref p0]) (n := 1) (Nat.le_of_ble_eq_true rfl)
  rw [lg_entry_eq]
  generalize (lg_sl ([.ref p0]) ++ List.replicate (1 - (lg_sl ([.ref p0])).length) Slot.unset).toArray = ls at hl ⊢
  have hl : lv_has ls 1 [(0, .ref p0)] := hl
  refine nameQ (fun Q hQ => ?_)
  have hw : WD D cy GG A s wr_X10_isTaken__1 wa_X10_isTaken__1 Ps w0 Ps w0 s.heap [] := ⟨hT, hP, hD, va_S.rf, FR.rf, hT.1, [], (List.append_nil _).symm⟩
  obtain ⟨R9, hR⟩ : ∃ q9 : Int32, f_X10_isTaken__1 s0 = q9 := ⟨_, rfl⟩
  have hE := hR
  refine lv_aload_n hx hb dX10_isTaken_0 rfl (lv_at hl 0 rfl) ?_
  refine tg_get (ci := 10) (ts := ty_MODEL) (C := RX10) (T := TX10) (N := 49) hx hb hts inX10 hown hK hw h_p0 rfl rfl 21 (by decide) (hts _ tw_1158) (fun _ h9 => h9) (ft := vR 42) rfl dX10_isTaken_1 (fun u_1 hv_u_1 m_u_1 => ?_)
  obtain ⟨vu_1, rfl, h_vu_1⟩ := hv_u_1
  refine lv_iconst (v := 0) hx hb dX10_isTaken_4 (by decide) ?_
  refine lv_aload_n hx hb dX10_isTaken_5 rfl (lv_at hl 0 rfl) ?_
  refine tg_get (ci := 10) (ts := ty_MODEL) (C := RX10) (T := TX10) (N := 49) hx hb hts inX10 hown hK hw h_p0 rfl rfl 15 (by decide) (hts _ tw_1152) (fun _ h9 => h9) (ft := vR 35) rfl dX10_isTaken_6 (fun u_2 hv_u_2 m_u_2 => ?_)
  obtain ⟨vu_2, rfl, h_vu_2⟩ := hv_u_2
  refine lv_iconst (v := 0) hx hb dX10_isTaken_9 (by decide) ?_
  refine tg_iald (lo := 0) (hi := 6) hx hb hK hw h_vu_2 rfl 0 0 rl_0 (by decide) (by decide +kernel) dX10_isTaken_10 (fun v_3 r_v_3 m_v_3 o_v_3 => ?_)
  have q_v_3 : s0.2.2.1 15 (Int32.toNatClampNeg (0 : Int32)) = v_3 := OV.eqA (V := vw_MODEL) (t := 35) hw.2.2.1 o_p0 m_u_2 m_v_3 (by decide)
  refine lv_aload_n hx hb dX10_isTaken_11 rfl (lv_at hl 0 rfl) ?_
  refine tg_get (ci := 10) (ts := ty_MODEL) (C := RX10) (T := TX10) (N := 49) hx hb hts inX10 hown hK hw h_p0 rfl rfl 12 (by decide) (hts _ tw_1149) (fun _ h9 => h9) (ft := vJ (-9223372036854775808) 9223372036854775807) rfl dX10_isTaken_12 (fun u_4 hv_u_4 m_u_4 => ?_)
  obtain ⟨vu_4, rfl, r_vu_4⟩ := hv_u_4
  have q_vu_4 : s0.2.1 12 = vu_4 := OV.eqL (V := vw_MODEL) hw.2.2.1 o_p0 m_u_4 (by decide)
  have oa_vu_1 := OV.arrB (V := vw_MODEL) (t := 42) hw.2.2.1 o_p0 m_u_1 (by decide)
  have mo9_vu_1 := And.intro hw.2.2.1 m_u_1
  refine tk_ir (va_runS (As := [.ref vu_1, .int 0, .int v_3, .long vu_4]) (rest := []) ⟨hx, hb, hml, hown, hts⟩ (c_X10_findIn__9 l D cy z s.heap.size Ps w0 hw.1 vu_1 0 v_3 vu_4 (s0.2.2.2 21) h_vu_1 rl_0 r_v_3 r_vu_4 oa_vu_1) (va_cwS 4 hts (gS tw_1352 tw_1353 tw_15 tw_1354) rfl rfl rfl (by decide +kernel) ⟨Nat.le_of_ble_eq_true rfl, Nat.le_of_ble_eq_true rfl⟩) (tg_preS hw hK hSD hA) rfl rfl hl.1 rfl (lv_room (Nat.le_of_ble_eq_true rfl)) dX10_isTaken_15 ⟨Nat.le_of_ble_eq_true rfl, Nat.le_of_ble_eq_true rfl⟩) hw hA (fun v_5  H locs hp_v_5 hw => ?_)
  obtain ⟨hfn, hp_v_5⟩ := hp_v_5
  have q_v_5 : (f_X10_findIn__9 (0 : Int32) v_3 vu_4 (s0.2.2.2 21)) = v_5 := hfn.1
  have r_v_5 : RI v_5 (-1) 5 := hp_v_5.1
  by_cases c9_v_5 : v_5.toInt < 0
  · have r_v_5 : RI v_5 (-1) (-1) := by unfold RI at r_v_5 ⊢; omega
    have x_NF_vu_1_0_v_3_vu_4 := (hp_v_5.2.2.2.2.1 (by omega)).1
    refine lv_iconst (v := (-1)) hx hb dX10_isTaken_18 (by decide) ?_
    refine lv_icmp_ne (tgt := 91) hx hb dX10_isTaken_19 (by decide) (fun c_19 => ?_) (fun c_19 => ?_)
    · exact absurd (r_v_5.eq.trans rl_m1.eq.symm) ((ti_ne c_19))
    · refine lv_aload_n hx hb dX10_isTaken_22 rfl (lv_at hl 0 rfl) ?_
      refine tg_mem (ci := 10) (C := RX10) (T := TX10) (N := 49) hx hb hts inX10 hown hK hw 21 m_u_1 rfl (by decide) (hts _ tw_1158) (fun _ h9 => h9) dX10_isTaken_23 ?_
      refine lv_bipush (v := 6) hx hb dX10_isTaken_26 (by decide) ?_
      refine lv_aload_n hx hb dX10_isTaken_28 rfl (lv_at hl 0 rfl) ?_
      refine tg_mem (ci := 10) (C := RX10) (T := TX10) (N := 49) hx hb hts inX10 hown hK hw 15 m_u_2 rfl (by decide) (hts _ tw_1152) (fun _ h9 => h9) dX10_isTaken_29 ?_
      refine lv_iconst (v := 1) hx hb dX10_isTaken_32 (by decide) ?_
      refine tg_iald (lo := 0) (hi := 4) hx hb hK hw h_vu_2 rfl 1 1 rl_1 (by decide) (by decide +kernel) dX10_isTaken_33 (fun v_6 r_v_6 m_v_6 o_v_6 => ?_)
      have q_v_6 : s0.2.2.1 15 (Int32.toNatClampNeg (1 : Int32)) = v_6 := OV.eqA (V := vw_MODEL) (t := 35) hw.2.2.1 o_p0 m_u_2 m_v_6 (by decide)
      refine lv_aload_n hx hb dX10_isTaken_34 rfl (lv_at hl 0 rfl) ?_
      refine tg_mem (ci := 10) (C := RX10) (T := TX10) (N := 49) hx hb hts inX10 hown hK hw 12 m_u_4 rfl (by decide) (hts _ tw_1149) (fun _ h9 => h9) dX10_isTaken_35 ?_
      have oa_vu_1 := OV.arrB (V := vw_MODEL) (t := 42) hw.2.2.1 o_p0 m_u_1 (by decide)
      have mo9_vu_1 := And.intro hw.2.2.1 m_u_1
      refine tk_ir (va_runS (As := [.ref vu_1, .int 6, .int v_6, .long vu_4]) (rest := []) ⟨hx, hb, hml, hown, hts⟩ (c_X10_findIn__12 l D cy z H.size Ps w0 hw.1 vu_1 6 v_6 vu_4 (s0.2.2.2 21) h_vu_1 rl_6 r_v_6 r_vu_4 oa_vu_1) (va_cwS 4 hts (gS tw_1352 tw_1353 tw_15 tw_1354) rfl rfl rfl (by decide +kernel) ⟨Nat.le_of_ble_eq_true rfl, Nat.le_of_ble_eq_true rfl⟩) (tg_preS hw hK hSD hA) rfl rfl hl.1 rfl (lv_room (Nat.le_of_ble_eq_true rfl)) dX10_isTaken_38 ⟨Nat.le_of_ble_eq_true rfl, Nat.le_of_ble_eq_true rfl⟩) hw hA (fun v_7  H locs hp_v_7 hw => ?_)
      obtain ⟨hfn, hp_v_7⟩ := hp_v_7
      have q_v_7 : (f_X10_findIn__9 (6 : Int32) v_6 vu_4 (s0.2.2.2 21)) = v_7 := hfn.1
      have r_v_7 : RI v_7 (-1) 3 := hp_v_7.1
      by_cases c9_v_7 : v_7.toInt < 0
      · have r_v_7 : RI v_7 (-1) (-1) := by unfold RI at r_v_7 ⊢; omega
        have x_NF_vu_1_6_v_6_vu_4 := (hp_v_7.2.2.2.2.1 (by omega)).1
        refine lv_iconst (v := (-1)) hx hb dX10_isTaken_41 (by decide) ?_
        refine lv_icmp_ne (tgt := 91) hx hb dX10_isTaken_42 (by decide) (fun c_42 => ?_) (fun c_42 => ?_)
        · exact absurd (r_v_7.eq.trans rl_m1.eq.symm) ((ti_ne c_42))
        · refine lv_aload_n hx hb dX10_isTaken_45 rfl (lv_at hl 0 rfl) ?_
          refine tg_mem (ci := 10) (C := RX10) (T := TX10) (N := 49) hx hb hts inX10 hown hK hw 21 m_u_1 rfl (by decide) (hts _ tw_1158) (fun _ h9 => h9) dX10_isTaken_46 ?_
          refine lv_bipush (v := 10) hx hb dX10_isTaken_49 (by decide) ?_
          refine lv_aload_n hx hb dX10_isTaken_51 rfl (lv_at hl 0 rfl) ?_
          refine tg_mem (ci := 10) (C := RX10) (T := TX10) (N := 49) hx hb hts inX10 hown hK hw 15 m_u_2 rfl (by decide) (hts _ tw_1152) (fun _ h9 => h9) dX10_isTaken_52 ?_
          refine lv_iconst (v := 2) hx hb dX10_isTaken_55 (by decide) ?_
          refine tg_iald (lo := 0) (hi := 6) hx hb hK hw h_vu_2 rfl 2 2 rl_2 (by decide) (by decide +kernel) dX10_isTaken_56 (fun v_8 r_v_8 m_v_8 o_v_8 => ?_)
          have q_v_8 : s0.2.2.1 15 (Int32.toNatClampNeg (2 : Int32)) = v_8 := OV.eqA (V := vw_MODEL) (t := 35) hw.2.2.1 o_p0 m_u_2 m_v_8 (by decide)
          refine lv_aload_n hx hb dX10_isTaken_57 rfl (lv_at hl 0 rfl) ?_
          refine tg_mem (ci := 10) (C := RX10) (T := TX10) (N := 49) hx hb hts inX10 hown hK hw 12 m_u_4 rfl (by decide) (hts _ tw_1149) (fun _ h9 => h9) dX10_isTaken_58 ?_
          have oa_vu_1 := OV.arrB (V := vw_MODEL) (t := 42) hw.2.2.1 o_p0 m_u_1 (by decide)
          have mo9_vu_1 := And.intro hw.2.2.1 m_u_1
          refine tk_ir (va_runS (As := [.ref vu_1, .int 10, .int v_8, .long vu_4]) (rest := []) ⟨hx, hb, hml, hown, hts⟩ (c_X10_findIn__10 l D cy z H.size Ps w0 hw.1 vu_1 10 v_8 vu_4 (s0.2.2.2 21) h_vu_1 rl_10 r_v_8 r_vu_4 oa_vu_1) (va_cwS 4 hts (gS tw_1352 tw_1353 tw_15 tw_1354) rfl rfl rfl (by decide +kernel) ⟨Nat.le_of_ble_eq_true rfl, Nat.le_of_ble_eq_true rfl⟩) (tg_preS hw hK hSD hA) rfl rfl hl.1 rfl (lv_room (Nat.le_of_ble_eq_true rfl)) dX10_isTaken_61 ⟨Nat.le_of_ble_eq_true rfl, Nat.le_of_ble_eq_true rfl⟩) hw hA (fun v_9  H locs hp_v_9 hw => ?_)
          obtain ⟨hfn, hp_v_9⟩ := hp_v_9
          have q_v_9 : (f_X10_findIn__9 (10 : Int32) v_8 vu_4 (s0.2.2.2 21)) = v_9 := hfn.1
          have r_v_9 : RI v_9 (-1) 5 := hp_v_9.1
          by_cases c9_v_9 : v_9.toInt < 0
          · have r_v_9 : RI v_9 (-1) (-1) := by unfold RI at r_v_9 ⊢; omega
            have x_NF_vu_1_10_v_8_vu_4 := (hp_v_9.2.2.2.2.1 (by omega)).1
            refine lv_iconst (v := (-1)) hx hb dX10_isTaken_64 (by decide) ?_
            refine lv_icmp_ne (tgt := 91) hx hb dX10_isTaken_65 (by decide) (fun c_65 => ?_) (fun c_65 => ?_)
            · exact absurd (r_v_9.eq.trans rl_m1.eq.symm) ((ti_ne c_65))
            · refine lv_aload_n hx hb dX10_isTaken_68 rfl (lv_at hl 0 rfl) ?_
              refine tg_mem (ci := 10) (C := RX10) (T := TX10) (N := 49) hx hb hts inX10 hown hK hw 21 m_u_1 rfl (by decide) (hts _ tw_1158) (fun _ h9 => h9) dX10_isTaken_69 ?_
              refine lv_bipush (v := 16) hx hb dX10_isTaken_72 (by decide) ?_
              refine lv_aload_n hx hb dX10_isTaken_74 rfl (lv_at hl 0 rfl) ?_
              refine tg_mem (ci := 10) (C := RX10) (T := TX10) (N := 49) hx hb hts inX10 hown hK hw 15 m_u_2 rfl (by decide) (hts _ tw_1152) (fun _ h9 => h9) dX10_isTaken_75 ?_
              refine lv_iconst (v := 3) hx hb dX10_isTaken_78 (by decide) ?_
              refine tg_iald (lo := 0) (hi := 8) hx hb hK hw h_vu_2 rfl 3 3 rl_3 (by decide) (by decide +kernel) dX10_isTaken_79 (fun v_10 r_v_10 m_v_10 o_v_10 => ?_)
              have q_v_10 : s0.2.2.1 15 (Int32.toNatClampNeg (3 : Int32)) = v_10 := OV.eqA (V := vw_MODEL) (t := 35) hw.2.2.1 o_p0 m_u_2 m_v_10 (by decide)
              refine lv_aload_n hx hb dX10_isTaken_80 rfl (lv_at hl 0 rfl) ?_
              refine tg_mem (ci := 10) (C := RX10) (T := TX10) (N := 49) hx hb hts inX10 hown hK hw 12 m_u_4 rfl (by decide) (hts _ tw_1149) (fun _ h9 => h9) dX10_isTaken_81 ?_
              have oa_vu_1 := OV.arrB (V := vw_MODEL) (t := 42) hw.2.2.1 o_p0 m_u_1 (by decide)
              have mo9_vu_1 := And.intro hw.2.2.1 m_u_1
              refine tk_ir (va_runS (As := [.ref vu_1, .int 16, .int v_10, .long vu_4]) (rest := []) ⟨hx, hb, hml, hown, hts⟩ (c_X10_findIn__11 l D cy z H.size Ps w0 hw.1 vu_1 16 v_10 vu_4 (s0.2.2.2 21) h_vu_1 rl_16 r_v_10 r_vu_4 oa_vu_1) (va_cwS 4 hts (gS tw_1352 tw_1353 tw_15 tw_1354) rfl rfl rfl (by decide +kernel) ⟨Nat.le_of_ble_eq_true rfl, Nat.le_of_ble_eq_true rfl⟩) (tg_preS hw hK hSD hA) rfl rfl hl.1 rfl (lv_room (Nat.le_of_ble_eq_true rfl)) dX10_isTaken_84 ⟨Nat.le_of_ble_eq_true rfl, Nat.le_of_ble_eq_true rfl⟩) hw hA (fun v_11  H locs hp_v_11 hw => ?_)
              obtain ⟨hfn, hp_v_11⟩ := hp_v_11
              have q_v_11 : (f_X10_findIn__9 (16 : Int32) v_10 vu_4 (s0.2.2.2 21)) = v_11 := hfn.1
              have r_v_11 : RI v_11 (-1) 7 := hp_v_11.1
              by_cases c9_v_11 : v_11.toInt < 0
              · have r_v_11 : RI v_11 (-1) (-1) := by unfold RI at r_v_11 ⊢; omega
                have x_NF_vu_1_16_v_10_vu_4 := (hp_v_11.2.2.2.2.1 (by omega)).1
                refine lv_iconst (v := (-1)) hx hb dX10_isTaken_87 (by decide) ?_
                refine lv_icmp_eq (tgt := 95) hx hb dX10_isTaken_88 (by decide) (fun c_88 => ?_) (fun c_88 => ?_)
                · refine lv_iconst (v := 0) hx hb dX10_isTaken_95 (by decide) ?_
                  simp only [f_X10_isTaken__1, ↓reduceIte, q_v_3, q_vu_4, q_v_5, eq_true c9_v_5, eq_true c_19, q_v_6, q_v_7, eq_true c9_v_7, eq_true c_42, q_v_8, q_v_9, eq_true c9_v_9, eq_true c_65, q_v_10, q_v_11, eq_true c9_v_11, eq_true c_88] at hE
                  subst hQ
                  exact W.zret (v := 0) hx hb hr (rfl) (fun t ht hW => ⟨⟨0, (), rfl, ⟨⟨(by rw [hR, ← hE]), trivial⟩, rl_0.to (by decide), (fun h0 => trivial), (fun _ => trivial)⟩, by rw [ht]; exact hw.2.1, va_K.moved hW.alike hK, hw.2.2.1⟩, hw.2.2.2.1.F ht⟩) hw.2.2.2.1.2.2 dX10_isTaken_96
                · exact absurd (r_v_11.eq.trans rl_m1.eq.symm) ((ti_ne c_88))
              · have r_v_11 : RI v_11 0 7 := by unfold RI at r_v_11 ⊢; omega
                have x_FD_vu_1_16_v_10_vu_4 := (hp_v_11.2.2.2.2.2 (by omega)).1
                have x_POS_v_10 := (hp_v_11.2.2.2.2.2 (by omega)).2.1
                have r_v_10 : RI v_10 1 8 := ⟨x_POS_v_10, r_v_10.2⟩
                refine lv_iconst (v := (-1)) hx hb dX10_isTaken_87 (by decide) ?_
                refine lv_icmp_eq (tgt := 95) hx hb dX10_isTaken_88 (by decide) (fun c_88 => ?_) (fun c_88 => ?_)
                · have r_v_11 : RI v_11 0 (-1) := rc_eq1 r_v_11 rl_m1 (ti_eq c_88) (by decide)
                  exact (r_v_11.no (by decide)).elim
                · refine lv_iconst (v := 1) hx hb dX10_isTaken_91 (by decide) ?_
                  refine lv_goto (tgt := 96) hx hb dX10_isTaken_92 (by decide) ?_
                  simp only [f_X10_isTaken__1, ↓reduceIte, q_v_3, q_vu_4, q_v_5, eq_true c9_v_5, eq_true c_19, q_v_6, q_v_7, eq_true c9_v_7, eq_true c_42, q_v_8, q_v_9, eq_true c9_v_9, eq_true c_65, q_v_10, q_v_11, eq_false c9_v_11, eq_false c_88] at hE
                  subst hQ
                  exact W.zret (v := 1) hx hb hr (rfl) (fun t ht hW => ⟨⟨1, (), rfl, ⟨⟨(by rw [hR, ← hE]), trivial⟩, rl_1.to (by decide), (fun _ => trivial), (fun h0 => trivial)⟩, by rw [ht]; exact hw.2.1, va_K.moved hW.alike hK, hw.2.2.1⟩, hw.2.2.2.1.F ht⟩) hw.2.2.2.1.2.2 dX10_isTaken_96
          · have r_v_9 : RI v_9 0 5 := by unfold RI at r_v_9 ⊢; omega
            have x_FD_vu_1_10_v_8_vu_4 := (hp_v_9.2.2.2.2.2 (by omega)).1
            have x_POS_v_8 := (hp_v_9.2.2.2.2.2 (by omega)).2.1
            have r_v_8 : RI v_8 1 6 := ⟨x_POS_v_8, r_v_8.2⟩
            refine lv_iconst (v := (-1)) hx hb dX10_isTaken_64 (by decide) ?_
            refine lv_icmp_ne (tgt := 91) hx hb dX10_isTaken_65 (by decide) (fun c_65 => ?_) (fun c_65 => ?_)
            · refine lv_iconst (v := 1) hx hb dX10_isTaken_91 (by decide) ?_
              refine lv_goto (tgt := 96) hx hb dX10_isTaken_92 (by decide) ?_
              simp only [f_X10_isTaken__1, ↓reduceIte, q_v_3, q_vu_4, q_v_5, eq_true c9_v_5, eq_true c_19, q_v_6, q_v_7, eq_true c9_v_7, eq_true c_42, q_v_8, q_v_9, eq_false c9_v_9, eq_false c_65] at hE
              subst hQ
              exact W.zret (v := 1) hx hb hr (rfl) (fun t ht hW => ⟨⟨1, (), rfl, ⟨⟨(by rw [hR, ← hE]), trivial⟩, rl_1.to (by decide), (fun _ => trivial), (fun h0 => trivial)⟩, by rw [ht]; exact hw.2.1, va_K.moved hW.alike hK, hw.2.2.1⟩, hw.2.2.2.1.F ht⟩) hw.2.2.2.1.2.2 dX10_isTaken_96
            · have r_v_9 : RI v_9 0 (-1) := rc_eq1 r_v_9 rl_m1 (ti_eq c_65) (by decide)
              exact (r_v_9.no (by decide)).elim
      · have r_v_7 : RI v_7 0 3 := by unfold RI at r_v_7 ⊢; omega
        have x_FD_vu_1_6_v_6_vu_4 := (hp_v_7.2.2.2.2.2 (by omega)).1
        have x_POS_v_6 := (hp_v_7.2.2.2.2.2 (by omega)).2.1
        have r_v_6 : RI v_6 1 4 := ⟨x_POS_v_6, r_v_6.2⟩
        refine lv_iconst (v := (-1)) hx hb dX10_isTaken_41 (by decide) ?_
        refine lv_icmp_ne (tgt := 91) hx hb dX10_isTaken_42 (by decide) (fun c_42 => ?_) (fun c_42 => ?_)
        · refine lv_iconst (v := 1) hx hb dX10_isTaken_91 (by decide) ?_
          refine lv_goto (tgt := 96) hx hb dX10_isTaken_92 (by decide) ?_
          simp only [f_X10_isTaken__1, ↓reduceIte, q_v_3, q_vu_4, q_v_5, eq_true c9_v_5, eq_true c_19, q_v_6, q_v_7, eq_false c9_v_7, eq_false c_42] at hE
          subst hQ
          exact W.zret (v := 1) hx hb hr (rfl) (fun t ht hW => ⟨⟨1, (), rfl, ⟨⟨(by rw [hR, ← hE]), trivial⟩, rl_1.to (by decide), (fun _ => trivial), (fun h0 => trivial)⟩, by rw [ht]; exact hw.2.1, va_K.moved hW.alike hK, hw.2.2.1⟩, hw.2.2.2.1.F ht⟩) hw.2.2.2.1.2.2 dX10_isTaken_96
        · have r_v_7 : RI v_7 0 (-1) := rc_eq1 r_v_7 rl_m1 (ti_eq c_42) (by decide)
          exact (r_v_7.no (by decide)).elim
  · have r_v_5 : RI v_5 0 5 := by unfold RI at r_v_5 ⊢; omega
    have x_FD_vu_1_0_v_3_vu_4 := (hp_v_5.2.2.2.2.2 (by omega)).1
    have x_POS_v_3 := (hp_v_5.2.2.2.2.2 (by omega)).2.1
    have r_v_3 : RI v_3 1 6 := ⟨x_POS_v_3, r_v_3.2⟩
    refine lv_iconst (v := (-1)) hx hb dX10_isTaken_18 (by decide) ?_
    refine lv_icmp_ne (tgt := 91) hx hb dX10_isTaken_19 (by decide) (fun c_19 => ?_) (fun c_19 => ?_)
    · refine lv_iconst (v := 1) hx hb dX10_isTaken_91 (by decide) ?_
      refine lv_goto (tgt := 96) hx hb dX10_isTaken_92 (by decide) ?_
      simp only [f_X10_isTaken__1, ↓reduceIte, q_v_3, q_vu_4, q_v_5, eq_false c9_v_5, eq_false c_19] at hE
      subst hQ
      exact W.zret (v := 1) hx hb hr (rfl) (fun t ht hW => ⟨⟨1, (), rfl, ⟨⟨(by rw [hR, ← hE]), trivial⟩, rl_1.to (by decide), (fun _ => trivial), (fun h0 => trivial)⟩, by rw [ht]; exact hw.2.1, va_K.moved hW.alike hK, hw.2.2.1⟩, hw.2.2.2.1.F ht⟩) hw.2.2.2.1.2.2 dX10_isTaken_96
    · have r_v_5 : RI v_5 0 (-1) := rc_eq1 r_v_5 rl_m1 (ti_eq c_19) (by decide)
      exact (r_v_5.no (by decide)).elim
abbrev wr_X10_readNew__4 : List (Nat × Nat) := [(10, 5), (10, 6), (10, 7), (10, 8), (10, 9), (10, 10), (10, 11), (10, 12)]
abbrev wa_X10_readNew__4 : List Nat := [42]
set_option maxHeartbeats 4000000 in
set_option maxRecDepth 100000 in
theorem c_X10_readNew__4 (l : Launch) (D : va_G) (cy : Nat → ClassId) (z : Nat → Nat) (sz : Nat) (Ps : PSI) (w0 : va_W) (hT : HT cy GG Ps w0) (p0 : Nat) (p1 : Int32) (gh : Int) (s0 : OS) (h_p0 : (p0, 55) ∈ Ps) (r_p1 : RI p1 16 23) (x_TO_p0_gh : TOP w0 p0 (gh)) (o_p0 : OV vw_MODEL Ps w0 p0 s0) : Met l yX10_readNew (Cond.code yX10_readNew cX10_readNew 2 (some .boolean) :: gT) ({ frames := 4, cells := 0, slots := 0, locals := 800 } : Room) (va_Pc [.ref p0, .int p1] (PRE D cy z w0 sz)) (va_Qi (fun (r : Int32) (u : va_W) => ((OV vw_MODEL Ps u p0 ((f_X10_readNew__4 p1 s0).1) ∧ (f_X10_readNew__4 p1 s0).2 = r ∧ True) ∧ (RI r 0 1 ∧ (r = 0 → True) ∧ (¬ r = 0 → TKP u p0 (gh) ∧ True))) ∧ HT cy GG Ps u ∧ FR wr_X10_readNew__4 wa_X10_readNew__4 Ps w0 u) (BB D cy (va_A w0 sz) (fun (u : va_W) => u)) (va_A w0 sz)) 0 0 (va_A w0 sz) := by
  refine Met.ofW (cc := cX10_readNew) (maxL := 2) (ret := (some .boolean)) (by decide) rfl ?_
  intro p e s m args below meth c s₁ B hml hv
  obtain ⟨rfl, hsz, hP, hK, hD0, hSD⟩ := hv
  have hx := B.exec
  have hb := B.bytes
  have hr := B.returns
  have hlocks := B.notSynchronized
  have hts : ∀ w ∈ gT, w.before _ s = true := fun w h => atoms_spec (ws := Cond.code yX10_readNew cX10_readNew 2 (some .boolean) :: gT) B.pre w (List.mem_cons_of_mem _ h)
  have hown : s.vm.findClass RX10 = some m.cls := findClass_of_methodNamed B.named
  subst hsz
  have hD := hD0.self (sz := s.heap.size)
  generalize hAe : va_A w0 s.heap.size = A at hD hSD ⊢
  have hA : ∀ q : Nat, s.heap.size ≤ q → A q := fun q h => by rw [← hAe]; exact Or.inr h
  have hl := lv_entry ([.ref p0, .int p1]) (n := 2) (Nat.le_of_ble_eq_true rfl)
  rw [lg_entry_eq]
  generalize (lg_sl ([.ref p0, .int p1]) ++ List.replicate (2 - (lg_sl ([.ref p0, .int p1])).length) Slot.unset).toArray = ls at hl ⊢
  have hl : lv_has ls 2 [(0, .ref p0), (1, .int p1)] := hl
  refine nameQ (fun Q hQ => ?_)
  have hw : WD D cy GG A s wr_X10_readNew__4 wa_X10_readNew__4 Ps w0 Ps w0 s.heap [] := ⟨hT, hP, hD, va_S.rf, FR.rf, hT.1, [], (List.append_nil _).symm⟩
  obtain ⟨R9, hR⟩ : ∃ q9 : OS × Int32, f_X10_readNew__4 p1 s0 = q9 := ⟨_, rfl⟩
  have hE := hR
  refine lv_aload_n hx hb dX10_readNew_0 rfl (lv_at hl 0 rfl) ?_
  refine tk_ir (va_runV (As := []) (rest := []) ⟨hx, hb, hml, hown, hts⟩ (c_X10_isName__1 l D cy z s.heap.size Ps w0 hw.1 p0 s0 h_p0 o_p0) (cwV 0 hts (gV tw_1344 tw_1346 ts_48 tw_15 tw_1347) rfl rfl rfl (by decide +kernel) ⟨Nat.le_of_ble_eq_true rfl, Nat.le_of_ble_eq_true rfl⟩) (tg_preV hw hK hSD hA (ci := 10) (q := (RX10, TX10, 49)) rfl h_p0 rfl) rfl rfl hl.1 rfl (lv_room (Nat.le_of_ble_eq_true rfl)) dX10_readNew_1 ⟨Nat.le_of_ble_eq_true rfl, Nat.le_of_ble_eq_true rfl⟩) hw hA (fun v_1  H locs hp_v_1 hw => ?_)
  obtain ⟨hfn, hp_v_1⟩ := hp_v_1
  have q_v_1 : (f_X10_isName__1 s0) = v_1 := hfn.1
  have r_v_1 : RI v_1 0 1 := hp_v_1.1
  refine lv_if_ne (tgt := 13) hx hb dX10_readNew_4 (by decide) (fun c_4 => ?_) (fun c_4 => ?_)
  · have r_v_1 : RI v_1 1 1 := rc_neL r_v_1 rl_0 (ti_ne c_4) (by decide)
    refine lv_aload_n hx hb dX10_readNew_13 rfl (lv_at hl 0 rfl) ?_
    refine tk_ir (va_runV (As := []) (rest := []) ⟨hx, hb, hml, hown, hts⟩ (c_X10_isTaken__1 l D cy z H.size Ps w0 hw.1 p0 s0 h_p0 o_p0) (cwV 0 hts (gV tw_1348 tw_1350 ts_49 tw_15 tw_1351) rfl rfl rfl (by decide +kernel) ⟨Nat.le_of_ble_eq_true rfl, Nat.le_of_ble_eq_true rfl⟩) (tg_preV hw hK hSD hA (ci := 10) (q := (RX10, TX10, 49)) rfl h_p0 rfl) rfl rfl hl.1 rfl (lv_room (Nat.le_of_ble_eq_true rfl)) dX10_readNew_14 ⟨Nat.le_of_ble_eq_true rfl, Nat.le_of_ble_eq_true rfl⟩) hw hA (fun v_2  H locs hp_v_2 hw => ?_)
    obtain ⟨hfn, hp_v_2⟩ := hp_v_2
    have q_v_2 : (f_X10_isTaken__1 s0) = v_2 := hfn.1
    have r_v_2 : RI v_2 0 1 := hp_v_2.1
    refine lv_if_eq (tgt := 26) hx hb dX10_readNew_17 (by decide) (fun c_17 => ?_) (fun c_17 => ?_)
    · have r_v_2 : RI v_2 0 0 := rc_eq1 r_v_2 rl_0 (ti_eq c_17) (by decide)
      refine lv_aload_n hx hb dX10_readNew_26 rfl (lv_at hl 0 rfl) ?_
      refine tg_get (ci := 10) (ts := ty_MODEL) (C := RX10) (T := TX10) (N := 49) hx hb hts inX10 hown hK hw h_p0 rfl rfl 21 (by decide) (hts _ tw_1158) (fun _ h9 => h9) (ft := vR 42) rfl dX10_readNew_27 (fun u_3 hv_u_3 m_u_3 => ?_)
      obtain ⟨vu_3, rfl, h_vu_3⟩ := hv_u_3
      refine lv_iload_n hx hb dX10_readNew_30 rfl (lv_at hl 1 rfl) ?_
      refine lv_aload_n hx hb dX10_readNew_31 rfl (lv_at hl 0 rfl) ?_
      refine tg_get (ci := 10) (ts := ty_MODEL) (C := RX10) (T := TX10) (N := 49) hx hb hts inX10 hown hK hw h_p0 rfl rfl 12 (by decide) (hts _ tw_1149) (fun _ h9 => h9) (ft := vJ (-9223372036854775808) 9223372036854775807) rfl dX10_readNew_32 (fun u_4 hv_u_4 m_u_4 => ?_)
      obtain ⟨vu_4, rfl, r_vu_4⟩ := hv_u_4
      have q_vu_4 : s0.2.1 12 = vu_4 := OV.eqL (V := vw_MODEL) hw.2.2.1 o_p0 m_u_4 (by decide)
      have mo9 := m_u_3
      refine tg_lastE hx hb hK hw h_vu_3 rfl r_p1 (by decide) r_vu_4 (by decide) (by decide) dX10_readNew_35 (fun ws H locs hw hF9 hU9 => ?_)
      have x_TO_p0_gh := TOP.over hF9 x_TO_p0_gh (by decide)
      have m_u_3 := FLD.over hF9 m_u_3 (by decide)
      have m_u_4 := FLD.over hF9 m_u_4 (by decide)
      obtain ⟨sg_5, q_sg_5⟩ : ∃ q9 : OS, sB s0 21 (Int32.toNatClampNeg p1) vu_4 = q9 := ⟨_, rfl⟩
      have o_p0 : OV vw_MODEL Ps ws p0 sg_5 := by rw [← q_sg_5]; exact OV.putB (V := vw_MODEL) (t := 42) hF9 hU9 o_p0 mo9 (by decide) (by decide)
      refine lv_aload_n hx hb dX10_readNew_36 rfl (lv_at hl 0 rfl) ?_
      refine tk_v (va_runV (As := []) (rest := []) ⟨hx, hb, hml, hown, hts⟩ (c_X10_go__2 l D cy z H.size Ps ws hw.1 p0 (gh) sg_5 h_p0 x_TO_p0_gh o_p0) (cwV 0 hts (gV tw_1298 tw_1300 ts_40 tw_15 tw_1301) rfl rfl rfl (by decide +kernel) ⟨Nat.le_of_ble_eq_true rfl, Nat.le_of_ble_eq_true rfl⟩) (tg_preV hw hK hSD hA (ci := 10) (q := (RX10, TX10, 49)) rfl h_p0 rfl) rfl rfl hl.1 rfl (lv_room (Nat.le_of_ble_eq_true rfl)) dX10_readNew_37 ⟨Nat.le_of_ble_eq_true rfl, Nat.le_of_ble_eq_true rfl⟩) hw hA ⟨by decide, by decide⟩ (fun ws H locs hp_v_6 hw hF9 => ?_)
      have m_u_3 := FLD.over hF9 m_u_3 (by decide)
      obtain ⟨hfn, hp_v_6⟩ := hp_v_6
      obtain ⟨sg_7, q_sg_7⟩ : ∃ q9 : OS, (f_X10_go__2 sg_5) = q9 := ⟨_, rfl⟩
      have o_p0 : OV vw_MODEL Ps ws p0 sg_7 := by rw [← q_sg_7]; exact hfn.1
      have x_TOK_p0_gh := (hp_v_6.1)
      refine lv_iconst (v := 1) hx hb dX10_readNew_40 (by decide) ?_
      simp only [f_X10_readNew__4, ↓reduceIte, q_v_1, eq_false c_4, q_v_2, eq_true c_17, q_vu_4, q_sg_5, q_sg_7] at hE
      subst hQ
      exact W.zret (v := 1) hx hb hr (rfl) (fun t ht hW => ⟨⟨1, ws, rfl, ⟨⟨⟨(by rw [hR, ← hE]; exact o_p0), (by rw [hR, ← hE]), trivial⟩, rl_1.to (by decide), (fun _ => trivial), (fun h0 => ⟨x_TOK_p0_gh, trivial⟩)⟩, hw.1, hw.2.2.2.2.1⟩, by rw [ht]; exact hw.2.1, va_K.moved hW.alike hK, hw.2.2.1⟩, hw.2.2.2.1.F ht⟩) hw.2.2.2.1.2.2 dX10_readNew_41
    · have r_v_2 : RI v_2 1 1 := rc_neL r_v_2 rl_0 (ti_ne c_17) (by decide)
      refine lv_aload_n hx hb dX10_readNew_20 rfl (lv_at hl 0 rfl) ?_
      refine lv_iconst (v := 3) hx hb dX10_readNew_21 (by decide) ?_
      refine tk_i (va_runV (As := [.int 3]) (rest := []) ⟨hx, hb, hml, hown, hts⟩ (c_X10_bad__1 l D cy z H.size Ps w0 hw.1 p0 3 s0 h_p0 (rl_3.to (by decide)) o_p0) (cwV 1 hts (gV tw_1336 tw_1338 ts_46 tw_15 tw_1339) rfl rfl rfl (by decide +kernel) ⟨Nat.le_of_ble_eq_true rfl, Nat.le_of_ble_eq_true rfl⟩) (tg_preV hw hK hSD hA (ci := 10) (q := (RX10, TX10, 49)) rfl h_p0 rfl) rfl rfl hl.1 rfl (lv_room (Nat.le_of_ble_eq_true rfl)) dX10_readNew_22 ⟨Nat.le_of_ble_eq_true rfl, Nat.le_of_ble_eq_true rfl⟩) hw hA ⟨by decide, by decide⟩ (fun v_8 ws H locs hp_v_8 hw hF9 => ?_)
      have x_TO_p0_gh := TOP.over hF9 x_TO_p0_gh (by decide)
      obtain ⟨hfn, hp_v_8⟩ := hp_v_8
      obtain ⟨sg_9, q_sg_9⟩ : ∃ q9 : OS, (f_X10_bad__1 (3 : Int32) s0).1 = q9 := ⟨_, rfl⟩
      have o_p0 : OV vw_MODEL Ps ws p0 sg_9 := by rw [← q_sg_9]; exact hfn.1
      have q_v_8 : (f_X10_bad__1 (3 : Int32) s0).2 = v_8 := hfn.2.1
      have r_v_8 : RI v_8 0 0 := hp_v_8.1
      simp only [f_X10_readNew__4, ↓reduceIte, q_v_1, eq_false c_4, q_v_2, eq_false c_17, q_sg_9, q_v_8] at hE
      subst hQ
      exact W.zret (v := v_8) hx hb hr (tq_nz (r_v_8.to (by decide))) (fun t ht hW => ⟨⟨v_8, ws, rfl, ⟨⟨⟨(by rw [hR, ← hE]; exact o_p0), (by rw [hR, ← hE]), trivial⟩, r_v_8.to (by decide), (fun h0 => trivial), (fun h0 => absurd (Int32.toInt_inj.mp (by have h8 := r_v_8; unfold RI at h8; rw [Int32.toInt_zero]; omega)) h0)⟩, hw.1, hw.2.2.2.2.1⟩, by rw [ht]; exact hw.2.1, va_K.moved hW.alike hK, hw.2.2.1⟩, hw.2.2.2.1.F ht⟩) hw.2.2.2.1.2.2 dX10_readNew_25
  · have r_v_1 : RI v_1 0 0 := rc_eq1 r_v_1 rl_0 (ti_eq c_4) (by decide)
    refine lv_aload_n hx hb dX10_readNew_7 rfl (lv_at hl 0 rfl) ?_
    refine lv_iconst (v := 1) hx hb dX10_readNew_8 (by decide) ?_
    refine tk_i (va_runV (As := [.int 1]) (rest := []) ⟨hx, hb, hml, hown, hts⟩ (c_X10_bad__1 l D cy z H.size Ps w0 hw.1 p0 1 s0 h_p0 (rl_1.to (by decide)) o_p0) (cwV 1 hts (gV tw_1336 tw_1338 ts_46 tw_15 tw_1339) rfl rfl rfl (by decide +kernel) ⟨Nat.le_of_ble_eq_true rfl, Nat.le_of_ble_eq_true rfl⟩) (tg_preV hw hK hSD hA (ci := 10) (q := (RX10, TX10, 49)) rfl h_p0 rfl) rfl rfl hl.1 rfl (lv_room (Nat.le_of_ble_eq_true rfl)) dX10_readNew_9 ⟨Nat.le_of_ble_eq_true rfl, Nat.le_of_ble_eq_true rfl⟩) hw hA ⟨by decide, by decide⟩ (fun v_10 ws H locs hp_v_10 hw hF9 => ?_)
    have x_TO_p0_gh := TOP.over hF9 x_TO_p0_gh (by decide)
    obtain ⟨hfn, hp_v_10⟩ := hp_v_10
    obtain ⟨sg_11, q_sg_11⟩ : ∃ q9 : OS, (f_X10_bad__1 (1 : Int32) s0).1 = q9 := ⟨_, rfl⟩
    have o_p0 : OV vw_MODEL Ps ws p0 sg_11 := by rw [← q_sg_11]; exact hfn.1
    have q_v_10 : (f_X10_bad__1 (1 : Int32) s0).2 = v_10 := hfn.2.1
    have r_v_10 : RI v_10 0 0 := hp_v_10.1
    simp only [f_X10_readNew__4, ↓reduceIte, q_v_1, eq_true c_4, q_sg_11, q_v_10] at hE
    subst hQ
    exact W.zret (v := v_10) hx hb hr (tq_nz (r_v_10.to (by decide))) (fun t ht hW => ⟨⟨v_10, ws, rfl, ⟨⟨⟨(by rw [hR, ← hE]; exact o_p0), (by rw [hR, ← hE]), trivial⟩, r_v_10.to (by decide), (fun h0 => trivial), (fun h0 => absurd (Int32.toInt_inj.mp (by have h8 := r_v_10; unfold RI at h8; rw [Int32.toInt_zero]; omega)) h0)⟩, hw.1, hw.2.2.2.2.1⟩, by rw [ht]; exact hw.2.1, va_K.moved hW.alike hK, hw.2.2.1⟩, hw.2.2.2.1.F ht⟩) hw.2.2.2.1.2.2 dX10_readNew_12
abbrev wr_X10_put__24 : List (Nat × Nat) := []
abbrev wa_X10_put__24 : List Nat := []
set_option maxHeartbeats 4000000 in
set_option maxRecDepth 100000 in
theorem c_X10_put__24 (l : Launch) (D : va_G) (cy : Nat → ClassId) (z : Nat → Nat) (sz : Nat) (Ps : PSI) (w0 : va_W) (hT : HT cy GG Ps w0) (p0 : Nat) (p1 : Int32) (p2 : Int32) (F : (Nat → Int32) → Prop) (F2 : (Nat → Int32) → Prop) (s0 : OS) (h_p0 : (p0, 55) ∈ Ps) (r_p1 : RI p1 24 31) (r_p2 : RI p2 0 0) (x_F : AX 15 35 F Ps w0 p0) (hF : ∀ (f : Nat → Int32) (v : Int32), RI v (-2147483648) 2147483647 → F f → F2 (upd f (Int32.toNatClampNeg p1) v)) (o_p0 : OV vw_MODEL Ps w0 p0 s0) : Met l yX10_put (Cond.code yX10_put cX10_put 3 (some .boolean) :: gT) ({ frames := 0, cells := 0, slots := 0, locals := 200 } : Room) (va_Pc [.ref p0, .int p1, .int p2] (PRE D cy z w0 sz)) (va_Qi (fun (r : Int32) (u : Unit) => ((f_X10_put__16 p1 p2 s0) = r ∧ True) ∧ (RI r 0 0 ∧ (r = 0 → AX 15 35 F Ps w0 p0 ∧ True) ∧ (¬ r = 0 → AX 15 35 F2 Ps w0 p0 ∧ True))) (BB D cy (va_A w0 sz) (fun (u : Unit) => w0)) (va_A w0 sz)) 0 0 (va_A w0 sz) := by
  refine Met.ofW (cc := cX10_put) (maxL := 3) (ret := (some .boolean)) (by decide) rfl ?_
  intro p e s m args below meth c s₁ B hml hv
  obtain ⟨rfl, hsz, hP, hK, hD0, hSD⟩ := hv
  have hx := B.exec
  have hb := B.bytes
  have hr := B.returns
  have hlocks := B.notSynchronized
  have hts : ∀ w ∈ gT, w.before _ s = true := fun w h => atoms_spec (ws := Cond.code yX10_put cX10_put 3 (some .boolean) :: gT) B.pre w (List.mem_cons_of_mem _ h)
  have hown : s.vm.findClass RX10 = some m.cls := findClass_of_methodNamed B.named
  subst hsz
  have hD := hD0.self (sz := s.heap.size)
  generalize hAe : va_A w0 s.heap.size = A at hD hSD ⊢
  have hA : ∀ q : Nat, s.heap.size ≤ q → A q := fun q h => by rw [← hAe]; exact Or.inr h
  have hl := lv_entry ([.ref p0, .int p1, .int p2]) (n := 3) (Nat.le_of_ble_eq_true rfl)
  rw [lg_entry_eq]
  generalize (lg_sl ([.ref p0, .int p1, .int p2]) ++ List.replicate (3 - (lg_sl ([.ref p0, .int p1, .int p2])).length) Slot.unset).toArray = ls at hl ⊢
  have hl : lv_has ls 3 [(0, .ref p0), (1, .int p1), (2, .int p2)] := hl
  refine nameQ (fun Q hQ => ?_)
  have hw : WD D cy GG A s wr_X10_put__24 wa_X10_put__24 Ps w0 Ps w0 s.heap [] := ⟨hT, hP, hD, va_S.rf, FR.rf, hT.1, [], (List.append_nil _).symm⟩
  obtain ⟨R9, hR⟩ : ∃ q9 : Int32, f_X10_put__16 p1 p2 s0 = q9 := ⟨_, rfl⟩
  have hE := hR
  refine lv_iload_n hx hb dX10_put_0 rfl (lv_at hl 2 rfl) ?_
  refine lv_if_eq (tgt := 14) hx hb dX10_put_1 (by decide) (fun c_1 => ?_) (fun c_1 => ?_)
  · refine lv_iload_n hx hb dX10_put_14 rfl (lv_at hl 2 rfl) ?_
    simp only [f_X10_put__16, ↓reduceIte, eq_true c_1] at hE
    subst hQ
    exact W.zret (v := p2) hx hb hr (tq_nz (r_p2.to (by decide))) (fun t ht hW => ⟨⟨p2, (), rfl, ⟨⟨(by rw [hR, ← hE]), trivial⟩, r_p2.to (by decide), (fun h0 => ⟨x_F, trivial⟩), (fun h0 => absurd (Int32.toInt_inj.mp (by have h8 := r_p2; unfold RI at h8; rw [Int32.toInt_zero]; omega)) h0)⟩, by rw [ht]; exact hw.2.1, va_K.moved hW.alike hK, hw.2.2.1⟩, hw.2.2.2.1.F ht⟩) hw.2.2.2.1.2.2 dX10_put_15
  · exact absurd (r_p2.eq.trans rl_0.eq.symm) ((ti_ne c_1))
abbrev wr_X10_put__25 : List (Nat × Nat) := []
abbrev wa_X10_put__25 : List Nat := [35]
set_option maxHeartbeats 4000000 in
set_option maxRecDepth 100000 in
theorem c_X10_put__25 (l : Launch) (D : va_G) (cy : Nat → ClassId) (z : Nat → Nat) (sz : Nat) (Ps : PSI) (w0 : va_W) (hT : HT cy GG Ps w0) (p0 : Nat) (p1 : Int32) (p2 : Int32) (f0_13 : Int32) (F : (Nat → Int32) → Prop) (F2 : (Nat → Int32) → Prop) (s0 : OS) (h_p0 : (p0, 55) ∈ Ps) (r_p1 : RI p1 24 31) (r_p2 : RI p2 1 1) (r_f0_13 : RI f0_13 0 5) (m_f0_13 : FLD w0 p0 10 13 (.int f0_13)) (x_F : AX 15 35 F Ps w0 p0) (hF : ∀ (f : Nat → Int32) (v : Int32), RI v 0 5 → F f → F2 (upd f (Int32.toNatClampNeg p1) v)) (o_p0 : OV vw_MODEL Ps w0 p0 s0) : Met l yX10_put (Cond.code yX10_put cX10_put 3 (some .boolean) :: gT) ({ frames := 0, cells := 0, slots := 0, locals := 200 } : Room) (va_Pc [.ref p0, .int p1, .int p2] (PRE D cy z w0 sz)) (va_Qi (fun (r : Int32) (u : va_W) => ((OV vw_MODEL Ps u p0 ((f_X10_put__17 p1 p2 s0).1) ∧ (f_X10_put__17 p1 p2 s0).2 = r ∧ True) ∧ (RI r 1 1 ∧ (r = 0 → AX 15 35 F Ps u p0 ∧ True) ∧ (¬ r = 0 → (∃ v9 : Int32, FLD u p0 10 13 (.int v9) ∧ RI v9 0 5) ∧ AX 15 35 F2 Ps u p0 ∧ True))) ∧ HT cy GG Ps u ∧ FR wr_X10_put__25 wa_X10_put__25 Ps w0 u) (BB D cy (va_A w0 sz) (fun (u : va_W) => u)) (va_A w0 sz)) 0 0 (va_A w0 sz) := by
  refine Met.ofW (cc := cX10_put) (maxL := 3) (ret := (some .boolean)) (by decide) rfl ?_
  intro p e s m args below meth c s₁ B hml hv
  obtain ⟨rfl, hsz, hP, hK, hD0, hSD⟩ := hv
  have hx := B.exec
  have hb := B.bytes
  have hr := B.returns
  have hlocks := B.notSynchronized
  have hts : ∀ w ∈ gT, w.before _ s = true := fun w h => atoms_spec (ws := Cond.code yX10_put cX10_put 3 (some .boolean) :: gT) B.pre w (List.mem_cons_of_mem _ h)
  have hown : s.vm.findClass RX10 = some m.cls := findClass_of_methodNamed B.named
  subst hsz
  have hD := hD0.self (sz := s.heap.size)
  generalize hAe : va_A w0 s.heap.size = A at hD hSD ⊢
  have hA : ∀ q : Nat, s.heap.size ≤ q → A q := fun q h => by rw [← hAe]; exact Or.inr h
  have hl := lv_entry ([.ref p0, .int p1, .int p2]) (n := 3) (Nat.le_of_ble_eq_true rfl)
  rw [lg_entry_eq]
  generalize (lg_sl ([.ref p0, .int p1, .int p2]) ++ List.replicate (3 - (lg_sl ([.ref p0, .int p1, .int p2])).length) Slot.unset).toArray = ls at hl ⊢
  have hl : lv_has ls 3 [(0, .ref p0), (1, .int p1), (2, .int p2)] := hl
  refine nameQ (fun Q hQ => ?_)
  have hw : WD D cy GG A s wr_X10_put__25 wa_X10_put__25 Ps w0 Ps w0 s.heap [] := ⟨hT, hP, hD, va_S.rf, FR.rf, hT.1, [], (List.append_nil _).symm⟩
  obtain ⟨R9, hR⟩ : ∃ q9 : OS × Int32, f_X10_put__17 p1 p2 s0 = q9 := ⟨_, rfl⟩
  have hE := hR
  refine lv_iload_n hx hb dX10_put_0 rfl (lv_at hl 2 rfl) ?_
  refine lv_if_eq (tgt := 14) hx hb dX10_put_1 (by decide) (fun c_1 => ?_) (fun c_1 => ?_)
  · have r_p2 : RI p2 1 0 := rc_eq1 r_p2 rl_0 (ti_eq c_1) (by decide)
    exact (r_p2.no (by decide)).elim
  · refine lv_aload_n hx hb dX10_put_4 rfl (lv_at hl 0 rfl) ?_
    refine tg_get (ci := 10) (ts := ty_MODEL) (C := RX10) (T := TX10) (N := 49) hx hb hts inX10 hown hK hw h_p0 rfl rfl 15 (by decide) (hts _ tw_1152) (fun _ h9 => h9) (ft := vR 35) rfl dX10_put_5 (fun u_1 hv_u_1 m_u_1 => ?_)
    obtain ⟨vu_1, rfl, h_vu_1⟩ := hv_u_1
    refine lv_iload_n hx hb dX10_put_8 rfl (lv_at hl 1 rfl) ?_
    refine lv_aload_n hx hb dX10_put_9 rfl (lv_at hl 0 rfl) ?_
    refine tg_mem (ci := 10) (C := RX10) (T := TX10) (N := 49) hx hb hts inX10 hown hK hw 13 m_f0_13 rfl (by decide) (hts _ tw_1150) (fun _ h9 => h9) dX10_put_10 ?_
    have q_f0_13 : s0.1 13 = f0_13 := OV.eqI (V := vw_MODEL) hw.2.2.1 o_p0 m_f0_13 (by decide)
    have mo9 := m_u_1
    refine tg_iast hx hb hK hw h_vu_1 rfl 24 31 r_p1 (by decide) r_f0_13 (by decide +kernel) (fun _ _ _ _ _ => trivial) (by decide) dX10_put_13 (fun ws H locs hw hF9 hU9 => ?_)
    have x_GFRB_p0 : AX 15 35 F2 Ps ws p0 := AX.ast hF9 hU9 x_F m_u_1 (fun f9 h9 => hF f9 _ r_f0_13 h9)
    have m_f0_13 := FLD.over hF9 m_f0_13 (by decide)
    have m_u_1 := FLD.over hF9 m_u_1 (by decide)
    obtain ⟨sg_2, q_sg_2⟩ : ∃ q9 : OS, sA s0 15 (Int32.toNatClampNeg p1) f0_13 = q9 := ⟨_, rfl⟩
    have o_p0 : OV vw_MODEL Ps ws p0 sg_2 := by rw [← q_sg_2]; exact OV.putA (V := vw_MODEL) (t := 35) hF9 hU9 o_p0 mo9 (by decide) (by decide)
    refine lv_iload_n hx hb dX10_put_14 rfl (lv_at hl 2 rfl) ?_
    simp only [f_X10_put__17, ↓reduceIte, eq_false c_1, q_f0_13, q_sg_2] at hE
    subst hQ
    exact W.zret (v := p2) hx hb hr (tq_nz (r_p2.to (by decide))) (fun t ht hW => ⟨⟨p2, ws, rfl, ⟨⟨⟨(by rw [hR, ← hE]; exact o_p0), (by rw [hR, ← hE]), trivial⟩, r_p2.to (by decide), (fun h0 => absurd (ti_eq h0) (by have h8 := r_p2; unfold RI at h8; rw [Int32.toInt_zero]; omega)), (fun h0 => ⟨⟨_, m_f0_13, r_f0_13⟩, x_GFRB_p0, trivial⟩)⟩, hw.1, hw.2.2.2.2.1⟩, by rw [ht]; exact hw.2.1, va_K.moved hW.alike hK, hw.2.2.1⟩, hw.2.2.2.1.F ht⟩) hw.2.2.2.1.2.2 dX10_put_15
abbrev wr_X10_isIn__17 : List (Nat × Nat) := []
abbrev wa_X10_isIn__17 : List Nat := []
set_option maxHeartbeats 4000000 in
set_option maxRecDepth 100000 in
theorem c_X10_isIn__17 (l : Launch) (D : va_G) (cy : Nat → ClassId) (z : Nat → Nat) (sz : Nat) (Ps : PSI) (w0 : va_W) (hT : HT cy GG Ps w0) (p0 : Int32) (p1 : Int32) (p2 : Int32) (r_p0 : RI p0 (-2147483648) 2147483647) (r_p1 : RI p1 1 1) (r_p2 : RI p2 9 9) : Met l yX10_isIn (Cond.code yX10_isIn cX10_isIn 3 (some .boolean) :: gT) ({ frames := 0, cells := 0, slots := 0, locals := 200 } : Room) (va_Pc [.int p0, .int p1, .int p2] (PRE D cy z w0 sz)) (va_Qi (fun (r : Int32) (u : Unit) => ((f_X10_isIn__14 p0 p1 p2) = r ∧ True) ∧ (RI r 0 1 ∧ (r = 0 → True) ∧ (¬ r = 0 → RI p0 1 9 ∧ True))) (BB D cy (va_A w0 sz) (fun (u : Unit) => w0)) (va_A w0 sz)) 0 0 (va_A w0 sz) := by
  refine Met.ofW (cc := cX10_isIn) (maxL := 3) (ret := (some .boolean)) (by decide) rfl ?_
  intro p e s m args below meth c s₁ B hml hv
  obtain ⟨rfl, hsz, hP, hK, hD0, hSD⟩ := hv
  have hx := B.exec
  have hb := B.bytes
  have hr := B.returns
  have hlocks := B.notSynchronized
  have hts : ∀ w ∈ gT, w.before _ s = true := fun w h => atoms_spec (ws := Cond.code yX10_isIn cX10_isIn 3 (some .boolean) :: gT) B.pre w (List.mem_cons_of_mem _ h)
  have hown : s.vm.findClass RX10 = some m.cls := findClass_of_methodNamed B.named
  subst hsz
  have hD := hD0.self (sz := s.heap.size)
  generalize hAe : va_A w0 s.heap.size = A at hD hSD ⊢
  have hA : ∀ q : Nat, s.heap.size ≤ q → A q := fun q h => by rw [← hAe]; exact Or.inr h
  have hl := lv_entry ([.int p0, .int p1, .int p2]) (n := 3) (Nat.le_of_ble_eq_true rfl)
  rw [lg_entry_eq]
  generalize (lg_sl ([.int p0, .int p1, .int p2]) ++ List.replicate (3 - (lg_sl ([.int p0, .int p1, .int p2])).length) Slot.unset).toArray = ls at hl ⊢
  have hl : lv_has ls 3 [(0, .int p0), (1, .int p1), (2, .int p2)] := hl
  refine nameQ (fun Q hQ => ?_)
  have hw : WD D cy GG A s wr_X10_isIn__17 wa_X10_isIn__17 Ps w0 Ps w0 s.heap [] := ⟨hT, hP, hD, va_S.rf, FR.rf, hT.1, [], (List.append_nil _).symm⟩
  obtain ⟨R9, hR⟩ : ∃ q9 : Int32, f_X10_isIn__14 p0 p1 p2 = q9 := ⟨_, rfl⟩
  have hE := hR
  refine lv_iload_n hx hb dX10_isIn_0 rfl (lv_at hl 0 rfl) ?_
  refine lv_iload_n hx hb dX10_isIn_1 rfl (lv_at hl 1 rfl) ?_
  refine lv_icmp_lt (tgt := 14) hx hb dX10_isIn_2 (by decide) (fun c_2 => ?_) (fun c_2 => ?_)
  · have r_p0 : RI p0 (-2147483648) 0 := rc_lt1 r_p0 r_p1 (ti_lt c_2) (by decide)
    refine lv_iconst (v := 0) hx hb dX10_isIn_14 (by decide) ?_
    simp only [f_X10_isIn__14, ↓reduceIte, eq_true c_2] at hE
    subst hQ
    exact W.zret (v := 0) hx hb hr (rfl) (fun t ht hW => ⟨⟨0, (), rfl, ⟨⟨(by rw [hR, ← hE]), trivial⟩, rl_0.to (by decide), (fun h0 => trivial), (fun h0 => absurd rfl h0)⟩, by rw [ht]; exact hw.2.1, va_K.moved hW.alike hK, hw.2.2.1⟩, hw.2.2.2.1.F ht⟩) hw.2.2.2.1.2.2 dX10_isIn_15
  · have r_p0 : RI p0 1 2147483647 := rc_le2 r_p1 r_p0 (ti_nlt c_2) (by decide)
    refine lv_iload_n hx hb dX10_isIn_5 rfl (lv_at hl 0 rfl) ?_
    refine lv_iload_n hx hb dX10_isIn_6 rfl (lv_at hl 2 rfl) ?_
    refine lv_icmp_gt (tgt := 14) hx hb dX10_isIn_7 (by decide) (fun c_7 => ?_) (fun c_7 => ?_)
    · have r_p0 : RI p0 10 2147483647 := rc_lt2 r_p2 r_p0 (ti_lt c_7) (by decide)
      refine lv_iconst (v := 0) hx hb dX10_isIn_14 (by decide) ?_
      simp only [f_X10_isIn__14, ↓reduceIte, eq_false c_2, eq_true c_7] at hE
      subst hQ
      exact W.zret (v := 0) hx hb hr (rfl) (fun t ht hW => ⟨⟨0, (), rfl, ⟨⟨(by rw [hR, ← hE]), trivial⟩, rl_0.to (by decide), (fun h0 => trivial), (fun h0 => absurd rfl h0)⟩, by rw [ht]; exact hw.2.1, va_K.moved hW.alike hK, hw.2.2.1⟩, hw.2.2.2.1.F ht⟩) hw.2.2.2.1.2.2 dX10_isIn_15
    · have r_p0 : RI p0 1 9 := rc_le1 r_p0 r_p2 (ti_nlt c_7) (by decide)
      refine lv_iconst (v := 1) hx hb dX10_isIn_10 (by decide) ?_
      refine lv_goto (tgt := 15) hx hb dX10_isIn_11 (by decide) ?_
      simp only [f_X10_isIn__14, ↓reduceIte, eq_false c_2, eq_false c_7] at hE
      subst hQ
      exact W.zret (v := 1) hx hb hr (rfl) (fun t ht hW => ⟨⟨1, (), rfl, ⟨⟨(by rw [hR, ← hE]), trivial⟩, rl_1.to (by decide), (fun _ => trivial), (fun h0 => ⟨r_p0, trivial⟩)⟩, by rw [ht]; exact hw.2.1, va_K.moved hW.alike hK, hw.2.2.1⟩, hw.2.2.2.1.F ht⟩) hw.2.2.2.1.2.2 dX10_isIn_15
abbrev wr_X10_readNumber__10 : List (Nat × Nat) := [(10, 5), (10, 6), (10, 7), (10, 8), (10, 9), (10, 10), (10, 11), (10, 12), (10, 13)]
abbrev wa_X10_readNumber__10 : List Nat := []
set_option maxHeartbeats 4000000 in
set_option maxRecDepth 100000 in
theorem c_X10_readNumber__10 (l : Launch) (D : va_G) (cy : Nat → ClassId) (z : Nat → Nat) (sz : Nat) (Ps : PSI) (w0 : va_W) (hT : HT cy GG Ps w0) (p0 : Nat) (p1 : Int32) (p2 : Int32) (gh : Int) (s0 : OS) (h_p0 : (p0, 55) ∈ Ps) (r_p1 : RI p1 1 1) (r_p2 : RI p2 9 9) (x_TO_p0_gh : TOP w0 p0 (gh)) (o_p0 : OV vw_MODEL Ps w0 p0 s0) : Met l yX10_readNumber (Cond.code yX10_readNumber cX10_readNumber 3 (some .boolean) :: gT) ({ frames := 3, cells := 0, slots := 0, locals := 600 } : Room) (va_Pc [.ref p0, .int p1, .int p2] (PRE D cy z w0 sz)) (va_Qi (fun (r : Int32) (u : va_W) => ((OV vw_MODEL Ps u p0 ((f_X10_readNumber__7 p1 p2 s0).1) ∧ (f_X10_readNumber__7 p1 p2 s0).2 = r ∧ True) ∧ (RI r 0 1 ∧ (r = 0 → True) ∧ (¬ r = 0 → (∃ v9 : Int32, FLD u p0 10 13 (.int v9) ∧ RI v9 1 9) ∧ TKP u p0 (gh) ∧ True))) ∧ HT cy GG Ps u ∧ FR wr_X10_readNumber__10 wa_X10_readNumber__10 Ps w0 u) (BB D cy (va_A w0 sz) (fun (u : va_W) => u)) (va_A w0 sz)) 0 0 (va_A w0 sz) := by
  refine Met.ofW (cc := cX10_readNumber) (maxL := 3) (ret := (some .boolean)) (by decide) rfl ?_
  intro p e s m args below meth c s₁ B hml hv
  obtain ⟨rfl, hsz, hP, hK, hD0, hSD⟩ := hv
  have hx := B.exec
  have hb := B.bytes
  have hr := B.returns
  have hlocks := B.notSynchronized
  have hts : ∀ w ∈ gT, w.before _ s = true := fun w h => atoms_spec (ws := Cond.code yX10_readNumber cX10_readNumber 3 (some .boolean) :: gT) B.pre w (List.mem_cons_of_mem _ h)
  have hown : s.vm.findClass RX10 = some m.cls := findClass_of_methodNamed B.named
  subst hsz
  have hD := hD0.self (sz := s.heap.size)
  generalize hAe : va_A w0 s.heap.size = A at hD hSD ⊢
  have hA : ∀ q : Nat, s.heap.size ≤ q → A q := fun q h => by rw [← hAe]; exact Or.inr h
  have hl := lv_entry ([.ref p0, .int p1, .int p2]) (n := 3) (Nat.le_of_ble_eq_true rfl)
  rw [lg_entry_eq]
  generalize (lg_sl ([.ref p0, .int p1, .int p2]) ++ List.replicate (3 - (lg_sl ([.ref p0, .int p1, .int p2])).length) Slot.unset).toArray = ls at hl ⊢
  have hl : lv_has ls 3 [(0, .ref p0), (1, .int p1), (2, .int p2)] := hl
  refine nameQ (fun Q hQ => ?_)
  have hw : WD D cy GG A s wr_X10_readNumber__10 wa_X10_readNumber__10 Ps w0 Ps w0 s.heap [] := ⟨hT, hP, hD, va_S.rf, FR.rf, hT.1, [], (List.append_nil _).symm⟩
  obtain ⟨R9, hR⟩ : ∃ q9 : OS × Int32, f_X10_readNumber__7 p1 p2 s0 = q9 := ⟨_, rfl⟩
  have hE := hR
  refine lv_aload_n hx hb dX10_readNumber_0 rfl (lv_at hl 0 rfl) ?_
  refine tg_get (ci := 10) (ts := ty_MODEL) (C := RX10) (T := TX10) (N := 49) hx hb hts inX10 hown hK hw h_p0 rfl rfl 7 (by decide) (hts _ tw_1144) (fun _ h9 => h9) (ft := vI (-2147483648) 2147483647) rfl dX10_readNumber_1 (fun u_1 hv_u_1 m_u_1 => ?_)
  obtain ⟨vu_1, rfl, r_vu_1⟩ := hv_u_1
  have q_vu_1 : s0.1 7 = vu_1 := OV.eqI (V := vw_MODEL) hw.2.2.1 o_p0 m_u_1 (by decide)
  refine lv_iconst (v := 3) hx hb dX10_readNumber_4 (by decide) ?_
  refine lv_icmp_eq (tgt := 14) hx hb dX10_readNumber_5 (by decide) (fun c_5 => ?_) (fun c_5 => ?_)
  · have r_vu_1 : RI vu_1 3 3 := rc_eq1 r_vu_1 rl_3 (ti_eq c_5) (by decide)
    refine lv_aload_n hx hb dX10_readNumber_14 rfl (lv_at hl 0 rfl) ?_
    refine tg_get (ci := 10) (ts := ty_MODEL) (C := RX10) (T := TX10) (N := 49) hx hb hts inX10 hown hK hw h_p0 rfl rfl 8 (by decide) (hts _ tw_1145) (fun _ h9 => h9) (ft := vI (-2147483648) 2147483647) rfl dX10_readNumber_15 (fun u_2 hv_u_2 m_u_2 => ?_)
    obtain ⟨vu_2, rfl, r_vu_2⟩ := hv_u_2
    have q_vu_2 : s0.1 8 = vu_2 := OV.eqI (V := vw_MODEL) hw.2.2.1 o_p0 m_u_2 (by decide)
    refine lv_iload_n hx hb dX10_readNumber_18 rfl (lv_at hl 1 rfl) ?_
    refine lv_iload_n hx hb dX10_readNumber_19 rfl (lv_at hl 2 rfl) ?_
    refine tk_ir (va_runS (As := [.int vu_2, .int p1, .int p2]) (rest := []) ⟨hx, hb, hml, hown, hts⟩ (c_X10_isIn__17 l D cy z s.heap.size Ps w0 hw.1 vu_2 p1 p2 r_vu_2 r_p1 r_p2) (va_cwS 3 hts (gS tw_1359 tw_1360 tw_15 tw_1361) rfl rfl rfl (by decide +kernel) ⟨Nat.le_of_ble_eq_true rfl, Nat.le_of_ble_eq_true rfl⟩) (tg_preS hw hK hSD hA) rfl rfl hl.1 rfl (lv_room (Nat.le_of_ble_eq_true rfl)) dX10_readNumber_20 ⟨Nat.le_of_ble_eq_true rfl, Nat.le_of_ble_eq_true rfl⟩) hw hA (fun v_3  H locs hp_v_3 hw => ?_)
    obtain ⟨hfn, hp_v_3⟩ := hp_v_3
    have q_v_3 : (f_X10_isIn__14 vu_2 p1 p2) = v_3 := hfn.1
    have r_v_3 : RI v_3 0 1 := hp_v_3.1
    refine lv_if_ne (tgt := 32) hx hb dX10_readNumber_23 (by decide) (fun c_23 => ?_) (fun c_23 => ?_)
    · have r_v_3 : RI v_3 1 1 := rc_neL r_v_3 rl_0 (ti_ne c_23) (by decide)
      have r_vu_2 : RI vu_2 1 9 := ((hp_v_3.2.2 c_23).1)
      refine lv_aload_n hx hb dX10_readNumber_32 rfl (lv_at hl 0 rfl) ?_
      refine lv_aload_n hx hb dX10_readNumber_33 rfl (lv_at hl 0 rfl) ?_
      refine tg_mem (ci := 10) (C := RX10) (T := TX10) (N := 49) hx hb hts inX10 hown hK hw 8 m_u_2 rfl (by decide) (hts _ tw_1145) (fun _ h9 => h9) dX10_readNumber_34 ?_
      refine tg_put (ci := 10) (ts := ty_MODEL) (v := .int vu_2) (ty := .int) (C := RX10) (T := TX10) (N := 49) hx hb hts inX10 tyX10 tyX10_ok nmX10 hown hK hw h_p0 rfl rfl 13 (by decide) (hts _ tw_1150) (fun _ h9 => h9) rfl (by decide +kernel) rfl rfl (ft := vI (-2147483648) 2147483647) rfl ⟨_, rfl, (r_vu_2.to (by decide))⟩ (by decide) dX10_readNumber_37 (fun ws H locs hw n_k_4 hF9 => ?_)
      have m_u_1 := FLD.over hF9 m_u_1 (by decide)
      have m_u_2 := FLD.over hF9 m_u_2 (by decide)
      have x_TO_p0_gh := TOP.over hF9 x_TO_p0_gh (by decide)
      obtain ⟨sg_5, q_sg_5⟩ : ∃ q9 : OS, sI s0 13 vu_2 = q9 := ⟨_, rfl⟩
      have o_p0 : OV vw_MODEL Ps ws p0 sg_5 := by rw [← q_sg_5]; exact OV.putI (V := vw_MODEL) hF9 n_k_4 o_p0 (by decide)
      refine lv_aload_n hx hb dX10_readNumber_40 rfl (lv_at hl 0 rfl) ?_
      refine tk_v (va_runV (As := []) (rest := []) ⟨hx, hb, hml, hown, hts⟩ (c_X10_go__2 l D cy z H.size Ps ws hw.1 p0 (gh) sg_5 h_p0 x_TO_p0_gh o_p0) (cwV 0 hts (gV tw_1298 tw_1300 ts_40 tw_15 tw_1301) rfl rfl rfl (by decide +kernel) ⟨Nat.le_of_ble_eq_true rfl, Nat.le_of_ble_eq_true rfl⟩) (tg_preV hw hK hSD hA (ci := 10) (q := (RX10, TX10, 49)) rfl h_p0 rfl) rfl rfl hl.1 rfl (lv_room (Nat.le_of_ble_eq_true rfl)) dX10_readNumber_41 ⟨Nat.le_of_ble_eq_true rfl, Nat.le_of_ble_eq_true rfl⟩) hw hA ⟨by decide, by decide⟩ (fun ws H locs hp_v_6 hw hF9 => ?_)
      have n_k_4 := FLD.over hF9 n_k_4 (by decide)
      obtain ⟨hfn, hp_v_6⟩ := hp_v_6
      obtain ⟨sg_7, q_sg_7⟩ : ∃ q9 : OS, (f_X10_go__2 sg_5) = q9 := ⟨_, rfl⟩
      have o_p0 : OV vw_MODEL Ps ws p0 sg_7 := by rw [← q_sg_7]; exact hfn.1
      have x_TOK_p0_gh := (hp_v_6.1)
      refine lv_iconst (v := 1) hx hb dX10_readNumber_44 (by decide) ?_
      simp only [f_X10_readNumber__7, ↓reduceIte, q_vu_1, eq_true c_5, q_vu_2, q_v_3, eq_false c_23, q_sg_5, q_sg_7] at hE
      subst hQ
      exact W.zret (v := 1) hx hb hr (rfl) (fun t ht hW => ⟨⟨1, ws, rfl, ⟨⟨⟨(by rw [hR, ← hE]; exact o_p0), (by rw [hR, ← hE]), trivial⟩, rl_1.to (by decide), (fun _ => trivial), (fun h0 => ⟨⟨_, n_k_4, r_vu_2⟩, x_TOK_p0_gh, trivial⟩)⟩, hw.1, hw.2.2.2.2.1⟩, by rw [ht]; exact hw.2.1, va_K.moved hW.alike hK, hw.2.2.1⟩, hw.2.2.2.1.F ht⟩) hw.2.2.2.1.2.2 dX10_readNumber_45
    · have r_v_3 : RI v_3 0 0 := rc_eq1 r_v_3 rl_0 (ti_eq c_23) (by decide)
      refine lv_aload_n hx hb dX10_readNumber_26 rfl (lv_at hl 0 rfl) ?_
      refine lv_iconst (v := 2) hx hb dX10_readNumber_27 (by decide) ?_
      refine tk_i (va_runV (As := [.int 2]) (rest := []) ⟨hx, hb, hml, hown, hts⟩ (c_X10_bad__1 l D cy z H.size Ps w0 hw.1 p0 2 s0 h_p0 (rl_2.to (by decide)) o_p0) (cwV 1 hts (gV tw_1336 tw_1338 ts_46 tw_15 tw_1339) rfl rfl rfl (by decide +kernel) ⟨Nat.le_of_ble_eq_true rfl, Nat.le_of_ble_eq_true rfl⟩) (tg_preV hw hK hSD hA (ci := 10) (q := (RX10, TX10, 49)) rfl h_p0 rfl) rfl rfl hl.1 rfl (lv_room (Nat.le_of_ble_eq_true rfl)) dX10_readNumber_28 ⟨Nat.le_of_ble_eq_true rfl, Nat.le_of_ble_eq_true rfl⟩) hw hA ⟨by decide, by decide⟩ (fun v_8 ws H locs hp_v_8 hw hF9 => ?_)
      have m_u_1 := FLD.over hF9 m_u_1 (by decide)
      have m_u_2 := FLD.over hF9 m_u_2 (by decide)
      have x_TO_p0_gh := TOP.over hF9 x_TO_p0_gh (by decide)
      obtain ⟨hfn, hp_v_8⟩ := hp_v_8
      obtain ⟨sg_9, q_sg_9⟩ : ∃ q9 : OS, (f_X10_bad__1 (2 : Int32) s0).1 = q9 := ⟨_, rfl⟩
      have o_p0 : OV vw_MODEL Ps ws p0 sg_9 := by rw [← q_sg_9]; exact hfn.1
      have q_v_8 : (f_X10_bad__1 (2 : Int32) s0).2 = v_8 := hfn.2.1
      have r_v_8 : RI v_8 0 0 := hp_v_8.1
      simp only [f_X10_readNumber__7, ↓reduceIte, q_vu_1, eq_true c_5, q_vu_2, q_v_3, eq_true c_23, q_sg_9, q_v_8] at hE
      subst hQ
      exact W.zret (v := v_8) hx hb hr (tq_nz (r_v_8.to (by decide))) (fun t ht hW => ⟨⟨v_8, ws, rfl, ⟨⟨⟨(by rw [hR, ← hE]; exact o_p0), (by rw [hR, ← hE]), trivial⟩, r_v_8.to (by decide), (fun h0 => trivial), (fun h0 => absurd (Int32.toInt_inj.mp (by have h8 := r_v_8; unfold RI at h8; rw [Int32.toInt_zero]; omega)) h0)⟩, hw.1, hw.2.2.2.2.1⟩, by rw [ht]; exact hw.2.1, va_K.moved hW.alike hK, hw.2.2.1⟩, hw.2.2.2.1.F ht⟩) hw.2.2.2.1.2.2 dX10_readNumber_31
  · refine lv_aload_n hx hb dX10_readNumber_8 rfl (lv_at hl 0 rfl) ?_
    refine lv_iconst (v := 1) hx hb dX10_readNumber_9 (by decide) ?_
    refine tk_i (va_runV (As := [.int 1]) (rest := []) ⟨hx, hb, hml, hown, hts⟩ (c_X10_bad__1 l D cy z s.heap.size Ps w0 hw.1 p0 1 s0 h_p0 (rl_1.to (by decide)) o_p0) (cwV 1 hts (gV tw_1336 tw_1338 ts_46 tw_15 tw_1339) rfl rfl rfl (by decide +kernel) ⟨Nat.le_of_ble_eq_true rfl, Nat.le_of_ble_eq_true rfl⟩) (tg_preV hw hK hSD hA (ci := 10) (q := (RX10, TX10, 49)) rfl h_p0 rfl) rfl rfl hl.1 rfl (lv_room (Nat.le_of_ble_eq_true rfl)) dX10_readNumber_10 ⟨Nat.le_of_ble_eq_true rfl, Nat.le_of_ble_eq_true rfl⟩) hw hA ⟨by decide, by decide⟩ (fun v_10 ws H locs hp_v_10 hw hF9 => ?_)
    have m_u_1 := FLD.over hF9 m_u_1 (by decide)
    have x_TO_p0_gh := TOP.over hF9 x_TO_p0_gh (by decide)
    obtain ⟨hfn, hp_v_10⟩ := hp_v_10
    obtain ⟨sg_11, q_sg_11⟩ : ∃ q9 : OS, (f_X10_bad__1 (1 : Int32) s0).1 = q9 := ⟨_, rfl⟩
    have o_p0 : OV vw_MODEL Ps ws p0 sg_11 := by rw [← q_sg_11]; exact hfn.1
    have q_v_10 : (f_X10_bad__1 (1 : Int32) s0).2 = v_10 := hfn.2.1
    have r_v_10 : RI v_10 0 0 := hp_v_10.1
    simp only [f_X10_readNumber__7, ↓reduceIte, q_vu_1, eq_false c_5, q_sg_11, q_v_10] at hE
    subst hQ
    exact W.zret (v := v_10) hx hb hr (tq_nz (r_v_10.to (by decide))) (fun t ht hW => ⟨⟨v_10, ws, rfl, ⟨⟨⟨(by rw [hR, ← hE]; exact o_p0), (by rw [hR, ← hE]), trivial⟩, r_v_10.to (by decide), (fun h0 => trivial), (fun h0 => absurd (Int32.toInt_inj.mp (by have h8 := r_v_10; unfold RI at h8; rw [Int32.toInt_zero]; omega)) h0)⟩, hw.1, hw.2.2.2.2.1⟩, by rw [ht]; exact hw.2.1, va_K.moved hW.alike hK, hw.2.2.1⟩, hw.2.2.2.1.F ht⟩) hw.2.2.2.1.2.2 dX10_readNumber_13
abbrev wr_X10_put__26 : List (Nat × Nat) := []
abbrev wa_X10_put__26 : List Nat := []
set_option maxHeartbeats 4000000 in
set_option maxRecDepth 100000 in
theorem c_X10_put__26 (l : Launch) (D : va_G) (cy : Nat → ClassId) (z : Nat → Nat) (sz : Nat) (Ps : PSI) (w0 : va_W) (hT : HT cy GG Ps w0) (p0 : Nat) (p1 : Int32) (p2 : Int32) (F : (Nat → Int32) → Prop) (F2 : (Nat → Int32) → Prop) (s0 : OS) (h_p0 : (p0, 55) ∈ Ps) (r_p1 : RI p1 32 39) (r_p2 : RI p2 0 0) (x_F : AX 15 35 F Ps w0 p0) (hF : ∀ (f : Nat → Int32) (v : Int32), RI v (-2147483648) 2147483647 → F f → F2 (upd f (Int32.toNatClampNeg p1) v)) (o_p0 : OV vw_MODEL Ps w0 p0 s0) : Met l yX10_put (Cond.code yX10_put cX10_put 3 (some .boolean) :: gT) ({ frames := 0, cells := 0, slots := 0, locals := 200 } : Room) (va_Pc [.ref p0, .int p1, .int p2] (PRE D cy z w0 sz)) (va_Qi (fun (r : Int32) (u : Unit) => ((f_X10_put__16 p1 p2 s0) = r ∧ True) ∧ (RI r 0 0 ∧ (r = 0 → AX 15 35 F Ps w0 p0 ∧ True) ∧ (¬ r = 0 → AX 15 35 F2 Ps w0 p0 ∧ True))) (BB D cy (va_A w0 sz) (fun (u : Unit) => w0)) (va_A w0 sz)) 0 0 (va_A w0 sz) := by
  refine Met.ofW (cc := cX10_put) (maxL := 3) (ret := (some .boolean)) (by decide) rfl ?_
  intro p e s m args below meth c s₁ B hml hv
  obtain ⟨rfl, hsz, hP, hK, hD0, hSD⟩ := hv
  have hx := B.exec
  have hb := B.bytes
  have hr := B.returns
  have hlocks := B.notSynchronized
  have hts : ∀ w ∈ gT, w.before _ s = true := fun w h => atoms_spec (ws := Cond.code yX10_put cX10_put 3 (some .boolean) :: gT) B.pre w (List.mem_cons_of_mem _ h)
  have hown : s.vm.findClass RX10 = some m.cls := findClass_of_methodNamed B.named
  subst hsz
  have hD := hD0.self (sz := s.heap.size)
  generalize hAe : va_A w0 s.heap.size = A at hD hSD ⊢
  have hA : ∀ q : Nat, s.heap.size ≤ q → A q := fun q h => by rw [← hAe]; exact Or.inr h
  have hl := lv_entry ([.ref p0, .int p1, .int p2]) (n := 3) (Nat.le_of_ble_eq_true rfl)
  rw [lg_entry_eq]
  generalize (lg_sl ([.ref p0, .int p1, .int p2]) ++ List.replicate (3 - (lg_sl ([.ref p0, .int p1, .int p2])).length) Slot.unset).toArray = ls at hl ⊢
  have hl : lv_has ls 3 [(0, .ref p0), (1, .int p1), (2, .int p2)] := hl
  refine nameQ (fun Q hQ => ?_)
  have hw : WD D cy GG A s wr_X10_put__26 wa_X10_put__26 Ps w0 Ps w0 s.heap [] := ⟨hT, hP, hD, va_S.rf, FR.rf, hT.1, [], (List.append_nil _).symm⟩
  obtain ⟨R9, hR⟩ : ∃ q9 : Int32, f_X10_put__16 p1 p2 s0 = q9 := ⟨_, rfl⟩
  have hE := hR
  refine lv_iload_n hx hb dX10_put_0 rfl (lv_at hl 2 rfl) ?_
  refine lv_if_eq (tgt := 14) hx hb dX10_put_1 (by decide) (fun c_1 => ?_) (fun c_1 => ?_)
  · refine lv_iload_n hx hb dX10_put_14 rfl (lv_at hl 2 rfl) ?_
    simp only [f_X10_put__16, ↓reduceIte, eq_true c_1] at hE
    subst hQ
    exact W.zret (v := p2) hx hb hr (tq_nz (r_p2.to (by decide))) (fun t ht hW => ⟨⟨p2, (), rfl, ⟨⟨(by rw [hR, ← hE]), trivial⟩, r_p2.to (by decide), (fun h0 => ⟨x_F, trivial⟩), (fun h0 => absurd (Int32.toInt_inj.mp (by have h8 := r_p2; unfold RI at h8; rw [Int32.toInt_zero]; omega)) h0)⟩, by rw [ht]; exact hw.2.1, va_K.moved hW.alike hK, hw.2.2.1⟩, hw.2.2.2.1.F ht⟩) hw.2.2.2.1.2.2 dX10_put_15
  · exact absurd (r_p2.eq.trans rl_0.eq.symm) ((ti_ne c_1))
abbrev wr_X10_put__27 : List (Nat × Nat) := []
abbrev wa_X10_put__27 : List Nat := [35]
set_option maxHeartbeats 4000000 in
set_option maxRecDepth 100000 in
theorem c_X10_put__27 (l : Launch) (D : va_G) (cy : Nat → ClassId) (z : Nat → Nat) (sz : Nat) (Ps : PSI) (w0 : va_W) (hT : HT cy GG Ps w0) (p0 : Nat) (p1 : Int32) (p2 : Int32) (f0_13 : Int32) (F : (Nat → Int32) → Prop) (F2 : (Nat → Int32) → Prop) (s0 : OS) (h_p0 : (p0, 55) ∈ Ps) (r_p1 : RI p1 32 39) (r_p2 : RI p2 1 1) (r_f0_13 : RI f0_13 1 9) (m_f0_13 : FLD w0 p0 10 13 (.int f0_13)) (x_F : AX 15 35 F Ps w0 p0) (hF : ∀ (f : Nat → Int32) (v : Int32), RI v 1 9 → F f → F2 (upd f (Int32.toNatClampNeg p1) v)) (o_p0 : OV vw_MODEL Ps w0 p0 s0) : Met l yX10_put (Cond.code yX10_put cX10_put 3 (some .boolean) :: gT) ({ frames := 0, cells := 0, slots := 0, locals := 200 } : Room) (va_Pc [.ref p0, .int p1, .int p2] (PRE D cy z w0 sz)) (va_Qi (fun (r : Int32) (u : va_W) => ((OV vw_MODEL Ps u p0 ((f_X10_put__17 p1 p2 s0).1) ∧ (f_X10_put__17 p1 p2 s0).2 = r ∧ True) ∧ (RI r 1 1 ∧ (r = 0 → AX 15 35 F Ps u p0 ∧ True) ∧ (¬ r = 0 → (∃ v9 : Int32, FLD u p0 10 13 (.int v9) ∧ RI v9 1 9) ∧ AX 15 35 F2 Ps u p0 ∧ True))) ∧ HT cy GG Ps u ∧ FR wr_X10_put__27 wa_X10_put__27 Ps w0 u) (BB D cy (va_A w0 sz) (fun (u : va_W) => u)) (va_A w0 sz)) 0 0 (va_A w0 sz) := by
  refine Met.ofW (cc := cX10_put) (maxL := 3) (ret := (some .boolean)) (by decide) rfl ?_
  intro p e s m args below meth c s₁ B hml hv
  obtain ⟨rfl, hsz, hP, hK, hD0, hSD⟩ := hv
  have hx := B.exec
  have hb := B.bytes
  have hr := B.returns
  have hlocks := B.notSynchronized
  have hts : ∀ w ∈ gT, w.before _ s = true := fun w h => atoms_spec (ws := Cond.code yX10_put cX10_put 3 (some .boolean) :: gT) B.pre w (List.mem_cons_of_mem _ h)
  have hown : s.vm.findClass RX10 = some m.cls := findClass_of_methodNamed B.named
  subst hsz
  have hD := hD0.self (sz := s.heap.size)
  generalize hAe : va_A w0 s.heap.size = A at hD hSD ⊢
  have hA : ∀ q : Nat, s.heap.size ≤ q → A q := fun q h => by rw [← hAe]; exact Or.inr h
  have hl := lv_entry ([.ref p0, .int p1, .int p2]) (n := 3) (Nat.le_of_ble_eq_true rfl)
  rw [lg_entry_eq]
  generalize (lg_sl ([.ref p0, .int p1, .int p2]) ++ List.replicate (3 - (lg_sl ([.ref p0, .int p1, .int p2])).length) Slot.unset).toArray = ls at hl ⊢
  have hl : lv_has ls 3 [(0, .ref p0), (1, .int p1), (2, .int p2)] := hl
  refine nameQ (fun Q hQ => ?_)
  have hw : WD D cy GG A s wr_X10_put__27 wa_X10_put__27 Ps w0 Ps w0 s.heap [] := ⟨hT, hP, hD, va_S.rf, FR.rf, hT.1, [], (List.append_nil _).symm⟩
  obtain ⟨R9, hR⟩ : ∃ q9 : OS × Int32, f_X10_put__17 p1 p2 s0 = q9 := ⟨_, rfl⟩
  have hE := hR
  refine lv_iload_n hx hb dX10_put_0 rfl (lv_at hl 2 rfl) ?_
  refine lv_if_eq (tgt := 14) hx hb dX10_put_1 (by decide) (fun c_1 => ?_) (fun c_1 => ?_)
  · have r_p2 : RI p2 1 0 := rc_eq1 r_p2 rl_0 (ti_eq c_1) (by decide)
    exact (r_p2.no (by decide)).elim
  · refine lv_aload_n hx hb dX10_put_4 rfl (lv_at hl 0 rfl) ?_
    refine tg_get (ci := 10) (ts := ty_MODEL) (C := RX10) (T := TX10) (N := 49) hx hb hts inX10 hown hK hw h_p0 rfl rfl 15 (by decide) (hts _ tw_1152) (fun _ h9 => h9) (ft := vR 35) rfl dX10_put_5 (fun u_1 hv_u_1 m_u_1 => ?_)
    obtain ⟨vu_1, rfl, h_vu_1⟩ := hv_u_1
    refine lv_iload_n hx hb dX10_put_8 rfl (lv_at hl 1 rfl) ?_
    refine lv_aload_n hx hb dX10_put_9 rfl (lv_at hl 0 rfl) ?_
    refine tg_mem (ci := 10) (C := RX10) (T := TX10) (N := 49) hx hb hts inX10 hown hK hw 13 m_f0_13 rfl (by decide) (hts _ tw_1150) (fun _ h9 => h9) dX10_put_10 ?_
    have q_f0_13 : s0.1 13 = f0_13 := OV.eqI (V := vw_MODEL) hw.2.2.1 o_p0 m_f0_13 (by decide)
    have mo9 := m_u_1
    refine tg_iast hx hb hK hw h_vu_1 rfl 32 39 r_p1 (by decide) r_f0_13 (by decide +kernel) (fun _ _ _ _ _ => trivial) (by decide) dX10_put_13 (fun ws H locs hw hF9 hU9 => ?_)
    have x_GFRB_p0 : AX 15 35 F2 Ps ws p0 := AX.ast hF9 hU9 x_F m_u_1 (fun f9 h9 => hF f9 _ r_f0_13 h9)
    have m_f0_13 := FLD.over hF9 m_f0_13 (by decide)
    have m_u_1 := FLD.over hF9 m_u_1 (by decide)
    obtain ⟨sg_2, q_sg_2⟩ : ∃ q9 : OS, sA s0 15 (Int32.toNatClampNeg p1) f0_13 = q9 := ⟨_, rfl⟩
    have o_p0 : OV vw_MODEL Ps ws p0 sg_2 := by rw [← q_sg_2]; exact OV.putA (V := vw_MODEL) (t := 35) hF9 hU9 o_p0 mo9 (by decide) (by decide)
    refine lv_iload_n hx hb dX10_put_14 rfl (lv_at hl 2 rfl) ?_
    simp only [f_X10_put__17, ↓reduceIte, eq_false c_1, q_f0_13, q_sg_2] at hE
    subst hQ
    exact W.zret (v := p2) hx hb hr (tq_nz (r_p2.to (by decide))) (fun t ht hW => ⟨⟨p2, ws, rfl, ⟨⟨⟨(by rw [hR, ← hE]; exact o_p0), (by rw [hR, ← hE]), trivial⟩, r_p2.to (by decide), (fun h0 => absurd (ti_eq h0) (by have h8 := r_p2; unfold RI at h8; rw [Int32.toInt_zero]; omega)), (fun h0 => ⟨⟨_, m_f0_13, r_f0_13⟩, x_GFRB_p0, trivial⟩)⟩, hw.1, hw.2.2.2.2.1⟩, by rw [ht]; exact hw.2.1, va_K.moved hW.alike hK, hw.2.2.1⟩, hw.2.2.2.1.F ht⟩) hw.2.2.2.1.2.2 dX10_put_15
