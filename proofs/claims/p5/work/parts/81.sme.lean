abbrev wr_X10_wordOf__9 : List (Nat × Nat) := []
abbrev wa_X10_wordOf__9 : List Nat := []
set_option maxHeartbeats 4000000 in
set_option maxRecDepth 100000 in
theorem c_X10_wordOf__9 (l : Launch) (D : va_G) (cy : Nat → ClassId) (z : Nat → Nat) (sz : Nat) (Ps : PSI) (w0 : va_W) (hT : HT cy GG Ps w0) (p0 : Int32) (r_p0 : RI p0 (-2147483648) 2147483647) : Met l yX10_wordOf (Cond.code yX10_wordOf cX10_wordOf 1 (some .long) :: gT) ({ frames := 2, cells := 0, slots := 0, locals := 400 } : Room) (va_Pc [.int p0] (PRE D cy z w0 sz)) (va_Ql (fun (r : Int64) (u : Unit) => ((f_X10_wordOf__7 p0) = r ∧ True) ∧ (RJ r 257 8935713994)) (BB D cy (va_A w0 sz) (fun (u : Unit) => w0)) (va_A w0 sz)) 0 0 (va_A w0 sz) := by
  refine Met.ofW (cc := cX10_wordOf) (maxL := 1) (ret := (some .long)) (by decide) rfl ?_
  intro p e s m args below meth c s₁ B hml hv
  obtain ⟨rfl, hsz, hP, hK, hD0, hSD⟩ := hv
  have hx := B.exec
  have hb := B.bytes
  have hr := B.returns
  have hlocks := B.notSynchronized
  have hts : ∀ w ∈ gT, w.before _ s = true := fun w h => atoms_spec (ws := Cond.code yX10_wordOf cX10_wordOf 1 (some .long) :: gT) B.pre w (List.mem_cons_of_mem _ h)
  have hown : s.vm.findClass RX10 = some m.cls := findClass_of_methodNamed B.named
  subst hsz
  have hD := hD0.self (sz := s.heap.size)
  generalize hAe : va_A w0 s.heap.size = A at hD hSD ⊢
  have hA : ∀ q : Nat, s.heap.size ≤ q → A q := fun q h => by rw [← hAe]; exact Or.inr h
  have hl := lv_entry ([.int p0]) (n := 1) (Nat.le_of_ble_eq_true rfl)
  rw [lg_entry_eq]
  generalize (lg_sl ([.int p0]) ++ List.replicate (1 - (lg_sl ([.int p0])).length) Slot.unset).toArray = ls at hl ⊢
  have hl : lv_has ls 1 [(0, .int p0)] := hl
  refine nameQ (fun Q hQ => ?_)
  have hw : WD D cy GG A s wr_X10_wordOf__9 wa_X10_wordOf__9 Ps w0 Ps w0 s.heap [] := ⟨hT, hP, hD, va_S.rf, FR.rf, hT.1, [], (List.append_nil _).symm⟩
  obtain ⟨R9, hR⟩ : ∃ q9 : Int64, f_X10_wordOf__7 p0 = q9 := ⟨_, rfl⟩
  have hE := hR
  refine lv_iload_n hx hb dX10_wordOf_0 rfl (lv_at hl 0 rfl) ?_
  have w_1 := r_p0
  by_cases cl_1 : p0.toInt < 0 ∨ 26 < p0.toInt
  · refine lv_tableOut (tgt := 547) hx hb dX10_wordOf_1 cl_1 (by decide) ?_
    refine lv_bipush (v := 110) hx hb dX10_wordOf_547 (by decide) ?_
    refine lv_bipush (v := 117) hx hb dX10_wordOf_549 (by decide) ?_
    refine lv_bipush (v := 109) hx hb dX10_wordOf_551 (by decide) ?_
    refine lv_bipush (v := 98) hx hb dX10_wordOf_553 (by decide) ?_
    refine lv_bipush (v := 101) hx hb dX10_wordOf_555 (by decide) ?_
    refine lv_bipush (v := 114) hx hb dX10_wordOf_557 (by decide) ?_
    refine lv_iconst (v := 0) hx hb dX10_wordOf_559 (by decide) ?_
    refine tk_lr (va_runS (As := [.int 110, .int 117, .int 109, .int 98, .int 101, .int 114, .int 0]) (rest := []) ⟨hx, hb, hml, hown, hts⟩ (c_X10_spelt__58 l D cy z s.heap.size Ps w0 hw.1 110 117 109 98 101 114 0 rl_110 rl_117 rl_109 rl_98 rl_101 rl_114 rl_0) (va_cwS 7 hts (gS tw_1325 tw_1326 tw_15 tw_1327) rfl rfl rfl (by decide +kernel) ⟨Nat.le_of_ble_eq_true rfl, Nat.le_of_ble_eq_true rfl⟩) (tg_preS hw hK hSD hA) rfl rfl hl.1 rfl (lv_room (Nat.le_of_ble_eq_true rfl)) dX10_wordOf_560 ⟨Nat.le_of_ble_eq_true rfl, Nat.le_of_ble_eq_true rfl⟩) hw hA (fun v_1  H locs hp_v_1 hw => ?_)
    obtain ⟨hfn, hp_v_1⟩ := hp_v_1
    have q_v_1 : (f_X10_spelt__30 (110 : Int32) (117 : Int32) (109 : Int32) (98 : Int32) (101 : Int32) (114 : Int32) (0 : Int32)) = v_1 := hfn.1
    have r_v_1 : RJ v_1 212302449 212302449 := hp_v_1
    simp only [f_X10_wordOf__7, ↓reduceIte, eq_true cl_1, q_v_1] at hE
    subst hQ
    exact W.lret (v := v_1) hx hb hr (fun t ht hW => ⟨⟨v_1, (), rfl, ⟨⟨(by rw [hR, ← hE]), trivial⟩, r_v_1.to (by decide)⟩, by rw [ht]; exact hw.2.1, va_K.moved hW.alike hK, hw.2.2.1⟩, hw.2.2.2.1.F ht⟩) hw.2.2.2.1.2.2 dX10_wordOf_563
  · have e_1 : p0.toInt = 0 ∨ p0.toInt = 1 ∨ p0.toInt = 2 ∨ p0.toInt = 3 ∨ p0.toInt = 4 ∨ p0.toInt = 5 ∨ p0.toInt = 6 ∨ p0.toInt = 7 ∨ p0.toInt = 8 ∨ p0.toInt = 9 ∨ p0.toInt = 10 ∨ p0.toInt = 11 ∨ p0.toInt = 12 ∨ p0.toInt = 13 ∨ p0.toInt = 14 ∨ p0.toInt = 15 ∨ p0.toInt = 16 ∨ p0.toInt = 17 ∨ p0.toInt = 18 ∨ p0.toInt = 19 ∨ p0.toInt = 20 ∨ p0.toInt = 21 ∨ p0.toInt = 22 ∨ p0.toInt = 23 ∨ p0.toInt = 24 ∨ p0.toInt = 25 ∨ p0.toInt = 26 := by omega
    rcases e_1 with h_1 | h_1 | h_1 | h_1 | h_1 | h_1 | h_1 | h_1 | h_1 | h_1 | h_1 | h_1 | h_1 | h_1 | h_1 | h_1 | h_1 | h_1 | h_1 | h_1 | h_1 | h_1 | h_1 | h_1 | h_1 | h_1 | h_1
    · refine lv_tableIn (tgt := 124) (off := 123) hx hb dX10_wordOf_1 (by omega) (by omega) (by rw [h_1]; rfl) (by decide) ?_
      have r_p0 : RI p0 0 0 := ⟨by omega, by omega⟩
      refine lv_bipush (v := 105) hx hb dX10_wordOf_124 (by decide) ?_
      refine lv_bipush (v := 100) hx hb dX10_wordOf_126 (by decide) ?_
      refine lv_bipush (v := 101) hx hb dX10_wordOf_128 (by decide) ?_
      refine lv_bipush (v := 97) hx hb dX10_wordOf_130 (by decide) ?_
      refine lv_iconst (v := 0) hx hb dX10_wordOf_132 (by decide) ?_
      refine lv_iconst (v := 0) hx hb dX10_wordOf_133 (by decide) ?_
      refine lv_iconst (v := 0) hx hb dX10_wordOf_134 (by decide) ?_
      refine tk_lr (va_runS (As := [.int 105, .int 100, .int 101, .int 97, .int 0, .int 0, .int 0]) (rest := []) ⟨hx, hb, hml, hown, hts⟩ (c_X10_spelt__59 l D cy z s.heap.size Ps w0 hw.1 105 100 101 97 0 0 0 rl_105 rl_100 rl_101 rl_97 rl_0 rl_0 rl_0) (va_cwS 7 hts (gS tw_1325 tw_1326 tw_15 tw_1327) rfl rfl rfl (by decide +kernel) ⟨Nat.le_of_ble_eq_true rfl, Nat.le_of_ble_eq_true rfl⟩) (tg_preS hw hK hSD hA) rfl rfl hl.1 rfl (lv_room (Nat.le_of_ble_eq_true rfl)) dX10_wordOf_135 ⟨Nat.le_of_ble_eq_true rfl, Nat.le_of_ble_eq_true rfl⟩) hw hA (fun v_2  H locs hp_v_2 hw => ?_)
      obtain ⟨hfn, hp_v_2⟩ := hp_v_2
      have q_v_2 : (f_X10_spelt__31 (105 : Int32) (100 : Int32) (101 : Int32) (97 : Int32) (0 : Int32) (0 : Int32) (0 : Int32)) = v_2 := hfn.1
      have r_v_2 : RJ v_2 180199 180199 := hp_v_2
      simp only [f_X10_wordOf__7, ↓reduceIte, eq_false cl_1, eq_true h_1, q_v_2] at hE
      subst hQ
      exact W.lret (v := v_2) hx hb hr (fun t ht hW => ⟨⟨v_2, (), rfl, ⟨⟨(by rw [hR, ← hE]), trivial⟩, r_v_2.to (by decide)⟩, by rw [ht]; exact hw.2.1, va_K.moved hW.alike hK, hw.2.2.1⟩, hw.2.2.2.1.F ht⟩) hw.2.2.2.1.2.2 dX10_wordOf_138
    · refine lv_tableIn (tgt := 139) (off := 138) hx hb dX10_wordOf_1 (by omega) (by omega) (by rw [h_1]; rfl) (by decide) ?_
      have r_p0 : RI p0 1 1 := ⟨by omega, by omega⟩
      have n_1_0 : ¬ (p0.toInt = 0) := by omega
      refine lv_bipush (v := 114) hx hb dX10_wordOf_139 (by decide) ?_
      refine lv_bipush (v := 111) hx hb dX10_wordOf_141 (by decide) ?_
      refine lv_bipush (v := 111) hx hb dX10_wordOf_143 (by decide) ?_
      refine lv_bipush (v := 109) hx hb dX10_wordOf_145 (by decide) ?_
      refine lv_iconst (v := 0) hx hb dX10_wordOf_147 (by decide) ?_
      refine lv_iconst (v := 0) hx hb dX10_wordOf_148 (by decide) ?_
      refine lv_iconst (v := 0) hx hb dX10_wordOf_149 (by decide) ?_
      refine tk_lr (va_runS (As := [.int 114, .int 111, .int 111, .int 109, .int 0, .int 0, .int 0]) (rest := []) ⟨hx, hb, hml, hown, hts⟩ (c_X10_spelt__60 l D cy z s.heap.size Ps w0 hw.1 114 111 111 109 0 0 0 rl_114 rl_111 rl_111 rl_109 rl_0 rl_0 rl_0) (va_cwS 7 hts (gS tw_1325 tw_1326 tw_15 tw_1327) rfl rfl rfl (by decide +kernel) ⟨Nat.le_of_ble_eq_true rfl, Nat.le_of_ble_eq_true rfl⟩) (tg_preS hw hK hSD hA) rfl rfl hl.1 rfl (lv_room (Nat.le_of_ble_eq_true rfl)) dX10_wordOf_150 ⟨Nat.le_of_ble_eq_true rfl, Nat.le_of_ble_eq_true rfl⟩) hw hA (fun v_3  H locs hp_v_3 hw => ?_)
      obtain ⟨hfn, hp_v_3⟩ := hp_v_3
      have q_v_3 : (f_X10_spelt__31 (114 : Int32) (111 : Int32) (111 : Int32) (109 : Int32) (0 : Int32) (0 : Int32) (0 : Int32)) = v_3 := hfn.1
      have r_v_3 : RJ v_3 365647 365647 := hp_v_3
      simp only [f_X10_wordOf__7, ↓reduceIte, eq_false cl_1, eq_false n_1_0, eq_true h_1, q_v_3] at hE
      subst hQ
      exact W.lret (v := v_3) hx hb hr (fun t ht hW => ⟨⟨v_3, (), rfl, ⟨⟨(by rw [hR, ← hE]), trivial⟩, r_v_3.to (by decide)⟩, by rw [ht]; exact hw.2.1, va_K.moved hW.alike hK, hw.2.2.1⟩, hw.2.2.2.1.F ht⟩) hw.2.2.2.1.2.2 dX10_wordOf_153
    · refine lv_tableIn (tgt := 154) (off := 153) hx hb dX10_wordOf_1 (by omega) (by omega) (by rw [h_1]; rfl) (by decide) ?_
      have r_p0 : RI p0 2 2 := ⟨by omega, by omega⟩
      have n_1_0 : ¬ (p0.toInt = 0) := by omega
      have n_1_1 : ¬ (p0.toInt = 1) := by omega
      refine lv_bipush (v := 112) hx hb dX10_wordOf_154 (by decide) ?_
      refine lv_bipush (v := 97) hx hb dX10_wordOf_156 (by decide) ?_
      refine lv_bipush (v := 114) hx hb dX10_wordOf_158 (by decide) ?_
      refine lv_bipush (v := 99) hx hb dX10_wordOf_160 (by decide) ?_
      refine lv_bipush (v := 101) hx hb dX10_wordOf_162 (by decide) ?_
      refine lv_bipush (v := 108) hx hb dX10_wordOf_164 (by decide) ?_
      refine lv_iconst (v := 0) hx hb dX10_wordOf_166 (by decide) ?_
      refine tk_lr (va_runS (As := [.int 112, .int 97, .int 114, .int 99, .int 101, .int 108, .int 0]) (rest := []) ⟨hx, hb, hml, hown, hts⟩ (c_X10_spelt__61 l D cy z s.heap.size Ps w0 hw.1 112 97 114 99 101 108 0 rl_112 rl_97 rl_114 rl_99 rl_101 rl_108 rl_0) (va_cwS 7 hts (gS tw_1325 tw_1326 tw_15 tw_1327) rfl rfl rfl (by decide +kernel) ⟨Nat.le_of_ble_eq_true rfl, Nat.le_of_ble_eq_true rfl⟩) (tg_preS hw hK hSD hA) rfl rfl hl.1 rfl (lv_room (Nat.le_of_ble_eq_true rfl)) dX10_wordOf_167 ⟨Nat.le_of_ble_eq_true rfl, Nat.le_of_ble_eq_true rfl⟩) hw hA (fun v_4  H locs hp_v_4 hw => ?_)
      obtain ⟨hfn, hp_v_4⟩ := hp_v_4
      have q_v_4 : (f_X10_spelt__30 (112 : Int32) (97 : Int32) (114 : Int32) (99 : Int32) (101 : Int32) (108 : Int32) (0 : Int32)) = v_4 := hfn.1
      have r_v_4 : RJ v_4 230470581 230470581 := hp_v_4
      simp only [f_X10_wordOf__7, ↓reduceIte, eq_false cl_1, eq_false n_1_0, eq_false n_1_1, eq_true h_1, q_v_4] at hE
      subst hQ
      exact W.lret (v := v_4) hx hb hr (fun t ht hW => ⟨⟨v_4, (), rfl, ⟨⟨(by rw [hR, ← hE]), trivial⟩, r_v_4.to (by decide)⟩, by rw [ht]; exact hw.2.1, va_K.moved hW.alike hK, hw.2.2.1⟩, hw.2.2.2.1.F ht⟩) hw.2.2.2.1.2.2 dX10_wordOf_170
    · refine lv_tableIn (tgt := 171) (off := 170) hx hb dX10_wordOf_1 (by omega) (by omega) (by rw [h_1]; rfl) (by decide) ?_
      have r_p0 : RI p0 3 3 := ⟨by omega, by omega⟩
      have n_1_0 : ¬ (p0.toInt = 0) := by omega
      have n_1_1 : ¬ (p0.toInt = 1) := by omega
      have n_1_2 : ¬ (p0.toInt = 2) := by omega
      refine lv_bipush (v := 112) hx hb dX10_wordOf_171 (by decide) ?_
      refine lv_bipush (v := 101) hx hb dX10_wordOf_173 (by decide) ?_
      refine lv_bipush (v := 114) hx hb dX10_wordOf_175 (by decide) ?_
      refine lv_bipush (v := 115) hx hb dX10_wordOf_177 (by decide) ?_
      refine lv_bipush (v := 111) hx hb dX10_wordOf_179 (by decide) ?_
      refine lv_bipush (v := 110) hx hb dX10_wordOf_181 (by decide) ?_
      refine lv_iconst (v := 0) hx hb dX10_wordOf_183 (by decide) ?_
      refine tk_lr (va_runS (As := [.int 112, .int 101, .int 114, .int 115, .int 111, .int 110, .int 0]) (rest := []) ⟨hx, hb, hml, hown, hts⟩ (c_X10_spelt__62 l D cy z s.heap.size Ps w0 hw.1 112 101 114 115 111 110 0 rl_112 rl_101 rl_114 rl_115 rl_111 rl_110 rl_0) (va_cwS 7 hts (gS tw_1325 tw_1326 tw_15 tw_1327) rfl rfl rfl (by decide +kernel) ⟨Nat.le_of_ble_eq_true rfl, Nat.le_of_ble_eq_true rfl⟩) (tg_preS hw hK hSD hA) rfl rfl hl.1 rfl (lv_room (Nat.le_of_ble_eq_true rfl)) dX10_wordOf_184 ⟨Nat.le_of_ble_eq_true rfl, Nat.le_of_ble_eq_true rfl⟩) hw hA (fun v_5  H locs hp_v_5 hw => ?_)
      obtain ⟨hfn, hp_v_5⟩ := hp_v_5
      have q_v_5 : (f_X10_spelt__30 (112 : Int32) (101 : Int32) (114 : Int32) (115 : Int32) (111 : Int32) (110 : Int32) (0 : Int32)) = v_5 := hfn.1
      have r_v_5 : RJ v_5 232608281 232608281 := hp_v_5
      simp only [f_X10_wordOf__7, ↓reduceIte, eq_false cl_1, eq_false n_1_0, eq_false n_1_1, eq_false n_1_2, eq_true h_1, q_v_5] at hE
      subst hQ
      exact W.lret (v := v_5) hx hb hr (fun t ht hW => ⟨⟨v_5, (), rfl, ⟨⟨(by rw [hR, ← hE]), trivial⟩, r_v_5.to (by decide)⟩, by rw [ht]; exact hw.2.1, va_K.moved hW.alike hK, hw.2.2.1⟩, hw.2.2.2.1.F ht⟩) hw.2.2.2.1.2.2 dX10_wordOf_187
    · refine lv_tableIn (tgt := 188) (off := 187) hx hb dX10_wordOf_1 (by omega) (by omega) (by rw [h_1]; rfl) (by decide) ?_
      have r_p0 : RI p0 4 4 := ⟨by omega, by omega⟩
      have n_1_0 : ¬ (p0.toInt = 0) := by omega
      have n_1_1 : ¬ (p0.toInt = 1) := by omega
      have n_1_2 : ¬ (p0.toInt = 2) := by omega
      have n_1_3 : ¬ (p0.toInt = 3) := by omega
      refine lv_bipush (v := 115) hx hb dX10_wordOf_188 (by decide) ?_
      refine lv_bipush (v := 105) hx hb dX10_wordOf_190 (by decide) ?_
      refine lv_bipush (v := 116) hx hb dX10_wordOf_192 (by decide) ?_
      refine lv_bipush (v := 115) hx hb dX10_wordOf_194 (by decide) ?_
      refine lv_iconst (v := 0) hx hb dX10_wordOf_196 (by decide) ?_
      refine lv_iconst (v := 0) hx hb dX10_wordOf_197 (by decide) ?_
      refine lv_iconst (v := 0) hx hb dX10_wordOf_198 (by decide) ?_
      refine tk_lr (va_runS (As := [.int 115, .int 105, .int 116, .int 115, .int 0, .int 0, .int 0]) (rest := []) ⟨hx, hb, hml, hown, hts⟩ (c_X10_spelt__63 l D cy z s.heap.size Ps w0 hw.1 115 105 116 115 0 0 0 rl_115 rl_105 rl_116 rl_115 rl_0 rl_0 rl_0) (va_cwS 7 hts (gS tw_1325 tw_1326 tw_15 tw_1327) rfl rfl rfl (by decide +kernel) ⟨Nat.le_of_ble_eq_true rfl, Nat.le_of_ble_eq_true rfl⟩) (tg_preS hw hK hSD hA) rfl rfl hl.1 rfl (lv_room (Nat.le_of_ble_eq_true rfl)) dX10_wordOf_199 ⟨Nat.le_of_ble_eq_true rfl, Nat.le_of_ble_eq_true rfl⟩) hw hA (fun v_6  H locs hp_v_6 hw => ?_)
      obtain ⟨hfn, hp_v_6⟩ := hp_v_6
      have q_v_6 : (f_X10_spelt__31 (115 : Int32) (105 : Int32) (116 : Int32) (115 : Int32) (0 : Int32) (0 : Int32) (0 : Int32)) = v_6 := hfn.1
      have r_v_6 : RJ v_6 381097 381097 := hp_v_6
      simp only [f_X10_wordOf__7, ↓reduceIte, eq_false cl_1, eq_false n_1_0, eq_false n_1_1, eq_false n_1_2, eq_false n_1_3, eq_true h_1, q_v_6] at hE
      subst hQ
      exact W.lret (v := v_6) hx hb hr (fun t ht hW => ⟨⟨v_6, (), rfl, ⟨⟨(by rw [hR, ← hE]), trivial⟩, r_v_6.to (by decide)⟩, by rw [ht]; exact hw.2.1, va_K.moved hW.alike hK, hw.2.2.1⟩, hw.2.2.2.1.F ht⟩) hw.2.2.2.1.2.2 dX10_wordOf_202
    · refine lv_tableIn (tgt := 203) (off := 202) hx hb dX10_wordOf_1 (by omega) (by omega) (by rw [h_1]; rfl) (by decide) ?_
      have r_p0 : RI p0 5 5 := ⟨by omega, by omega⟩
      have n_1_0 : ¬ (p0.toInt = 0) := by omega
      have n_1_1 : ¬ (p0.toInt = 1) := by omega
      have n_1_2 : ¬ (p0.toInt = 2) := by omega
      have n_1_3 : ¬ (p0.toInt = 3) := by omega
      have n_1_4 : ¬ (p0.toInt = 4) := by omega
      refine lv_bipush (v := 104) hx hb dX10_wordOf_203 (by decide) ?_
      refine lv_bipush (v := 97) hx hb dX10_wordOf_205 (by decide) ?_
      refine lv_bipush (v := 115) hx hb dX10_wordOf_207 (by decide) ?_
      refine lv_iconst (v := 0) hx hb dX10_wordOf_209 (by decide) ?_
      refine lv_iconst (v := 0) hx hb dX10_wordOf_210 (by decide) ?_
      refine lv_iconst (v := 0) hx hb dX10_wordOf_211 (by decide) ?_
      refine lv_iconst (v := 0) hx hb dX10_wordOf_212 (by decide) ?_
      refine tk_lr (va_runS (As := [.int 104, .int 97, .int 115, .int 0, .int 0, .int 0, .int 0]) (rest := []) ⟨hx, hb, hml, hown, hts⟩ (c_X10_spelt__64 l D cy z s.heap.size Ps w0 hw.1 104 97 115 0 0 0 0 rl_104 rl_97 rl_115 rl_0 rl_0 rl_0 rl_0) (va_cwS 7 hts (gS tw_1325 tw_1326 tw_15 tw_1327) rfl rfl rfl (by decide +kernel) ⟨Nat.le_of_ble_eq_true rfl, Nat.le_of_ble_eq_true rfl⟩) (tg_preS hw hK hSD hA) rfl rfl hl.1 rfl (lv_room (Nat.le_of_ble_eq_true rfl)) dX10_wordOf_213 ⟨Nat.le_of_ble_eq_true rfl, Nat.le_of_ble_eq_true rfl⟩) hw hA (fun v_7  H locs hp_v_7 hw => ?_)
      obtain ⟨hfn, hp_v_7⟩ := hp_v_7
      have q_v_7 : (f_X10_spelt__36 (104 : Int32) (97 : Int32) (115 : Int32) (0 : Int32) (0 : Int32) (0 : Int32) (0 : Int32)) = v_7 := hfn.1
      have r_v_7 : RJ v_7 5878 5878 := hp_v_7
      simp only [f_X10_wordOf__7, ↓reduceIte, eq_false cl_1, eq_false n_1_0, eq_false n_1_1, eq_false n_1_2, eq_false n_1_3, eq_false n_1_4, eq_true h_1, q_v_7] at hE
      subst hQ
      exact W.lret (v := v_7) hx hb hr (fun t ht hW => ⟨⟨v_7, (), rfl, ⟨⟨(by rw [hR, ← hE]), trivial⟩, r_v_7.to (by decide)⟩, by rw [ht]; exact hw.2.1, va_K.moved hW.alike hK, hw.2.2.1⟩, hw.2.2.2.1.F ht⟩) hw.2.2.2.1.2.2 dX10_wordOf_216
    · refine lv_tableIn (tgt := 217) (off := 216) hx hb dX10_wordOf_1 (by omega) (by omega) (by rw [h_1]; rfl) (by decide) ?_
      have r_p0 : RI p0 6 6 := ⟨by omega, by omega⟩
      have n_1_0 : ¬ (p0.toInt = 0) := by omega
      have n_1_1 : ¬ (p0.toInt = 1) := by omega
      have n_1_2 : ¬ (p0.toInt = 2) := by omega
      have n_1_3 : ¬ (p0.toInt = 3) := by omega
      have n_1_4 : ¬ (p0.toInt = 4) := by omega
      have n_1_5 : ¬ (p0.toInt = 5) := by omega
      refine lv_bipush (v := 113) hx hb dX10_wordOf_217 (by decide) ?_
      refine lv_bipush (v := 117) hx hb dX10_wordOf_219 (by decide) ?_
      refine lv_bipush (v := 97) hx hb dX10_wordOf_221 (by decide) ?_
      refine lv_bipush (v := 114) hx hb dX10_wordOf_223 (by decide) ?_
      refine lv_bipush (v := 114) hx hb dX10_wordOf_225 (by decide) ?_
      refine lv_bipush (v := 101) hx hb dX10_wordOf_227 (by decide) ?_
      refine lv_bipush (v := 108) hx hb dX10_wordOf_229 (by decide) ?_
      refine tk_lr (va_runS (As := [.int 113, .int 117, .int 97, .int 114, .int 114, .int 101, .int 108]) (rest := []) ⟨hx, hb, hml, hown, hts⟩ (c_X10_spelt__65 l D cy z s.heap.size Ps w0 hw.1 113 117 97 114 114 101 108 rl_113 rl_117 rl_97 rl_114 rl_114 rl_101 rl_108) (va_cwS 7 hts (gS tw_1325 tw_1326 tw_15 tw_1327) rfl rfl rfl (by decide +kernel) ⟨Nat.le_of_ble_eq_true rfl, Nat.le_of_ble_eq_true rfl⟩) (tg_preS hw hK hSD hA) rfl rfl hl.1 rfl (lv_room (Nat.le_of_ble_eq_true rfl)) dX10_wordOf_231 ⟨Nat.le_of_ble_eq_true rfl, Nat.le_of_ble_eq_true rfl⟩) hw hA (fun v_8  H locs hp_v_8 hw => ?_)
      obtain ⟨hfn, hp_v_8⟩ := hp_v_8
      have q_v_8 : (f_X10_spelt__37 (113 : Int32) (117 : Int32) (97 : Int32) (114 : Int32) (114 : Int32) (101 : Int32) (108 : Int32)) = v_8 := hfn.1
      have r_v_8 : RJ v_8 6888374364 6888374364 := hp_v_8
      simp only [f_X10_wordOf__7, ↓reduceIte, eq_false cl_1, eq_false n_1_0, eq_false n_1_1, eq_false n_1_2, eq_false n_1_3, eq_false n_1_4, eq_false n_1_5, eq_true h_1, q_v_8] at hE
      subst hQ
      exact W.lret (v := v_8) hx hb hr (fun t ht hW => ⟨⟨v_8, (), rfl, ⟨⟨(by rw [hR, ← hE]), trivial⟩, r_v_8.to (by decide)⟩, by rw [ht]; exact hw.2.1, va_K.moved hW.alike hK, hw.2.2.1⟩, hw.2.2.2.1.F ht⟩) hw.2.2.2.1.2.2 dX10_wordOf_234
    · refine lv_tableIn (tgt := 235) (off := 234) hx hb dX10_wordOf_1 (by omega) (by omega) (by rw [h_1]; rfl) (by decide) ?_
      have r_p0 : RI p0 7 7 := ⟨by omega, by omega⟩
      have n_1_0 : ¬ (p0.toInt = 0) := by omega
      have n_1_1 : ¬ (p0.toInt = 1) := by omega
      have n_1_2 : ¬ (p0.toInt = 2) := by omega
      have n_1_3 : ¬ (p0.toInt = 3) := by omega
      have n_1_4 : ¬ (p0.toInt = 4) := by omega
      have n_1_5 : ¬ (p0.toInt = 5) := by omega
      have n_1_6 : ¬ (p0.toInt = 6) := by omega
      refine lv_bipush (v := 108) hx hb dX10_wordOf_235 (by decide) ?_
      refine lv_bipush (v := 101) hx hb dX10_wordOf_237 (by decide) ?_
      refine lv_bipush (v := 97) hx hb dX10_wordOf_239 (by decide) ?_
      refine lv_bipush (v := 107) hx hb dX10_wordOf_241 (by decide) ?_
      refine lv_iconst (v := 0) hx hb dX10_wordOf_243 (by decide) ?_
      refine lv_iconst (v := 0) hx hb dX10_wordOf_244 (by decide) ?_
      refine lv_iconst (v := 0) hx hb dX10_wordOf_245 (by decide) ?_
      refine tk_lr (va_runS (As := [.int 108, .int 101, .int 97, .int 107, .int 0, .int 0, .int 0]) (rest := []) ⟨hx, hb, hml, hown, hts⟩ (c_X10_spelt__66 l D cy z s.heap.size Ps w0 hw.1 108 101 97 107 0 0 0 rl_108 rl_101 rl_97 rl_107 rl_0 rl_0 rl_0) (va_cwS 7 hts (gS tw_1325 tw_1326 tw_15 tw_1327) rfl rfl rfl (by decide +kernel) ⟨Nat.le_of_ble_eq_true rfl, Nat.le_of_ble_eq_true rfl⟩) (tg_preS hw hK hSD hA) rfl rfl hl.1 rfl (lv_room (Nat.le_of_ble_eq_true rfl)) dX10_wordOf_246 ⟨Nat.le_of_ble_eq_true rfl, Nat.le_of_ble_eq_true rfl⟩) hw hA (fun v_9  H locs hp_v_9 hw => ?_)
      obtain ⟨hfn, hp_v_9⟩ := hp_v_9
      have q_v_9 : (f_X10_spelt__31 (108 : Int32) (101 : Int32) (97 : Int32) (107 : Int32) (0 : Int32) (0 : Int32) (0 : Int32)) = v_9 := hfn.1
      have r_v_9 : RJ v_9 239879 239879 := hp_v_9
      simp only [f_X10_wordOf__7, ↓reduceIte, eq_false cl_1, eq_false n_1_0, eq_false n_1_1, eq_false n_1_2, eq_false n_1_3, eq_false n_1_4, eq_false n_1_5, eq_false n_1_6, eq_true h_1, q_v_9] at hE
      subst hQ
      exact W.lret (v := v_9) hx hb hr (fun t ht hW => ⟨⟨v_9, (), rfl, ⟨⟨(by rw [hR, ← hE]), trivial⟩, r_v_9.to (by decide)⟩, by rw [ht]; exact hw.2.1, va_K.moved hW.alike hK, hw.2.2.1⟩, hw.2.2.2.1.F ht⟩) hw.2.2.2.1.2.2 dX10_wordOf_249
    · refine lv_tableIn (tgt := 250) (off := 249) hx hb dX10_wordOf_1 (by omega) (by omega) (by rw [h_1]; rfl) (by decide) ?_
      have r_p0 : RI p0 8 8 := ⟨by omega, by omega⟩
      have n_1_0 : ¬ (p0.toInt = 0) := by omega
      have n_1_1 : ¬ (p0.toInt = 1) := by omega
      have n_1_2 : ¬ (p0.toInt = 2) := by omega
      have n_1_3 : ¬ (p0.toInt = 3) := by omega
      have n_1_4 : ¬ (p0.toInt = 4) := by omega
      have n_1_5 : ¬ (p0.toInt = 5) := by omega
      have n_1_6 : ¬ (p0.toInt = 6) := by omega
      have n_1_7 : ¬ (p0.toInt = 7) := by omega
      refine lv_bipush (v := 103) hx hb dX10_wordOf_250 (by decide) ?_
      refine lv_bipush (v := 117) hx hb dX10_wordOf_252 (by decide) ?_
      refine lv_bipush (v := 101) hx hb dX10_wordOf_254 (by decide) ?_
      refine lv_bipush (v := 115) hx hb dX10_wordOf_256 (by decide) ?_
      refine lv_bipush (v := 115) hx hb dX10_wordOf_258 (by decide) ?_
      refine lv_iconst (v := 0) hx hb dX10_wordOf_260 (by decide) ?_
      refine lv_iconst (v := 0) hx hb dX10_wordOf_261 (by decide) ?_
      refine tk_lr (va_runS (As := [.int 103, .int 117, .int 101, .int 115, .int 115, .int 0, .int 0]) (rest := []) ⟨hx, hb, hml, hown, hts⟩ (c_X10_spelt__67 l D cy z s.heap.size Ps w0 hw.1 103 117 101 115 115 0 0 rl_103 rl_117 rl_101 rl_115 rl_115 rl_0 rl_0) (va_cwS 7 hts (gS tw_1325 tw_1326 tw_15 tw_1327) rfl rfl rfl (by decide +kernel) ⟨Nat.le_of_ble_eq_true rfl, Nat.le_of_ble_eq_true rfl⟩) (tg_preS hw hK hSD hA) rfl rfl hl.1 rfl (lv_room (Nat.le_of_ble_eq_true rfl)) dX10_wordOf_262 ⟨Nat.le_of_ble_eq_true rfl, Nat.le_of_ble_eq_true rfl⟩) hw hA (fun v_10  H locs hp_v_10 hw => ?_)
      obtain ⟨hfn, hp_v_10⟩ := hp_v_10
      have q_v_10 : (f_X10_spelt__39 (103 : Int32) (117 : Int32) (101 : Int32) (115 : Int32) (115 : Int32) (0 : Int32) (0 : Int32)) = v_10 := hfn.1
      have r_v_10 : RJ v_10 4137607 4137607 := hp_v_10
      simp only [f_X10_wordOf__7, ↓reduceIte, eq_false cl_1, eq_false n_1_0, eq_false n_1_1, eq_false n_1_2, eq_false n_1_3, eq_false n_1_4, eq_false n_1_5, eq_false n_1_6, eq_false n_1_7, eq_true h_1, q_v_10] at hE
      subst hQ
      exact W.lret (v := v_10) hx hb hr (fun t ht hW => ⟨⟨v_10, (), rfl, ⟨⟨(by rw [hR, ← hE]), trivial⟩, r_v_10.to (by decide)⟩, by rw [ht]; exact hw.2.1, va_K.moved hW.alike hK, hw.2.2.1⟩, hw.2.2.2.1.F ht⟩) hw.2.2.2.1.2.2 dX10_wordOf_265
    · refine lv_tableIn (tgt := 266) (off := 265) hx hb dX10_wordOf_1 (by omega) (by omega) (by rw [h_1]; rfl) (by decide) ?_
      have r_p0 : RI p0 9 9 := ⟨by omega, by omega⟩
      have n_1_0 : ¬ (p0.toInt = 0) := by omega
      have n_1_1 : ¬ (p0.toInt = 1) := by omega
      have n_1_2 : ¬ (p0.toInt = 2) := by omega
      have n_1_3 : ¬ (p0.toInt = 3) := by omega
      have n_1_4 : ¬ (p0.toInt = 4) := by omega
      have n_1_5 : ¬ (p0.toInt = 5) := by omega
      have n_1_6 : ¬ (p0.toInt = 6) := by omega
      have n_1_7 : ¬ (p0.toInt = 7) := by omega
      have n_1_8 : ¬ (p0.toInt = 8) := by omega
      refine lv_bipush (v := 106) hx hb dX10_wordOf_266 (by decide) ?_
      refine lv_bipush (v := 111) hx hb dX10_wordOf_268 (by decide) ?_
      refine lv_bipush (v := 105) hx hb dX10_wordOf_270 (by decide) ?_
      refine lv_bipush (v := 110) hx hb dX10_wordOf_272 (by decide) ?_
      refine lv_bipush (v := 115) hx hb dX10_wordOf_274 (by decide) ?_
      refine lv_iconst (v := 0) hx hb dX10_wordOf_276 (by decide) ?_
      refine lv_iconst (v := 0) hx hb dX10_wordOf_277 (by decide) ?_
      refine tk_lr (va_runS (As := [.int 106, .int 111, .int 105, .int 110, .int 115, .int 0, .int 0]) (rest := []) ⟨hx, hb, hml, hown, hts⟩ (c_X10_spelt__68 l D cy z s.heap.size Ps w0 hw.1 106 111 105 110 115 0 0 rl_106 rl_111 rl_105 rl_110 rl_115 rl_0 rl_0) (va_cwS 7 hts (gS tw_1325 tw_1326 tw_15 tw_1327) rfl rfl rfl (by decide +kernel) ⟨Nat.le_of_ble_eq_true rfl, Nat.le_of_ble_eq_true rfl⟩) (tg_preS hw hK hSD hA) rfl rfl hl.1 rfl (lv_room (Nat.le_of_ble_eq_true rfl)) dX10_wordOf_278 ⟨Nat.le_of_ble_eq_true rfl, Nat.le_of_ble_eq_true rfl⟩) hw hA (fun v_11  H locs hp_v_11 hw => ?_)
      obtain ⟨hfn, hp_v_11⟩ := hp_v_11
      have q_v_11 : (f_X10_spelt__39 (106 : Int32) (111 : Int32) (105 : Int32) (110 : Int32) (115 : Int32) (0 : Int32) (0 : Int32)) = v_11 := hfn.1
      have r_v_11 : RJ v_11 5616613 5616613 := hp_v_11
      simp only [f_X10_wordOf__7, ↓reduceIte, eq_false cl_1, eq_false n_1_0, eq_false n_1_1, eq_false n_1_2, eq_false n_1_3, eq_false n_1_4, eq_false n_1_5, eq_false n_1_6, eq_false n_1_7, eq_false n_1_8, eq_true h_1, q_v_11] at hE
      subst hQ
      exact W.lret (v := v_11) hx hb hr (fun t ht hW => ⟨⟨v_11, (), rfl, ⟨⟨(by rw [hR, ← hE]), trivial⟩, r_v_11.to (by decide)⟩, by rw [ht]; exact hw.2.1, va_K.moved hW.alike hK, hw.2.2.1⟩, hw.2.2.2.1.F ht⟩) hw.2.2.2.1.2.2 dX10_wordOf_281
    · refine lv_tableIn (tgt := 282) (off := 281) hx hb dX10_wordOf_1 (by omega) (by omega) (by rw [h_1]; rfl) (by decide) ?_
      have r_p0 : RI p0 10 10 := ⟨by omega, by omega⟩
      have n_1_0 : ¬ (p0.toInt = 0) := by omega
      have n_1_1 : ¬ (p0.toInt = 1) := by omega
      have n_1_2 : ¬ (p0.toInt = 2) := by omega
      have n_1_3 : ¬ (p0.toInt = 3) := by omega
      have n_1_4 : ¬ (p0.toInt = 4) := by omega
      have n_1_5 : ¬ (p0.toInt = 5) := by omega
      have n_1_6 : ¬ (p0.toInt = 6) := by omega
      have n_1_7 : ¬ (p0.toInt = 7) := by omega
      have n_1_8 : ¬ (p0.toInt = 8) := by omega
      have n_1_9 : ¬ (p0.toInt = 9) := by omega
      refine lv_bipush (v := 115) hx hb dX10_wordOf_282 (by decide) ?_
      refine lv_bipush (v := 116) hx hb dX10_wordOf_284 (by decide) ?_
      refine lv_bipush (v := 97) hx hb dX10_wordOf_286 (by decide) ?_
      refine lv_bipush (v := 110) hx hb dX10_wordOf_288 (by decide) ?_
      refine lv_bipush (v := 100) hx hb dX10_wordOf_290 (by decide) ?_
      refine lv_bipush (v := 115) hx hb dX10_wordOf_292 (by decide) ?_
      refine lv_iconst (v := 0) hx hb dX10_wordOf_294 (by decide) ?_
      refine tk_lr (va_runS (As := [.int 115, .int 116, .int 97, .int 110, .int 100, .int 115, .int 0]) (rest := []) ⟨hx, hb, hml, hown, hts⟩ (c_X10_spelt__69 l D cy z s.heap.size Ps w0 hw.1 115 116 97 110 100 115 0 rl_115 rl_116 rl_97 rl_110 rl_100 rl_115 rl_0) (va_cwS 7 hts (gS tw_1325 tw_1326 tw_15 tw_1327) rfl rfl rfl (by decide +kernel) ⟨Nat.le_of_ble_eq_true rfl, Nat.le_of_ble_eq_true rfl⟩) (tg_preS hw hK hSD hA) rfl rfl hl.1 rfl (lv_room (Nat.le_of_ble_eq_true rfl)) dX10_wordOf_295 ⟨Nat.le_of_ble_eq_true rfl, Nat.le_of_ble_eq_true rfl⟩) hw hA (fun v_12  H locs hp_v_12 hw => ?_)
      obtain ⟨hfn, hp_v_12⟩ := hp_v_12
      have q_v_12 : (f_X10_spelt__30 (115 : Int32) (116 : Int32) (97 : Int32) (110 : Int32) (100 : Int32) (115 : Int32) (0 : Int32)) = v_12 := hfn.1
      have r_v_12 : RJ v_12 283288069 283288069 := hp_v_12
      simp only [f_X10_wordOf__7, ↓reduceIte, eq_false cl_1, eq_false n_1_0, eq_false n_1_1, eq_false n_1_2, eq_false n_1_3, eq_false n_1_4, eq_false n_1_5, eq_false n_1_6, eq_false n_1_7, eq_false n_1_8, eq_false n_1_9, eq_true h_1, q_v_12] at hE
      subst hQ
      exact W.lret (v := v_12) hx hb hr (fun t ht hW => ⟨⟨v_12, (), rfl, ⟨⟨(by rw [hR, ← hE]), trivial⟩, r_v_12.to (by decide)⟩, by rw [ht]; exact hw.2.1, va_K.moved hW.alike hK, hw.2.2.1⟩, hw.2.2.2.1.F ht⟩) hw.2.2.2.1.2.2 dX10_wordOf_298
    · refine lv_tableIn (tgt := 299) (off := 298) hx hb dX10_wordOf_1 (by omega) (by omega) (by rw [h_1]; rfl) (by decide) ?_
      have r_p0 : RI p0 11 11 := ⟨by omega, by omega⟩
      have n_1_0 : ¬ (p0.toInt = 0) := by omega
      have n_1_1 : ¬ (p0.toInt = 1) := by omega
      have n_1_2 : ¬ (p0.toInt = 2) := by omega
      have n_1_3 : ¬ (p0.toInt = 3) := by omega
      have n_1_4 : ¬ (p0.toInt = 4) := by omega
      have n_1_5 : ¬ (p0.toInt = 5) := by omega
      have n_1_6 : ¬ (p0.toInt = 6) := by omega
      have n_1_7 : ¬ (p0.toInt = 7) := by omega
      have n_1_8 : ¬ (p0.toInt = 8) := by omega
      have n_1_9 : ¬ (p0.toInt = 9) := by omega
      have n_1_10 : ¬ (p0.toInt = 10) := by omega
      refine lv_bipush (v := 119) hx hb dX10_wordOf_299 (by decide) ?_
      refine lv_bipush (v := 105) hx hb dX10_wordOf_301 (by decide) ?_
      refine lv_bipush (v := 115) hx hb dX10_wordOf_303 (by decide) ?_
      refine lv_bipush (v := 104) hx hb dX10_wordOf_305 (by decide) ?_
      refine lv_bipush (v := 101) hx hb dX10_wordOf_307 (by decide) ?_
      refine lv_bipush (v := 115) hx hb dX10_wordOf_309 (by decide) ?_
      refine lv_iconst (v := 0) hx hb dX10_wordOf_311 (by decide) ?_
      refine tk_lr (va_runS (As := [.int 119, .int 105, .int 115, .int 104, .int 101, .int 115, .int 0]) (rest := []) ⟨hx, hb, hml, hown, hts⟩ (c_X10_spelt__70 l D cy z s.heap.size Ps w0 hw.1 119 105 115 104 101 115 0 rl_119 rl_105 rl_115 rl_104 rl_101 rl_115 rl_0) (va_cwS 7 hts (gS tw_1325 tw_1326 tw_15 tw_1327) rfl rfl rfl (by decide +kernel) ⟨Nat.le_of_ble_eq_true rfl, Nat.le_of_ble_eq_true rfl⟩) (tg_preS hw hK hSD hA) rfl rfl hl.1 rfl (lv_room (Nat.le_of_ble_eq_true rfl)) dX10_wordOf_312 ⟨Nat.le_of_ble_eq_true rfl, Nat.le_of_ble_eq_true rfl⟩) hw hA (fun v_13  H locs hp_v_13 hw => ?_)
      obtain ⟨hfn, hp_v_13⟩ := hp_v_13
      have q_v_13 : (f_X10_spelt__30 (119 : Int32) (105 : Int32) (115 : Int32) (104 : Int32) (101 : Int32) (115 : Int32) (0 : Int32)) = v_13 := hfn.1
      have r_v_13 : RJ v_13 335187793 335187793 := hp_v_13
      simp only [f_X10_wordOf__7, ↓reduceIte, eq_false cl_1, eq_false n_1_0, eq_false n_1_1, eq_false n_1_2, eq_false n_1_3, eq_false n_1_4, eq_false n_1_5, eq_false n_1_6, eq_false n_1_7, eq_false n_1_8, eq_false n_1_9, eq_false n_1_10, eq_true h_1, q_v_13] at hE
      subst hQ
      exact W.lret (v := v_13) hx hb hr (fun t ht hW => ⟨⟨v_13, (), rfl, ⟨⟨(by rw [hR, ← hE]), trivial⟩, r_v_13.to (by decide)⟩, by rw [ht]; exact hw.2.1, va_K.moved hW.alike hK, hw.2.2.1⟩, hw.2.2.2.1.F ht⟩) hw.2.2.2.1.2.2 dX10_wordOf_315
    · refine lv_tableIn (tgt := 316) (off := 315) hx hb dX10_wordOf_1 (by omega) (by omega) (by rw [h_1]; rfl) (by decide) ?_
      have r_p0 : RI p0 12 12 := ⟨by omega, by omega⟩
      have n_1_0 : ¬ (p0.toInt = 0) := by omega
      have n_1_1 : ¬ (p0.toInt = 1) := by omega
      have n_1_2 : ¬ (p0.toInt = 2) := by omega
      have n_1_3 : ¬ (p0.toInt = 3) := by omega
      have n_1_4 : ¬ (p0.toInt = 4) := by omega
      have n_1_5 : ¬ (p0.toInt = 5) := by omega
      have n_1_6 : ¬ (p0.toInt = 6) := by omega
      have n_1_7 : ¬ (p0.toInt = 7) := by omega
      have n_1_8 : ¬ (p0.toInt = 8) := by omega
      have n_1_9 : ¬ (p0.toInt = 9) := by omega
      have n_1_10 : ¬ (p0.toInt = 10) := by omega
      have n_1_11 : ¬ (p0.toInt = 11) := by omega
      refine lv_bipush (v := 103) hx hb dX10_wordOf_316 (by decide) ?_
      refine lv_bipush (v := 117) hx hb dX10_wordOf_318 (by decide) ?_
      refine lv_bipush (v := 101) hx hb dX10_wordOf_320 (by decide) ?_
      refine lv_bipush (v := 115) hx hb dX10_wordOf_322 (by decide) ?_
      refine lv_bipush (v := 115) hx hb dX10_wordOf_324 (by decide) ?_
      refine lv_bipush (v := 101) hx hb dX10_wordOf_326 (by decide) ?_
      refine lv_bipush (v := 115) hx hb dX10_wordOf_328 (by decide) ?_
      refine tk_lr (va_runS (As := [.int 103, .int 117, .int 101, .int 115, .int 115, .int 101, .int 115]) (rest := []) ⟨hx, hb, hml, hown, hts⟩ (c_X10_spelt__71 l D cy z s.heap.size Ps w0 hw.1 103 117 101 115 115 101 115 rl_103 rl_117 rl_101 rl_115 rl_115 rl_101 rl_115) (va_cwS 7 hts (gS tw_1325 tw_1326 tw_15 tw_1327) rfl rfl rfl (by decide +kernel) ⟨Nat.le_of_ble_eq_true rfl, Nat.le_of_ble_eq_true rfl⟩) (tg_preS hw hK hSD hA) rfl rfl hl.1 rfl (lv_room (Nat.le_of_ble_eq_true rfl)) dX10_wordOf_330 ⟨Nat.le_of_ble_eq_true rfl, Nat.le_of_ble_eq_true rfl⟩) hw hA (fun v_14  H locs hp_v_14 hw => ?_)
      obtain ⟨hfn, hp_v_14⟩ := hp_v_14
      have q_v_14 : (f_X10_spelt__37 (103 : Int32) (117 : Int32) (101 : Int32) (115 : Int32) (115 : Int32) (101 : Int32) (115 : Int32)) = v_14 := hfn.1
      have r_v_14 : RJ v_14 3016315657 3016315657 := hp_v_14
      simp only [f_X10_wordOf__7, ↓reduceIte, eq_false cl_1, eq_false n_1_0, eq_false n_1_1, eq_false n_1_2, eq_false n_1_3, eq_false n_1_4, eq_false n_1_5, eq_false n_1_6, eq_false n_1_7, eq_false n_1_8, eq_false n_1_9, eq_false n_1_10, eq_false n_1_11, eq_true h_1, q_v_14] at hE
      subst hQ
      exact W.lret (v := v_14) hx hb hr (fun t ht hW => ⟨⟨v_14, (), rfl, ⟨⟨(by rw [hR, ← hE]), trivial⟩, r_v_14.to (by decide)⟩, by rw [ht]; exact hw.2.1, va_K.moved hW.alike hK, hw.2.2.1⟩, hw.2.2.2.1.F ht⟩) hw.2.2.2.1.2.2 dX10_wordOf_333
    · refine lv_tableIn (tgt := 334) (off := 333) hx hb dX10_wordOf_1 (by omega) (by omega) (by rw [h_1]; rfl) (by decide) ?_
      have r_p0 : RI p0 13 13 := ⟨by omega, by omega⟩
      have n_1_0 : ¬ (p0.toInt = 0) := by omega
      have n_1_1 : ¬ (p0.toInt = 1) := by omega
      have n_1_2 : ¬ (p0.toInt = 2) := by omega
      have n_1_3 : ¬ (p0.toInt = 3) := by omega
      have n_1_4 : ¬ (p0.toInt = 4) := by omega
      have n_1_5 : ¬ (p0.toInt = 5) := by omega
      have n_1_6 : ¬ (p0.toInt = 6) := by omega
      have n_1_7 : ¬ (p0.toInt = 7) := by omega
      have n_1_8 : ¬ (p0.toInt = 8) := by omega
      have n_1_9 : ¬ (p0.toInt = 9) := by omega
      have n_1_10 : ¬ (p0.toInt = 10) := by omega
      have n_1_11 : ¬ (p0.toInt = 11) := by omega
      have n_1_12 : ¬ (p0.toInt = 12) := by omega
      refine lv_bipush (v := 111) hx hb dX10_wordOf_334 (by decide) ?_
      refine lv_bipush (v := 112) hx hb dX10_wordOf_336 (by decide) ?_
      refine lv_bipush (v := 101) hx hb dX10_wordOf_338 (by decide) ?_
      refine lv_bipush (v := 110) hx hb dX10_wordOf_340 (by decide) ?_
      refine lv_iconst (v := 0) hx hb dX10_wordOf_342 (by decide) ?_
      refine lv_iconst (v := 0) hx hb dX10_wordOf_343 (by decide) ?_
      refine lv_iconst (v := 0) hx hb dX10_wordOf_344 (by decide) ?_
      refine tk_lr (va_runS (As := [.int 111, .int 112, .int 101, .int 110, .int 0, .int 0, .int 0]) (rest := []) ⟨hx, hb, hml, hown, hts⟩ (c_X10_spelt__72 l D cy z s.heap.size Ps w0 hw.1 111 112 101 110 0 0 0 rl_111 rl_112 rl_101 rl_110 rl_0 rl_0 rl_0) (va_cwS 7 hts (gS tw_1325 tw_1326 tw_15 tw_1327) rfl rfl rfl (by decide +kernel) ⟨Nat.le_of_ble_eq_true rfl, Nat.le_of_ble_eq_true rfl⟩) (tg_preS hw hK hSD hA) rfl rfl hl.1 rfl (lv_room (Nat.le_of_ble_eq_true rfl)) dX10_wordOf_345 ⟨Nat.le_of_ble_eq_true rfl, Nat.le_of_ble_eq_true rfl⟩) hw hA (fun v_15  H locs hp_v_15 hw => ?_)
      obtain ⟨hfn, hp_v_15⟩ := hp_v_15
      have q_v_15 : (f_X10_spelt__31 (111 : Int32) (112 : Int32) (101 : Int32) (110 : Int32) (0 : Int32) (0 : Int32) (0 : Int32)) = v_15 := hfn.1
      have r_v_15 : RJ v_15 307058 307058 := hp_v_15
      simp only [f_X10_wordOf__7, ↓reduceIte, eq_false cl_1, eq_false n_1_0, eq_false n_1_1, eq_false n_1_2, eq_false n_1_3, eq_false n_1_4, eq_false n_1_5, eq_false n_1_6, eq_false n_1_7, eq_false n_1_8, eq_false n_1_9, eq_false n_1_10, eq_false n_1_11, eq_false n_1_12, eq_true h_1, q_v_15] at hE
      subst hQ
      exact W.lret (v := v_15) hx hb hr (fun t ht hW => ⟨⟨v_15, (), rfl, ⟨⟨(by rw [hR, ← hE]), trivial⟩, r_v_15.to (by decide)⟩, by rw [ht]; exact hw.2.1, va_K.moved hW.alike hK, hw.2.2.1⟩, hw.2.2.2.1.F ht⟩) hw.2.2.2.1.2.2 dX10_wordOf_348
    · refine lv_tableIn (tgt := 349) (off := 348) hx hb dX10_wordOf_1 (by omega) (by omega) (by rw [h_1]; rfl) (by decide) ?_
      have r_p0 : RI p0 14 14 := ⟨by omega, by omega⟩
      have n_1_0 : ¬ (p0.toInt = 0) := by omega
      have n_1_1 : ¬ (p0.toInt = 1) := by omega
      have n_1_2 : ¬ (p0.toInt = 2) := by omega
      have n_1_3 : ¬ (p0.toInt = 3) := by omega
      have n_1_4 : ¬ (p0.toInt = 4) := by omega
      have n_1_5 : ¬ (p0.toInt = 5) := by omega
      have n_1_6 : ¬ (p0.toInt = 6) := by omega
      have n_1_7 : ¬ (p0.toInt = 7) := by omega
      have n_1_8 : ¬ (p0.toInt = 8) := by omega
      have n_1_9 : ¬ (p0.toInt = 9) := by omega
      have n_1_10 : ¬ (p0.toInt = 10) := by omega
      have n_1_11 : ¬ (p0.toInt = 11) := by omega
      have n_1_12 : ¬ (p0.toInt = 12) := by omega
      have n_1_13 : ¬ (p0.toInt = 13) := by omega
      refine lv_bipush (v := 99) hx hb dX10_wordOf_349 (by decide) ?_
      refine lv_bipush (v := 97) hx hb dX10_wordOf_351 (by decide) ?_
      refine lv_bipush (v := 114) hx hb dX10_wordOf_353 (by decide) ?_
      refine lv_bipush (v := 114) hx hb dX10_wordOf_355 (by decide) ?_
      refine lv_bipush (v := 121) hx hb dX10_wordOf_357 (by decide) ?_
      refine lv_iconst (v := 0) hx hb dX10_wordOf_359 (by decide) ?_
      refine lv_iconst (v := 0) hx hb dX10_wordOf_360 (by decide) ?_
      refine tk_lr (va_runS (As := [.int 99, .int 97, .int 114, .int 114, .int 121, .int 0, .int 0]) (rest := []) ⟨hx, hb, hml, hown, hts⟩ (c_X10_spelt__73 l D cy z s.heap.size Ps w0 hw.1 99 97 114 114 121 0 0 rl_99 rl_97 rl_114 rl_114 rl_121 rl_0 rl_0) (va_cwS 7 hts (gS tw_1325 tw_1326 tw_15 tw_1327) rfl rfl rfl (by decide +kernel) ⟨Nat.le_of_ble_eq_true rfl, Nat.le_of_ble_eq_true rfl⟩) (tg_preS hw hK hSD hA) rfl rfl hl.1 rfl (lv_room (Nat.le_of_ble_eq_true rfl)) dX10_wordOf_361 ⟨Nat.le_of_ble_eq_true rfl, Nat.le_of_ble_eq_true rfl⟩) hw hA (fun v_16  H locs hp_v_16 hw => ?_)
      obtain ⟨hfn, hp_v_16⟩ := hp_v_16
      have q_v_16 : (f_X10_spelt__39 (99 : Int32) (97 : Int32) (114 : Int32) (114 : Int32) (121 : Int32) (0 : Int32) (0 : Int32)) = v_16 := hfn.1
      have r_v_16 : RJ v_16 1627639 1627639 := hp_v_16
      simp only [f_X10_wordOf__7, ↓reduceIte, eq_false cl_1, eq_false n_1_0, eq_false n_1_1, eq_false n_1_2, eq_false n_1_3, eq_false n_1_4, eq_false n_1_5, eq_false n_1_6, eq_false n_1_7, eq_false n_1_8, eq_false n_1_9, eq_false n_1_10, eq_false n_1_11, eq_false n_1_12, eq_false n_1_13, eq_true h_1, q_v_16] at hE
      subst hQ
      exact W.lret (v := v_16) hx hb hr (fun t ht hW => ⟨⟨v_16, (), rfl, ⟨⟨(by rw [hR, ← hE]), trivial⟩, r_v_16.to (by decide)⟩, by rw [ht]; exact hw.2.1, va_K.moved hW.alike hK, hw.2.2.1⟩, hw.2.2.2.1.F ht⟩) hw.2.2.2.1.2.2 dX10_wordOf_364
    · refine lv_tableIn (tgt := 365) (off := 364) hx hb dX10_wordOf_1 (by omega) (by omega) (by rw [h_1]; rfl) (by decide) ?_
      have r_p0 : RI p0 15 15 := ⟨by omega, by omega⟩
      have n_1_0 : ¬ (p0.toInt = 0) := by omega
      have n_1_1 : ¬ (p0.toInt = 1) := by omega
      have n_1_2 : ¬ (p0.toInt = 2) := by omega
      have n_1_3 : ¬ (p0.toInt = 3) := by omega
      have n_1_4 : ¬ (p0.toInt = 4) := by omega
      have n_1_5 : ¬ (p0.toInt = 5) := by omega
      have n_1_6 : ¬ (p0.toInt = 6) := by omega
      have n_1_7 : ¬ (p0.toInt = 7) := by omega
      have n_1_8 : ¬ (p0.toInt = 8) := by omega
      have n_1_9 : ¬ (p0.toInt = 9) := by omega
      have n_1_10 : ¬ (p0.toInt = 10) := by omega
      have n_1_11 : ¬ (p0.toInt = 11) := by omega
      have n_1_12 : ¬ (p0.toInt = 12) := by omega
      have n_1_13 : ¬ (p0.toInt = 13) := by omega
      have n_1_14 : ¬ (p0.toInt = 14) := by omega
      refine lv_bipush (v := 100) hx hb dX10_wordOf_365 (by decide) ?_
      refine lv_bipush (v := 97) hx hb dX10_wordOf_367 (by decide) ?_
      refine lv_bipush (v := 121) hx hb dX10_wordOf_369 (by decide) ?_
      refine lv_iconst (v := 0) hx hb dX10_wordOf_371 (by decide) ?_
      refine lv_iconst (v := 0) hx hb dX10_wordOf_372 (by decide) ?_
      refine lv_iconst (v := 0) hx hb dX10_wordOf_373 (by decide) ?_
      refine lv_iconst (v := 0) hx hb dX10_wordOf_374 (by decide) ?_
      refine tk_lr (va_runS (As := [.int 100, .int 97, .int 121, .int 0, .int 0, .int 0, .int 0]) (rest := []) ⟨hx, hb, hml, hown, hts⟩ (c_X10_spelt__74 l D cy z s.heap.size Ps w0 hw.1 100 97 121 0 0 0 0 rl_100 rl_97 rl_121 rl_0 rl_0 rl_0 rl_0) (va_cwS 7 hts (gS tw_1325 tw_1326 tw_15 tw_1327) rfl rfl rfl (by decide +kernel) ⟨Nat.le_of_ble_eq_true rfl, Nat.le_of_ble_eq_true rfl⟩) (tg_preS hw hK hSD hA) rfl rfl hl.1 rfl (lv_room (Nat.le_of_ble_eq_true rfl)) dX10_wordOf_375 ⟨Nat.le_of_ble_eq_true rfl, Nat.le_of_ble_eq_true rfl⟩) hw hA (fun v_17  H locs hp_v_17 hw => ?_)
      obtain ⟨hfn, hp_v_17⟩ := hp_v_17
      have q_v_17 : (f_X10_spelt__36 (100 : Int32) (97 : Int32) (121 : Int32) (0 : Int32) (0 : Int32) (0 : Int32) (0 : Int32)) = v_17 := hfn.1
      have r_v_17 : RJ v_17 2968 2968 := hp_v_17
      simp only [f_X10_wordOf__7, ↓reduceIte, eq_false cl_1, eq_false n_1_0, eq_false n_1_1, eq_false n_1_2, eq_false n_1_3, eq_false n_1_4, eq_false n_1_5, eq_false n_1_6, eq_false n_1_7, eq_false n_1_8, eq_false n_1_9, eq_false n_1_10, eq_false n_1_11, eq_false n_1_12, eq_false n_1_13, eq_false n_1_14, eq_true h_1, q_v_17] at hE
      subst hQ
      exact W.lret (v := v_17) hx hb hr (fun t ht hW => ⟨⟨v_17, (), rfl, ⟨⟨(by rw [hR, ← hE]), trivial⟩, r_v_17.to (by decide)⟩, by rw [ht]; exact hw.2.1, va_K.moved hW.alike hK, hw.2.2.1⟩, hw.2.2.2.1.F ht⟩) hw.2.2.2.1.2.2 dX10_wordOf_378
    · refine lv_tableIn (tgt := 379) (off := 378) hx hb dX10_wordOf_1 (by omega) (by omega) (by rw [h_1]; rfl) (by decide) ?_
      have r_p0 : RI p0 16 16 := ⟨by omega, by omega⟩
      have n_1_0 : ¬ (p0.toInt = 0) := by omega
      have n_1_1 : ¬ (p0.toInt = 1) := by omega
      have n_1_2 : ¬ (p0.toInt = 2) := by omega
      have n_1_3 : ¬ (p0.toInt = 3) := by omega
      have n_1_4 : ¬ (p0.toInt = 4) := by omega
      have n_1_5 : ¬ (p0.toInt = 5) := by omega
      have n_1_6 : ¬ (p0.toInt = 6) := by omega
      have n_1_7 : ¬ (p0.toInt = 7) := by omega
      have n_1_8 : ¬ (p0.toInt = 8) := by omega
      have n_1_9 : ¬ (p0.toInt = 9) := by omega
      have n_1_10 : ¬ (p0.toInt = 10) := by omega
      have n_1_11 : ¬ (p0.toInt = 11) := by omega
      have n_1_12 : ¬ (p0.toInt = 12) := by omega
      have n_1_13 : ¬ (p0.toInt = 13) := by omega
      have n_1_14 : ¬ (p0.toInt = 14) := by omega
      have n_1_15 : ¬ (p0.toInt = 15) := by omega
      refine lv_bipush (v := 111) hx hb dX10_wordOf_379 (by decide) ?_
      refine lv_bipush (v := 114) hx hb dX10_wordOf_381 (by decide) ?_
      refine lv_iconst (v := 0) hx hb dX10_wordOf_383 (by decide) ?_
      refine lv_iconst (v := 0) hx hb dX10_wordOf_384 (by decide) ?_
      refine lv_iconst (v := 0) hx hb dX10_wordOf_385 (by decide) ?_
      refine lv_iconst (v := 0) hx hb dX10_wordOf_386 (by decide) ?_
      refine lv_iconst (v := 0) hx hb dX10_wordOf_387 (by decide) ?_
      refine tk_lr (va_runS (As := [.int 111, .int 114, .int 0, .int 0, .int 0, .int 0, .int 0]) (rest := []) ⟨hx, hb, hml, hown, hts⟩ (c_X10_spelt__75 l D cy z s.heap.size Ps w0 hw.1 111 114 0 0 0 0 0 rl_111 rl_114 rl_0 rl_0 rl_0 rl_0 rl_0) (va_cwS 7 hts (gS tw_1325 tw_1326 tw_15 tw_1327) rfl rfl rfl (by decide +kernel) ⟨Nat.le_of_ble_eq_true rfl, Nat.le_of_ble_eq_true rfl⟩) (tg_preS hw hK hSD hA) rfl rfl hl.1 rfl (lv_room (Nat.le_of_ble_eq_true rfl)) dX10_wordOf_388 ⟨Nat.le_of_ble_eq_true rfl, Nat.le_of_ble_eq_true rfl⟩) hw hA (fun v_18  H locs hp_v_18 hw => ?_)
      obtain ⟨hfn, hp_v_18⟩ := hp_v_18
      have q_v_18 : (f_X10_spelt__47 (111 : Int32) (114 : Int32) (0 : Int32) (0 : Int32) (0 : Int32) (0 : Int32) (0 : Int32)) = v_18 := hfn.1
      have r_v_18 : RJ v_18 423 423 := hp_v_18
      simp only [f_X10_wordOf__7, ↓reduceIte, eq_false cl_1, eq_false n_1_0, eq_false n_1_1, eq_false n_1_2, eq_false n_1_3, eq_false n_1_4, eq_false n_1_5, eq_false n_1_6, eq_false n_1_7, eq_false n_1_8, eq_false n_1_9, eq_false n_1_10, eq_false n_1_11, eq_false n_1_12, eq_false n_1_13, eq_false n_1_14, eq_false n_1_15, eq_true h_1, q_v_18] at hE
      subst hQ
      exact W.lret (v := v_18) hx hb hr (fun t ht hW => ⟨⟨v_18, (), rfl, ⟨⟨(by rw [hR, ← hE]), trivial⟩, r_v_18.to (by decide)⟩, by rw [ht]; exact hw.2.1, va_K.moved hW.alike hK, hw.2.2.1⟩, hw.2.2.2.1.F ht⟩) hw.2.2.2.1.2.2 dX10_wordOf_391
    · refine lv_tableIn (tgt := 392) (off := 391) hx hb dX10_wordOf_1 (by omega) (by omega) (by rw [h_1]; rfl) (by decide) ?_
      have r_p0 : RI p0 17 17 := ⟨by omega, by omega⟩
      have n_1_0 : ¬ (p0.toInt = 0) := by omega
      have n_1_1 : ¬ (p0.toInt = 1) := by omega
      have n_1_2 : ¬ (p0.toInt = 2) := by omega
      have n_1_3 : ¬ (p0.toInt = 3) := by omega
      have n_1_4 : ¬ (p0.toInt = 4) := by omega
      have n_1_5 : ¬ (p0.toInt = 5) := by omega
      have n_1_6 : ¬ (p0.toInt = 6) := by omega
      have n_1_7 : ¬ (p0.toInt = 7) := by omega
      have n_1_8 : ¬ (p0.toInt = 8) := by omega
      have n_1_9 : ¬ (p0.toInt = 9) := by omega
      have n_1_10 : ¬ (p0.toInt = 10) := by omega
      have n_1_11 : ¬ (p0.toInt = 11) := by omega
      have n_1_12 : ¬ (p0.toInt = 12) := by omega
      have n_1_13 : ¬ (p0.toInt = 13) := by omega
      have n_1_14 : ¬ (p0.toInt = 14) := by omega
      have n_1_15 : ¬ (p0.toInt = 15) := by omega
      have n_1_16 : ¬ (p0.toInt = 16) := by omega
      refine lv_bipush (v := 97) hx hb dX10_wordOf_392 (by decide) ?_
      refine lv_bipush (v := 110) hx hb dX10_wordOf_394 (by decide) ?_
      refine lv_bipush (v := 100) hx hb dX10_wordOf_396 (by decide) ?_
      refine lv_iconst (v := 0) hx hb dX10_wordOf_398 (by decide) ?_
      refine lv_iconst (v := 0) hx hb dX10_wordOf_399 (by decide) ?_
      refine lv_iconst (v := 0) hx hb dX10_wordOf_400 (by decide) ?_
      refine lv_iconst (v := 0) hx hb dX10_wordOf_401 (by decide) ?_
      refine tk_lr (va_runS (As := [.int 97, .int 110, .int 100, .int 0, .int 0, .int 0, .int 0]) (rest := []) ⟨hx, hb, hml, hown, hts⟩ (c_X10_spelt__76 l D cy z s.heap.size Ps w0 hw.1 97 110 100 0 0 0 0 rl_97 rl_110 rl_100 rl_0 rl_0 rl_0 rl_0) (va_cwS 7 hts (gS tw_1325 tw_1326 tw_15 tw_1327) rfl rfl rfl (by decide +kernel) ⟨Nat.le_of_ble_eq_true rfl, Nat.le_of_ble_eq_true rfl⟩) (tg_preS hw hK hSD hA) rfl rfl hl.1 rfl (lv_room (Nat.le_of_ble_eq_true rfl)) dX10_wordOf_402 ⟨Nat.le_of_ble_eq_true rfl, Nat.le_of_ble_eq_true rfl⟩) hw hA (fun v_19  H locs hp_v_19 hw => ?_)
      obtain ⟨hfn, hp_v_19⟩ := hp_v_19
      have q_v_19 : (f_X10_spelt__36 (97 : Int32) (110 : Int32) (100 : Int32) (0 : Int32) (0 : Int32) (0 : Int32) (0 : Int32)) = v_19 := hfn.1
      have r_v_19 : RJ v_19 1111 1111 := hp_v_19
      simp only [f_X10_wordOf__7, ↓reduceIte, eq_false cl_1, eq_false n_1_0, eq_false n_1_1, eq_false n_1_2, eq_false n_1_3, eq_false n_1_4, eq_false n_1_5, eq_false n_1_6, eq_false n_1_7, eq_false n_1_8, eq_false n_1_9, eq_false n_1_10, eq_false n_1_11, eq_false n_1_12, eq_false n_1_13, eq_false n_1_14, eq_false n_1_15, eq_false n_1_16, eq_true h_1, q_v_19] at hE
      subst hQ
      exact W.lret (v := v_19) hx hb hr (fun t ht hW => ⟨⟨v_19, (), rfl, ⟨⟨(by rw [hR, ← hE]), trivial⟩, r_v_19.to (by decide)⟩, by rw [ht]; exact hw.2.1, va_K.moved hW.alike hK, hw.2.2.1⟩, hw.2.2.2.1.F ht⟩) hw.2.2.2.1.2.2 dX10_wordOf_405
    · refine lv_tableIn (tgt := 406) (off := 405) hx hb dX10_wordOf_1 (by omega) (by omega) (by rw [h_1]; rfl) (by decide) ?_
      have r_p0 : RI p0 18 18 := ⟨by omega, by omega⟩
      have n_1_0 : ¬ (p0.toInt = 0) := by omega
      have n_1_1 : ¬ (p0.toInt = 1) := by omega
      have n_1_2 : ¬ (p0.toInt = 2) := by omega
      have n_1_3 : ¬ (p0.toInt = 3) := by omega
      have n_1_4 : ¬ (p0.toInt = 4) := by omega
      have n_1_5 : ¬ (p0.toInt = 5) := by omega
      have n_1_6 : ¬ (p0.toInt = 6) := by omega
      have n_1_7 : ¬ (p0.toInt = 7) := by omega
      have n_1_8 : ¬ (p0.toInt = 8) := by omega
      have n_1_9 : ¬ (p0.toInt = 9) := by omega
      have n_1_10 : ¬ (p0.toInt = 10) := by omega
      have n_1_11 : ¬ (p0.toInt = 11) := by omega
      have n_1_12 : ¬ (p0.toInt = 12) := by omega
      have n_1_13 : ¬ (p0.toInt = 13) := by omega
      have n_1_14 : ¬ (p0.toInt = 14) := by omega
      have n_1_15 : ¬ (p0.toInt = 15) := by omega
      have n_1_16 : ¬ (p0.toInt = 16) := by omega
      have n_1_17 : ¬ (p0.toInt = 17) := by omega
      refine lv_bipush (v := 110) hx hb dX10_wordOf_406 (by decide) ?_
      refine lv_bipush (v := 111) hx hb dX10_wordOf_408 (by decide) ?_
      refine lv_bipush (v := 116) hx hb dX10_wordOf_410 (by decide) ?_
      refine lv_iconst (v := 0) hx hb dX10_wordOf_412 (by decide) ?_
      refine lv_iconst (v := 0) hx hb dX10_wordOf_413 (by decide) ?_
      refine lv_iconst (v := 0) hx hb dX10_wordOf_414 (by decide) ?_
      refine lv_iconst (v := 0) hx hb dX10_wordOf_415 (by decide) ?_
      refine tk_lr (va_runS (As := [.int 110, .int 111, .int 116, .int 0, .int 0, .int 0, .int 0]) (rest := []) ⟨hx, hb, hml, hown, hts⟩ (c_X10_spelt__77 l D cy z s.heap.size Ps w0 hw.1 110 111 116 0 0 0 0 rl_110 rl_111 rl_116 rl_0 rl_0 rl_0 rl_0) (va_cwS 7 hts (gS tw_1325 tw_1326 tw_15 tw_1327) rfl rfl rfl (by decide +kernel) ⟨Nat.le_of_ble_eq_true rfl, Nat.le_of_ble_eq_true rfl⟩) (tg_preS hw hK hSD hA) rfl rfl hl.1 rfl (lv_room (Nat.le_of_ble_eq_true rfl)) dX10_wordOf_416 ⟨Nat.le_of_ble_eq_true rfl, Nat.le_of_ble_eq_true rfl⟩) hw hA (fun v_20  H locs hp_v_20 hw => ?_)
      obtain ⟨hfn, hp_v_20⟩ := hp_v_20
      have q_v_20 : (f_X10_spelt__36 (110 : Int32) (111 : Int32) (116 : Int32) (0 : Int32) (0 : Int32) (0 : Int32) (0 : Int32)) = v_20 := hfn.1
      have r_v_20 : RJ v_20 10631 10631 := hp_v_20
      simp only [f_X10_wordOf__7, ↓reduceIte, eq_false cl_1, eq_false n_1_0, eq_false n_1_1, eq_false n_1_2, eq_false n_1_3, eq_false n_1_4, eq_false n_1_5, eq_false n_1_6, eq_false n_1_7, eq_false n_1_8, eq_false n_1_9, eq_false n_1_10, eq_false n_1_11, eq_false n_1_12, eq_false n_1_13, eq_false n_1_14, eq_false n_1_15, eq_false n_1_16, eq_false n_1_17, eq_true h_1, q_v_20] at hE
      subst hQ
      exact W.lret (v := v_20) hx hb hr (fun t ht hW => ⟨⟨v_20, (), rfl, ⟨⟨(by rw [hR, ← hE]), trivial⟩, r_v_20.to (by decide)⟩, by rw [ht]; exact hw.2.1, va_K.moved hW.alike hK, hw.2.2.1⟩, hw.2.2.2.1.F ht⟩) hw.2.2.2.1.2.2 dX10_wordOf_419
    · refine lv_tableIn (tgt := 420) (off := 419) hx hb dX10_wordOf_1 (by omega) (by omega) (by rw [h_1]; rfl) (by decide) ?_
      have r_p0 : RI p0 19 19 := ⟨by omega, by omega⟩
      have n_1_0 : ¬ (p0.toInt = 0) := by omega
      have n_1_1 : ¬ (p0.toInt = 1) := by omega
      have n_1_2 : ¬ (p0.toInt = 2) := by omega
      have n_1_3 : ¬ (p0.toInt = 3) := by omega
      have n_1_4 : ¬ (p0.toInt = 4) := by omega
      have n_1_5 : ¬ (p0.toInt = 5) := by omega
      have n_1_6 : ¬ (p0.toInt = 6) := by omega
      have n_1_7 : ¬ (p0.toInt = 7) := by omega
      have n_1_8 : ¬ (p0.toInt = 8) := by omega
      have n_1_9 : ¬ (p0.toInt = 9) := by omega
      have n_1_10 : ¬ (p0.toInt = 10) := by omega
      have n_1_11 : ¬ (p0.toInt = 11) := by omega
      have n_1_12 : ¬ (p0.toInt = 12) := by omega
      have n_1_13 : ¬ (p0.toInt = 13) := by omega
      have n_1_14 : ¬ (p0.toInt = 14) := by omega
      have n_1_15 : ¬ (p0.toInt = 15) := by omega
      have n_1_16 : ¬ (p0.toInt = 16) := by omega
      have n_1_17 : ¬ (p0.toInt = 17) := by omega
      have n_1_18 : ¬ (p0.toInt = 18) := by omega
      refine lv_bipush (v := 111) hx hb dX10_wordOf_420 (by decide) ?_
      refine lv_bipush (v := 112) hx hb dX10_wordOf_422 (by decide) ?_
      refine lv_bipush (v := 101) hx hb dX10_wordOf_424 (by decide) ?_
      refine lv_bipush (v := 110) hx hb dX10_wordOf_426 (by decide) ?_
      refine lv_bipush (v := 101) hx hb dX10_wordOf_428 (by decide) ?_
      refine lv_bipush (v := 100) hx hb dX10_wordOf_430 (by decide) ?_
      refine lv_iconst (v := 0) hx hb dX10_wordOf_432 (by decide) ?_
      refine tk_lr (va_runS (As := [.int 111, .int 112, .int 101, .int 110, .int 101, .int 100, .int 0]) (rest := []) ⟨hx, hb, hml, hown, hts⟩ (c_X10_spelt__78 l D cy z s.heap.size Ps w0 hw.1 111 112 101 110 101 100 0 rl_111 rl_112 rl_101 rl_110 rl_101 rl_100 rl_0) (va_cwS 7 hts (gS tw_1325 tw_1326 tw_15 tw_1327) rfl rfl rfl (by decide +kernel) ⟨Nat.le_of_ble_eq_true rfl, Nat.le_of_ble_eq_true rfl⟩) (tg_preS hw hK hSD hA) rfl rfl hl.1 rfl (lv_room (Nat.le_of_ble_eq_true rfl)) dX10_wordOf_433 ⟨Nat.le_of_ble_eq_true rfl, Nat.le_of_ble_eq_true rfl⟩) hw hA (fun v_21  H locs hp_v_21 hw => ?_)
      obtain ⟨hfn, hp_v_21⟩ := hp_v_21
      have q_v_21 : (f_X10_spelt__30 (111 : Int32) (112 : Int32) (101 : Int32) (110 : Int32) (101 : Int32) (100 : Int32) (0 : Int32)) = v_21 := hfn.1
      have r_v_21 : RJ v_21 223845421 223845421 := hp_v_21
      simp only [f_X10_wordOf__7, ↓reduceIte, eq_false cl_1, eq_false n_1_0, eq_false n_1_1, eq_false n_1_2, eq_false n_1_3, eq_false n_1_4, eq_false n_1_5, eq_false n_1_6, eq_false n_1_7, eq_false n_1_8, eq_false n_1_9, eq_false n_1_10, eq_false n_1_11, eq_false n_1_12, eq_false n_1_13, eq_false n_1_14, eq_false n_1_15, eq_false n_1_16, eq_false n_1_17, eq_false n_1_18, eq_true h_1, q_v_21] at hE
      subst hQ
      exact W.lret (v := v_21) hx hb hr (fun t ht hW => ⟨⟨v_21, (), rfl, ⟨⟨(by rw [hR, ← hE]), trivial⟩, r_v_21.to (by decide)⟩, by rw [ht]; exact hw.2.1, va_K.moved hW.alike hK, hw.2.2.1⟩, hw.2.2.2.1.F ht⟩) hw.2.2.2.1.2.2 dX10_wordOf_436
    · refine lv_tableIn (tgt := 437) (off := 436) hx hb dX10_wordOf_1 (by omega) (by omega) (by rw [h_1]; rfl) (by decide) ?_
      have r_p0 : RI p0 20 20 := ⟨by omega, by omega⟩
      have n_1_0 : ¬ (p0.toInt = 0) := by omega
      have n_1_1 : ¬ (p0.toInt = 1) := by omega
      have n_1_2 : ¬ (p0.toInt = 2) := by omega
      have n_1_3 : ¬ (p0.toInt = 3) := by omega
      have n_1_4 : ¬ (p0.toInt = 4) := by omega
      have n_1_5 : ¬ (p0.toInt = 5) := by omega
      have n_1_6 : ¬ (p0.toInt = 6) := by omega
      have n_1_7 : ¬ (p0.toInt = 7) := by omega
      have n_1_8 : ¬ (p0.toInt = 8) := by omega
      have n_1_9 : ¬ (p0.toInt = 9) := by omega
      have n_1_10 : ¬ (p0.toInt = 10) := by omega
      have n_1_11 : ¬ (p0.toInt = 11) := by omega
      have n_1_12 : ¬ (p0.toInt = 12) := by omega
      have n_1_13 : ¬ (p0.toInt = 13) := by omega
      have n_1_14 : ¬ (p0.toInt = 14) := by omega
      have n_1_15 : ¬ (p0.toInt = 15) := by omega
      have n_1_16 : ¬ (p0.toInt = 16) := by omega
      have n_1_17 : ¬ (p0.toInt = 17) := by omega
      have n_1_18 : ¬ (p0.toInt = 18) := by omega
      have n_1_19 : ¬ (p0.toInt = 19) := by omega
      refine lv_bipush (v := 110) hx hb dX10_wordOf_437 (by decide) ?_
      refine lv_bipush (v := 111) hx hb dX10_wordOf_439 (by decide) ?_
      refine lv_bipush (v := 116) hx hb dX10_wordOf_441 (by decide) ?_
      refine lv_bipush (v := 104) hx hb dX10_wordOf_443 (by decide) ?_
      refine lv_bipush (v := 105) hx hb dX10_wordOf_445 (by decide) ?_
      refine lv_bipush (v := 110) hx hb dX10_wordOf_447 (by decide) ?_
      refine lv_bipush (v := 103) hx hb dX10_wordOf_449 (by decide) ?_
      refine tk_lr (va_runS (As := [.int 110, .int 111, .int 116, .int 104, .int 105, .int 110, .int 103]) (rest := []) ⟨hx, hb, hml, hown, hts⟩ (c_X10_spelt__79 l D cy z s.heap.size Ps w0 hw.1 110 111 116 104 105 110 103 rl_110 rl_111 rl_116 rl_104 rl_105 rl_110 rl_103) (va_cwS 7 hts (gS tw_1325 tw_1326 tw_15 tw_1327) rfl rfl rfl (by decide +kernel) ⟨Nat.le_of_ble_eq_true rfl, Nat.le_of_ble_eq_true rfl⟩) (tg_preS hw hK hSD hA) rfl rfl hl.1 rfl (lv_room (Nat.le_of_ble_eq_true rfl)) dX10_wordOf_451 ⟨Nat.le_of_ble_eq_true rfl, Nat.le_of_ble_eq_true rfl⟩) hw hA (fun v_22  H locs hp_v_22 hw => ?_)
      obtain ⟨hfn, hp_v_22⟩ := hp_v_22
      have q_v_22 : (f_X10_spelt__37 (110 : Int32) (111 : Int32) (116 : Int32) (104 : Int32) (105 : Int32) (110 : Int32) (103 : Int32)) = v_22 := hfn.1
      have r_v_22 : RJ v_22 5649913681 5649913681 := hp_v_22
      simp only [f_X10_wordOf__7, ↓reduceIte, eq_false cl_1, eq_false n_1_0, eq_false n_1_1, eq_false n_1_2, eq_false n_1_3, eq_false n_1_4, eq_false n_1_5, eq_false n_1_6, eq_false n_1_7, eq_false n_1_8, eq_false n_1_9, eq_false n_1_10, eq_false n_1_11, eq_false n_1_12, eq_false n_1_13, eq_false n_1_14, eq_false n_1_15, eq_false n_1_16, eq_false n_1_17, eq_false n_1_18, eq_false n_1_19, eq_true h_1, q_v_22] at hE
      subst hQ
      exact W.lret (v := v_22) hx hb hr (fun t ht hW => ⟨⟨v_22, (), rfl, ⟨⟨(by rw [hR, ← hE]), trivial⟩, r_v_22.to (by decide)⟩, by rw [ht]; exact hw.2.1, va_K.moved hW.alike hK, hw.2.2.1⟩, hw.2.2.2.1.F ht⟩) hw.2.2.2.1.2.2 dX10_wordOf_454
    · refine lv_tableIn (tgt := 455) (off := 454) hx hb dX10_wordOf_1 (by omega) (by omega) (by rw [h_1]; rfl) (by decide) ?_
      have r_p0 : RI p0 21 21 := ⟨by omega, by omega⟩
      have n_1_0 : ¬ (p0.toInt = 0) := by omega
      have n_1_1 : ¬ (p0.toInt = 1) := by omega
      have n_1_2 : ¬ (p0.toInt = 2) := by omega
      have n_1_3 : ¬ (p0.toInt = 3) := by omega
      have n_1_4 : ¬ (p0.toInt = 4) := by omega
      have n_1_5 : ¬ (p0.toInt = 5) := by omega
      have n_1_6 : ¬ (p0.toInt = 6) := by omega
      have n_1_7 : ¬ (p0.toInt = 7) := by omega
      have n_1_8 : ¬ (p0.toInt = 8) := by omega
      have n_1_9 : ¬ (p0.toInt = 9) := by omega
      have n_1_10 : ¬ (p0.toInt = 10) := by omega
      have n_1_11 : ¬ (p0.toInt = 11) := by omega
      have n_1_12 : ¬ (p0.toInt = 12) := by omega
      have n_1_13 : ¬ (p0.toInt = 13) := by omega
      have n_1_14 : ¬ (p0.toInt = 14) := by omega
      have n_1_15 : ¬ (p0.toInt = 15) := by omega
      have n_1_16 : ¬ (p0.toInt = 16) := by omega
      have n_1_17 : ¬ (p0.toInt = 17) := by omega
      have n_1_18 : ¬ (p0.toInt = 18) := by omega
      have n_1_19 : ¬ (p0.toInt = 19) := by omega
      have n_1_20 : ¬ (p0.toInt = 20) := by omega
      refine lv_bipush (v := 119) hx hb dX10_wordOf_455 (by decide) ?_
      refine lv_bipush (v := 97) hx hb dX10_wordOf_457 (by decide) ?_
      refine lv_bipush (v := 116) hx hb dX10_wordOf_459 (by decide) ?_
      refine lv_bipush (v := 99) hx hb dX10_wordOf_461 (by decide) ?_
      refine lv_bipush (v := 104) hx hb dX10_wordOf_463 (by decide) ?_
      refine lv_bipush (v := 101) hx hb dX10_wordOf_465 (by decide) ?_
      refine lv_bipush (v := 100) hx hb dX10_wordOf_467 (by decide) ?_
      refine tk_lr (va_runS (As := [.int 119, .int 97, .int 116, .int 99, .int 104, .int 101, .int 100]) (rest := []) ⟨hx, hb, hml, hown, hts⟩ (c_X10_spelt__80 l D cy z s.heap.size Ps w0 hw.1 119 97 116 99 104 101 100 rl_119 rl_97 rl_116 rl_99 rl_104 rl_101 rl_100) (va_cwS 7 hts (gS tw_1325 tw_1326 tw_15 tw_1327) rfl rfl rfl (by decide +kernel) ⟨Nat.le_of_ble_eq_true rfl, Nat.le_of_ble_eq_true rfl⟩) (tg_preS hw hK hSD hA) rfl rfl hl.1 rfl (lv_room (Nat.le_of_ble_eq_true rfl)) dX10_wordOf_469 ⟨Nat.le_of_ble_eq_true rfl, Nat.le_of_ble_eq_true rfl⟩) hw hA (fun v_23  H locs hp_v_23 hw => ?_)
      obtain ⟨hfn, hp_v_23⟩ := hp_v_23
      have q_v_23 : (f_X10_spelt__37 (119 : Int32) (97 : Int32) (116 : Int32) (99 : Int32) (104 : Int32) (101 : Int32) (100 : Int32)) = v_23 := hfn.1
      have r_v_23 : RJ v_23 8935713994 8935713994 := hp_v_23
      simp only [f_X10_wordOf__7, ↓reduceIte, eq_false cl_1, eq_false n_1_0, eq_false n_1_1, eq_false n_1_2, eq_false n_1_3, eq_false n_1_4, eq_false n_1_5, eq_false n_1_6, eq_false n_1_7, eq_false n_1_8, eq_false n_1_9, eq_false n_1_10, eq_false n_1_11, eq_false n_1_12, eq_false n_1_13, eq_false n_1_14, eq_false n_1_15, eq_false n_1_16, eq_false n_1_17, eq_false n_1_18, eq_false n_1_19, eq_false n_1_20, eq_true h_1, q_v_23] at hE
      subst hQ
      exact W.lret (v := v_23) hx hb hr (fun t ht hW => ⟨⟨v_23, (), rfl, ⟨⟨(by rw [hR, ← hE]), trivial⟩, r_v_23.to (by decide)⟩, by rw [ht]; exact hw.2.1, va_K.moved hW.alike hK, hw.2.2.1⟩, hw.2.2.2.1.F ht⟩) hw.2.2.2.1.2.2 dX10_wordOf_472
    · refine lv_tableIn (tgt := 473) (off := 472) hx hb dX10_wordOf_1 (by omega) (by omega) (by rw [h_1]; rfl) (by decide) ?_
      have r_p0 : RI p0 22 22 := ⟨by omega, by omega⟩
      have n_1_0 : ¬ (p0.toInt = 0) := by omega
      have n_1_1 : ¬ (p0.toInt = 1) := by omega
      have n_1_2 : ¬ (p0.toInt = 2) := by omega
      have n_1_3 : ¬ (p0.toInt = 3) := by omega
      have n_1_4 : ¬ (p0.toInt = 4) := by omega
      have n_1_5 : ¬ (p0.toInt = 5) := by omega
      have n_1_6 : ¬ (p0.toInt = 6) := by omega
      have n_1_7 : ¬ (p0.toInt = 7) := by omega
      have n_1_8 : ¬ (p0.toInt = 8) := by omega
      have n_1_9 : ¬ (p0.toInt = 9) := by omega
      have n_1_10 : ¬ (p0.toInt = 10) := by omega
      have n_1_11 : ¬ (p0.toInt = 11) := by omega
      have n_1_12 : ¬ (p0.toInt = 12) := by omega
      have n_1_13 : ¬ (p0.toInt = 13) := by omega
      have n_1_14 : ¬ (p0.toInt = 14) := by omega
      have n_1_15 : ¬ (p0.toInt = 15) := by omega
      have n_1_16 : ¬ (p0.toInt = 16) := by omega
      have n_1_17 : ¬ (p0.toInt = 17) := by omega
      have n_1_18 : ¬ (p0.toInt = 18) := by omega
      have n_1_19 : ¬ (p0.toInt = 19) := by omega
      have n_1_20 : ¬ (p0.toInt = 20) := by omega
      have n_1_21 : ¬ (p0.toInt = 21) := by omega
      refine lv_bipush (v := 105) hx hb dX10_wordOf_473 (by decide) ?_
      refine lv_bipush (v := 115) hx hb dX10_wordOf_475 (by decide) ?_
      refine lv_iconst (v := 0) hx hb dX10_wordOf_477 (by decide) ?_
      refine lv_iconst (v := 0) hx hb dX10_wordOf_478 (by decide) ?_
      refine lv_iconst (v := 0) hx hb dX10_wordOf_479 (by decide) ?_
      refine lv_iconst (v := 0) hx hb dX10_wordOf_480 (by decide) ?_
      refine lv_iconst (v := 0) hx hb dX10_wordOf_481 (by decide) ?_
      refine tk_lr (va_runS (As := [.int 105, .int 115, .int 0, .int 0, .int 0, .int 0, .int 0]) (rest := []) ⟨hx, hb, hml, hown, hts⟩ (c_X10_spelt__81 l D cy z s.heap.size Ps w0 hw.1 105 115 0 0 0 0 0 rl_105 rl_115 rl_0 rl_0 rl_0 rl_0 rl_0) (va_cwS 7 hts (gS tw_1325 tw_1326 tw_15 tw_1327) rfl rfl rfl (by decide +kernel) ⟨Nat.le_of_ble_eq_true rfl, Nat.le_of_ble_eq_true rfl⟩) (tg_preS hw hK hSD hA) rfl rfl hl.1 rfl (lv_room (Nat.le_of_ble_eq_true rfl)) dX10_wordOf_482 ⟨Nat.le_of_ble_eq_true rfl, Nat.le_of_ble_eq_true rfl⟩) hw hA (fun v_24  H locs hp_v_24 hw => ?_)
      obtain ⟨hfn, hp_v_24⟩ := hp_v_24
      have q_v_24 : (f_X10_spelt__47 (105 : Int32) (115 : Int32) (0 : Int32) (0 : Int32) (0 : Int32) (0 : Int32) (0 : Int32)) = v_24 := hfn.1
      have r_v_24 : RJ v_24 262 262 := hp_v_24
      simp only [f_X10_wordOf__7, ↓reduceIte, eq_false cl_1, eq_false n_1_0, eq_false n_1_1, eq_false n_1_2, eq_false n_1_3, eq_false n_1_4, eq_false n_1_5, eq_false n_1_6, eq_false n_1_7, eq_false n_1_8, eq_false n_1_9, eq_false n_1_10, eq_false n_1_11, eq_false n_1_12, eq_false n_1_13, eq_false n_1_14, eq_false n_1_15, eq_false n_1_16, eq_false n_1_17, eq_false n_1_18, eq_false n_1_19, eq_false n_1_20, eq_false n_1_21, eq_true h_1, q_v_24] at hE
      subst hQ
      exact W.lret (v := v_24) hx hb hr (fun t ht hW => ⟨⟨v_24, (), rfl, ⟨⟨(by rw [hR, ← hE]), trivial⟩, r_v_24.to (by decide)⟩, by rw [ht]; exact hw.2.1, va_K.moved hW.alike hK, hw.2.2.1⟩, hw.2.2.2.1.F ht⟩) hw.2.2.2.1.2.2 dX10_wordOf_485
    · refine lv_tableIn (tgt := 486) (off := 485) hx hb dX10_wordOf_1 (by omega) (by omega) (by rw [h_1]; rfl) (by decide) ?_
      have r_p0 : RI p0 23 23 := ⟨by omega, by omega⟩
      have n_1_0 : ¬ (p0.toInt = 0) := by omega
      have n_1_1 : ¬ (p0.toInt = 1) := by omega
      have n_1_2 : ¬ (p0.toInt = 2) := by omega
      have n_1_3 : ¬ (p0.toInt = 3) := by omega
      have n_1_4 : ¬ (p0.toInt = 4) := by omega
      have n_1_5 : ¬ (p0.toInt = 5) := by omega
      have n_1_6 : ¬ (p0.toInt = 6) := by omega
      have n_1_7 : ¬ (p0.toInt = 7) := by omega
      have n_1_8 : ¬ (p0.toInt = 8) := by omega
      have n_1_9 : ¬ (p0.toInt = 9) := by omega
      have n_1_10 : ¬ (p0.toInt = 10) := by omega
      have n_1_11 : ¬ (p0.toInt = 11) := by omega
      have n_1_12 : ¬ (p0.toInt = 12) := by omega
      have n_1_13 : ¬ (p0.toInt = 13) := by omega
      have n_1_14 : ¬ (p0.toInt = 14) := by omega
      have n_1_15 : ¬ (p0.toInt = 15) := by omega
      have n_1_16 : ¬ (p0.toInt = 16) := by omega
      have n_1_17 : ¬ (p0.toInt = 17) := by omega
      have n_1_18 : ¬ (p0.toInt = 18) := by omega
      have n_1_19 : ¬ (p0.toInt = 19) := by omega
      have n_1_20 : ¬ (p0.toInt = 20) := by omega
      have n_1_21 : ¬ (p0.toInt = 21) := by omega
      have n_1_22 : ¬ (p0.toInt = 22) := by omega
      refine lv_bipush (v := 105) hx hb dX10_wordOf_486 (by decide) ?_
      refine lv_bipush (v := 110) hx hb dX10_wordOf_488 (by decide) ?_
      refine lv_iconst (v := 0) hx hb dX10_wordOf_490 (by decide) ?_
      refine lv_iconst (v := 0) hx hb dX10_wordOf_491 (by decide) ?_
      refine lv_iconst (v := 0) hx hb dX10_wordOf_492 (by decide) ?_
      refine lv_iconst (v := 0) hx hb dX10_wordOf_493 (by decide) ?_
      refine lv_iconst (v := 0) hx hb dX10_wordOf_494 (by decide) ?_
      refine tk_lr (va_runS (As := [.int 105, .int 110, .int 0, .int 0, .int 0, .int 0, .int 0]) (rest := []) ⟨hx, hb, hml, hown, hts⟩ (c_X10_spelt__82 l D cy z s.heap.size Ps w0 hw.1 105 110 0 0 0 0 0 rl_105 rl_110 rl_0 rl_0 rl_0 rl_0 rl_0) (va_cwS 7 hts (gS tw_1325 tw_1326 tw_15 tw_1327) rfl rfl rfl (by decide +kernel) ⟨Nat.le_of_ble_eq_true rfl, Nat.le_of_ble_eq_true rfl⟩) (tg_preS hw hK hSD hA) rfl rfl hl.1 rfl (lv_room (Nat.le_of_ble_eq_true rfl)) dX10_wordOf_495 ⟨Nat.le_of_ble_eq_true rfl, Nat.le_of_ble_eq_true rfl⟩) hw hA (fun v_25  H locs hp_v_25 hw => ?_)
      obtain ⟨hfn, hp_v_25⟩ := hp_v_25
      have q_v_25 : (f_X10_spelt__47 (105 : Int32) (110 : Int32) (0 : Int32) (0 : Int32) (0 : Int32) (0 : Int32) (0 : Int32)) = v_25 := hfn.1
      have r_v_25 : RJ v_25 257 257 := hp_v_25
      simp only [f_X10_wordOf__7, ↓reduceIte, eq_false cl_1, eq_false n_1_0, eq_false n_1_1, eq_false n_1_2, eq_false n_1_3, eq_false n_1_4, eq_false n_1_5, eq_false n_1_6, eq_false n_1_7, eq_false n_1_8, eq_false n_1_9, eq_false n_1_10, eq_false n_1_11, eq_false n_1_12, eq_false n_1_13, eq_false n_1_14, eq_false n_1_15, eq_false n_1_16, eq_false n_1_17, eq_false n_1_18, eq_false n_1_19, eq_false n_1_20, eq_false n_1_21, eq_false n_1_22, eq_true h_1, q_v_25] at hE
      subst hQ
      exact W.lret (v := v_25) hx hb hr (fun t ht hW => ⟨⟨v_25, (), rfl, ⟨⟨(by rw [hR, ← hE]), trivial⟩, r_v_25.to (by decide)⟩, by rw [ht]; exact hw.2.1, va_K.moved hW.alike hK, hw.2.2.1⟩, hw.2.2.2.1.F ht⟩) hw.2.2.2.1.2.2 dX10_wordOf_498
    · refine lv_tableIn (tgt := 499) (off := 498) hx hb dX10_wordOf_1 (by omega) (by omega) (by rw [h_1]; rfl) (by decide) ?_
      have r_p0 : RI p0 24 24 := ⟨by omega, by omega⟩
      have n_1_0 : ¬ (p0.toInt = 0) := by omega
      have n_1_1 : ¬ (p0.toInt = 1) := by omega
      have n_1_2 : ¬ (p0.toInt = 2) := by omega
      have n_1_3 : ¬ (p0.toInt = 3) := by omega
      have n_1_4 : ¬ (p0.toInt = 4) := by omega
      have n_1_5 : ¬ (p0.toInt = 5) := by omega
      have n_1_6 : ¬ (p0.toInt = 6) := by omega
      have n_1_7 : ¬ (p0.toInt = 7) := by omega
      have n_1_8 : ¬ (p0.toInt = 8) := by omega
      have n_1_9 : ¬ (p0.toInt = 9) := by omega
      have n_1_10 : ¬ (p0.toInt = 10) := by omega
      have n_1_11 : ¬ (p0.toInt = 11) := by omega
      have n_1_12 : ¬ (p0.toInt = 12) := by omega
      have n_1_13 : ¬ (p0.toInt = 13) := by omega
      have n_1_14 : ¬ (p0.toInt = 14) := by omega
      have n_1_15 : ¬ (p0.toInt = 15) := by omega
      have n_1_16 : ¬ (p0.toInt = 16) := by omega
      have n_1_17 : ¬ (p0.toInt = 17) := by omega
      have n_1_18 : ¬ (p0.toInt = 18) := by omega
      have n_1_19 : ¬ (p0.toInt = 19) := by omega
      have n_1_20 : ¬ (p0.toInt = 20) := by omega
      have n_1_21 : ¬ (p0.toInt = 21) := by omega
      have n_1_22 : ¬ (p0.toInt = 22) := by omega
      have n_1_23 : ¬ (p0.toInt = 23) := by omega
      refine lv_bipush (v := 115) hx hb dX10_wordOf_499 (by decide) ?_
      refine lv_bipush (v := 105) hx hb dX10_wordOf_501 (by decide) ?_
      refine lv_bipush (v := 122) hx hb dX10_wordOf_503 (by decide) ?_
      refine lv_bipush (v := 101) hx hb dX10_wordOf_505 (by decide) ?_
      refine lv_iconst (v := 0) hx hb dX10_wordOf_507 (by decide) ?_
      refine lv_iconst (v := 0) hx hb dX10_wordOf_508 (by decide) ?_
      refine lv_iconst (v := 0) hx hb dX10_wordOf_509 (by decide) ?_
      refine tk_lr (va_runS (As := [.int 115, .int 105, .int 122, .int 101, .int 0, .int 0, .int 0]) (rest := []) ⟨hx, hb, hml, hown, hts⟩ (c_X10_spelt__83 l D cy z s.heap.size Ps w0 hw.1 115 105 122 101 0 0 0 rl_115 rl_105 rl_122 rl_101 rl_0 rl_0 rl_0) (va_cwS 7 hts (gS tw_1325 tw_1326 tw_15 tw_1327) rfl rfl rfl (by decide +kernel) ⟨Nat.le_of_ble_eq_true rfl, Nat.le_of_ble_eq_true rfl⟩) (tg_preS hw hK hSD hA) rfl rfl hl.1 rfl (lv_room (Nat.le_of_ble_eq_true rfl)) dX10_wordOf_510 ⟨Nat.le_of_ble_eq_true rfl, Nat.le_of_ble_eq_true rfl⟩) hw hA (fun v_26  H locs hp_v_26 hw => ?_)
      obtain ⟨hfn, hp_v_26⟩ := hp_v_26
      have q_v_26 : (f_X10_spelt__31 (115 : Int32) (105 : Int32) (122 : Int32) (101 : Int32) (0 : Int32) (0 : Int32) (0 : Int32)) = v_26 := hfn.1
      have r_v_26 : RJ v_26 381245 381245 := hp_v_26
      simp only [f_X10_wordOf__7, ↓reduceIte, eq_false cl_1, eq_false n_1_0, eq_false n_1_1, eq_false n_1_2, eq_false n_1_3, eq_false n_1_4, eq_false n_1_5, eq_false n_1_6, eq_false n_1_7, eq_false n_1_8, eq_false n_1_9, eq_false n_1_10, eq_false n_1_11, eq_false n_1_12, eq_false n_1_13, eq_false n_1_14, eq_false n_1_15, eq_false n_1_16, eq_false n_1_17, eq_false n_1_18, eq_false n_1_19, eq_false n_1_20, eq_false n_1_21, eq_false n_1_22, eq_false n_1_23, eq_true h_1, q_v_26] at hE
      subst hQ
      exact W.lret (v := v_26) hx hb hr (fun t ht hW => ⟨⟨v_26, (), rfl, ⟨⟨(by rw [hR, ← hE]), trivial⟩, r_v_26.to (by decide)⟩, by rw [ht]; exact hw.2.1, va_K.moved hW.alike hK, hw.2.2.1⟩, hw.2.2.2.1.F ht⟩) hw.2.2.2.1.2.2 dX10_wordOf_513
    · refine lv_tableIn (tgt := 514) (off := 513) hx hb dX10_wordOf_1 (by omega) (by omega) (by rw [h_1]; rfl) (by decide) ?_
      have r_p0 : RI p0 25 25 := ⟨by omega, by omega⟩
      have n_1_0 : ¬ (p0.toInt = 0) := by omega
      have n_1_1 : ¬ (p0.toInt = 1) := by omega
      have n_1_2 : ¬ (p0.toInt = 2) := by omega
      have n_1_3 : ¬ (p0.toInt = 3) := by omega
      have n_1_4 : ¬ (p0.toInt = 4) := by omega
      have n_1_5 : ¬ (p0.toInt = 5) := by omega
      have n_1_6 : ¬ (p0.toInt = 6) := by omega
      have n_1_7 : ¬ (p0.toInt = 7) := by omega
      have n_1_8 : ¬ (p0.toInt = 8) := by omega
      have n_1_9 : ¬ (p0.toInt = 9) := by omega
      have n_1_10 : ¬ (p0.toInt = 10) := by omega
      have n_1_11 : ¬ (p0.toInt = 11) := by omega
      have n_1_12 : ¬ (p0.toInt = 12) := by omega
      have n_1_13 : ¬ (p0.toInt = 13) := by omega
      have n_1_14 : ¬ (p0.toInt = 14) := by omega
      have n_1_15 : ¬ (p0.toInt = 15) := by omega
      have n_1_16 : ¬ (p0.toInt = 16) := by omega
      have n_1_17 : ¬ (p0.toInt = 17) := by omega
      have n_1_18 : ¬ (p0.toInt = 18) := by omega
      have n_1_19 : ¬ (p0.toInt = 19) := by omega
      have n_1_20 : ¬ (p0.toInt = 20) := by omega
      have n_1_21 : ¬ (p0.toInt = 21) := by omega
      have n_1_22 : ¬ (p0.toInt = 22) := by omega
      have n_1_23 : ¬ (p0.toInt = 23) := by omega
      have n_1_24 : ¬ (p0.toInt = 24) := by omega
      refine lv_bipush (v := 98) hx hb dX10_wordOf_514 (by decide) ?_
      refine lv_bipush (v := 117) hx hb dX10_wordOf_516 (by decide) ?_
      refine lv_bipush (v := 108) hx hb dX10_wordOf_518 (by decide) ?_
      refine lv_bipush (v := 103) hx hb dX10_wordOf_520 (by decide) ?_
      refine lv_bipush (v := 101) hx hb dX10_wordOf_522 (by decide) ?_
      refine lv_iconst (v := 0) hx hb dX10_wordOf_524 (by decide) ?_
      refine lv_iconst (v := 0) hx hb dX10_wordOf_525 (by decide) ?_
      refine tk_lr (va_runS (As := [.int 98, .int 117, .int 108, .int 103, .int 101, .int 0, .int 0]) (rest := []) ⟨hx, hb, hml, hown, hts⟩ (c_X10_spelt__84 l D cy z s.heap.size Ps w0 hw.1 98 117 108 103 101 0 0 rl_98 rl_117 rl_108 rl_103 rl_101 rl_0 rl_0) (va_cwS 7 hts (gS tw_1325 tw_1326 tw_15 tw_1327) rfl rfl rfl (by decide +kernel) ⟨Nat.le_of_ble_eq_true rfl, Nat.le_of_ble_eq_true rfl⟩) (tg_preS hw hK hSD hA) rfl rfl hl.1 rfl (lv_room (Nat.le_of_ble_eq_true rfl)) dX10_wordOf_526 ⟨Nat.le_of_ble_eq_true rfl, Nat.le_of_ble_eq_true rfl⟩) hw hA (fun v_27  H locs hp_v_27 hw => ?_)
      obtain ⟨hfn, hp_v_27⟩ := hp_v_27
      have q_v_27 : (f_X10_spelt__39 (98 : Int32) (117 : Int32) (108 : Int32) (103 : Int32) (101 : Int32) (0 : Int32) (0 : Int32)) = v_27 := hfn.1
      have r_v_27 : RJ v_27 1485167 1485167 := hp_v_27
      simp only [f_X10_wordOf__7, ↓reduceIte, eq_false cl_1, eq_false n_1_0, eq_false n_1_1, eq_false n_1_2, eq_false n_1_3, eq_false n_1_4, eq_false n_1_5, eq_false n_1_6, eq_false n_1_7, eq_false n_1_8, eq_false n_1_9, eq_false n_1_10, eq_false n_1_11, eq_false n_1_12, eq_false n_1_13, eq_false n_1_14, eq_false n_1_15, eq_false n_1_16, eq_false n_1_17, eq_false n_1_18, eq_false n_1_19, eq_false n_1_20, eq_false n_1_21, eq_false n_1_22, eq_false n_1_23, eq_false n_1_24, eq_true h_1, q_v_27] at hE
      subst hQ
      exact W.lret (v := v_27) hx hb hr (fun t ht hW => ⟨⟨v_27, (), rfl, ⟨⟨(by rw [hR, ← hE]), trivial⟩, r_v_27.to (by decide)⟩, by rw [ht]; exact hw.2.1, va_K.moved hW.alike hK, hw.2.2.1⟩, hw.2.2.2.1.F ht⟩) hw.2.2.2.1.2.2 dX10_wordOf_529
    · refine lv_tableIn (tgt := 530) (off := 529) hx hb dX10_wordOf_1 (by omega) (by omega) (by rw [h_1]; rfl) (by decide) ?_
      have r_p0 : RI p0 26 26 := ⟨by omega, by omega⟩
      have n_1_0 : ¬ (p0.toInt = 0) := by omega
      have n_1_1 : ¬ (p0.toInt = 1) := by omega
      have n_1_2 : ¬ (p0.toInt = 2) := by omega
      have n_1_3 : ¬ (p0.toInt = 3) := by omega
      have n_1_4 : ¬ (p0.toInt = 4) := by omega
      have n_1_5 : ¬ (p0.toInt = 5) := by omega
      have n_1_6 : ¬ (p0.toInt = 6) := by omega
      have n_1_7 : ¬ (p0.toInt = 7) := by omega
      have n_1_8 : ¬ (p0.toInt = 8) := by omega
      have n_1_9 : ¬ (p0.toInt = 9) := by omega
      have n_1_10 : ¬ (p0.toInt = 10) := by omega
      have n_1_11 : ¬ (p0.toInt = 11) := by omega
      have n_1_12 : ¬ (p0.toInt = 12) := by omega
      have n_1_13 : ¬ (p0.toInt = 13) := by omega
      have n_1_14 : ¬ (p0.toInt = 14) := by omega
      have n_1_15 : ¬ (p0.toInt = 15) := by omega
      have n_1_16 : ¬ (p0.toInt = 16) := by omega
      have n_1_17 : ¬ (p0.toInt = 17) := by omega
      have n_1_18 : ¬ (p0.toInt = 18) := by omega
      have n_1_19 : ¬ (p0.toInt = 19) := by omega
      have n_1_20 : ¬ (p0.toInt = 20) := by omega
      have n_1_21 : ¬ (p0.toInt = 21) := by omega
      have n_1_22 : ¬ (p0.toInt = 22) := by omega
      have n_1_23 : ¬ (p0.toInt = 23) := by omega
      have n_1_24 : ¬ (p0.toInt = 24) := by omega
      have n_1_25 : ¬ (p0.toInt = 25) := by omega
      refine lv_bipush (v := 116) hx hb dX10_wordOf_530 (by decide) ?_
      refine lv_bipush (v := 117) hx hb dX10_wordOf_532 (by decide) ?_
      refine lv_bipush (v := 114) hx hb dX10_wordOf_534 (by decide) ?_
      refine lv_bipush (v := 110) hx hb dX10_wordOf_536 (by decide) ?_
      refine lv_bipush (v := 101) hx hb dX10_wordOf_538 (by decide) ?_
      refine lv_bipush (v := 100) hx hb dX10_wordOf_540 (by decide) ?_
      refine lv_iconst (v := 0) hx hb dX10_wordOf_542 (by decide) ?_
      refine tk_lr (va_runS (As := [.int 116, .int 117, .int 114, .int 110, .int 101, .int 100, .int 0]) (rest := []) ⟨hx, hb, hml, hown, hts⟩ (c_X10_spelt__85 l D cy z s.heap.size Ps w0 hw.1 116 117 114 110 101 100 0 rl_116 rl_117 rl_114 rl_110 rl_101 rl_100 rl_0) (va_cwS 7 hts (gS tw_1325 tw_1326 tw_15 tw_1327) rfl rfl rfl (by decide +kernel) ⟨Nat.le_of_ble_eq_true rfl, Nat.le_of_ble_eq_true rfl⟩) (tg_preS hw hK hSD hA) rfl rfl hl.1 rfl (lv_room (Nat.le_of_ble_eq_true rfl)) dX10_wordOf_543 ⟨Nat.le_of_ble_eq_true rfl, Nat.le_of_ble_eq_true rfl⟩) hw hA (fun v_28  H locs hp_v_28 hw => ?_)
      obtain ⟨hfn, hp_v_28⟩ := hp_v_28
      have q_v_28 : (f_X10_spelt__30 (116 : Int32) (117 : Int32) (114 : Int32) (110 : Int32) (101 : Int32) (100 : Int32) (0 : Int32)) = v_28 := hfn.1
      have r_v_28 : RJ v_28 298503040 298503040 := hp_v_28
      simp only [f_X10_wordOf__7, ↓reduceIte, eq_false cl_1, eq_false n_1_0, eq_false n_1_1, eq_false n_1_2, eq_false n_1_3, eq_false n_1_4, eq_false n_1_5, eq_false n_1_6, eq_false n_1_7, eq_false n_1_8, eq_false n_1_9, eq_false n_1_10, eq_false n_1_11, eq_false n_1_12, eq_false n_1_13, eq_false n_1_14, eq_false n_1_15, eq_false n_1_16, eq_false n_1_17, eq_false n_1_18, eq_false n_1_19, eq_false n_1_20, eq_false n_1_21, eq_false n_1_22, eq_false n_1_23, eq_false n_1_24, eq_false n_1_25, q_v_28] at hE
      subst hQ
      exact W.lret (v := v_28) hx hb hr (fun t ht hW => ⟨⟨v_28, (), rfl, ⟨⟨(by rw [hR, ← hE]), trivial⟩, r_v_28.to (by decide)⟩, by rw [ht]; exact hw.2.1, va_K.moved hW.alike hK, hw.2.2.1⟩, hw.2.2.2.1.F ht⟩) hw.2.2.2.1.2.2 dX10_wordOf_546
abbrev wr_X10_isWord__5 : List (Nat × Nat) := []
abbrev wa_X10_isWord__5 : List Nat := []
set_option maxHeartbeats 4000000 in
set_option maxRecDepth 100000 in
theorem c_X10_isWord__5 (l : Launch) (D : va_G) (cy : Nat → ClassId) (z : Nat → Nat) (sz : Nat) (Ps : PSI) (w0 : va_W) (hT : HT cy GG Ps w0) (p0 : Nat) (p1 : Int32) (s0 : OS) (h_p0 : (p0, 55) ∈ Ps) (r_p1 : RI p1 (-2147483648) 2147483647) (o_p0 : OV vw_M2 Ps w0 p0 s0) : Met l yX10_isWord (Cond.code yX10_isWord cX10_isWord 2 (some .boolean) :: gT) ({ frames := 3, cells := 0, slots := 0, locals := 600 } : Room) (va_Pc [.ref p0, .int p1] (PRE D cy z w0 sz)) (va_Qi (fun (r : Int32) (u : Unit) => ((f_X10_isWord__4 p1 s0) = r ∧ True) ∧ (RI r 0 1 ∧ (r = 0 → True) ∧ (¬ r = 0 → True))) (BB D cy (va_A w0 sz) (fun (u : Unit) => w0)) (va_A w0 sz)) 0 0 (va_A w0 sz) := by
  refine Met.ofW (cc := cX10_isWord) (maxL := 2) (ret := (some .boolean)) (by decide) rfl ?_
  intro p e s m args below meth c s₁ B hml hv
  obtain ⟨rfl, hsz, hP, hK, hD0, hSD⟩ := hv
  have hx := B.exec
  have hb := B.bytes
  have hr := B.returns
  have hlocks := B.notSynchronized
  have hts : ∀ w ∈ gT, w.before _ s = true := fun w h => atoms_spec (ws := Cond.code yX10_isWord cX10_isWord 2 (some .boolean) :: gT) B.pre w (List.mem_cons_of_mem _ h)
  have hown : s.vm.findClass RX10 = some m.cls := findClass_of_methodNamed B.named
  subst hsz
  have hD := hD0.self (sz := s.heap.size)
  generalize hAe : va_A w0 s.heap.size = A at hD hSD ⊢
  have hA : ∀ q : Nat, s.heap.size ≤ q → A q := fun q h => by rw [← hAe]; exact Or.inr h
  have hl := lv_entry ([.ref p0, .int p1]) (n := 2) (Nat.le_of_ble_eq_true rfl)
  rw [lg_entry_eq]
  generalize (lg_sl ([.ref p0, .int p1]) ++ List.replicate (2 - (lg_sl ([.ref p0, .int p1])).length) Slot.unset).toArray = ls at hl ⊢
  have hl : lv_has ls 2 [(0, .ref p0), (1, .int p1)] := hl
  refine nameQ (fun Q hQ => ?_)
  have hw : WD D cy GG A s wr_X10_isWord__5 wa_X10_isWord__5 Ps w0 Ps w0 s.heap [] := ⟨hT, hP, hD, va_S.rf, FR.rf, hT.1, [], (List.append_nil _).symm⟩
  obtain ⟨R9, hR⟩ : ∃ q9 : Int32, f_X10_isWord__4 p1 s0 = q9 := ⟨_, rfl⟩
  have hE := hR
  refine lv_aload_n hx hb dX10_isWord_0 rfl (lv_at hl 0 rfl) ?_
  refine tg_get (ci := 10) (ts := ty_MODEL) (C := RX10) (T := TX10) (N := 49) hx hb hts inX10 hown hK hw h_p0 rfl rfl 7 (by decide) (hts _ tw_1144) (fun _ h9 => h9) (ft := vI (-2147483648) 2147483647) rfl dX10_isWord_1 (fun u_1 hv_u_1 m_u_1 => ?_)
  obtain ⟨vu_1, rfl, r_vu_1⟩ := hv_u_1
  have q_vu_1 : s0.1 7 = vu_1 := OV.eqI (V := vw_M2) hw.2.2.1 o_p0 m_u_1 (by decide)
  refine lv_iconst (v := 2) hx hb dX10_isWord_4 (by decide) ?_
  refine lv_icmp_ne (tgt := 24) hx hb dX10_isWord_5 (by decide) (fun c_5 => ?_) (fun c_5 => ?_)
  · refine lv_iconst (v := 0) hx hb dX10_isWord_24 (by decide) ?_
    simp only [f_X10_isWord__4, ↓reduceIte, q_vu_1, eq_false c_5] at hE
    subst hQ
    exact W.zret (v := 0) hx hb hr (rfl) (fun t ht hW => ⟨⟨0, (), rfl, ⟨⟨(by rw [hR, ← hE]), trivial⟩, rl_0.to (by decide), (fun h0 => trivial), (fun _ => trivial)⟩, by rw [ht]; exact hw.2.1, va_K.moved hW.alike hK, hw.2.2.1⟩, hw.2.2.2.1.F ht⟩) hw.2.2.2.1.2.2 dX10_isWord_25
  · have r_vu_1 : RI vu_1 2 2 := rc_eq1 r_vu_1 rl_2 (ti_eq c_5) (by decide)
    refine lv_aload_n hx hb dX10_isWord_8 rfl (lv_at hl 0 rfl) ?_
    refine tg_get (ci := 10) (ts := ty_MODEL) (C := RX10) (T := TX10) (N := 49) hx hb hts inX10 hown hK hw h_p0 rfl rfl 12 (by decide) (hts _ tw_1149) (fun _ h9 => h9) (ft := vJ (-9223372036854775808) 9223372036854775807) rfl dX10_isWord_9 (fun u_2 hv_u_2 m_u_2 => ?_)
    obtain ⟨vu_2, rfl, r_vu_2⟩ := hv_u_2
    have q_vu_2 : s0.2.1 12 = vu_2 := OV.eqL (V := vw_M2) hw.2.2.1 o_p0 m_u_2 (by decide)
    refine lv_iload_n hx hb dX10_isWord_12 rfl (lv_at hl 1 rfl) ?_
    refine tk_lr (va_runS (As := [.int p1]) (rest := [.long vu_2]) ⟨hx, hb, hml, hown, hts⟩ (c_X10_wordOf__9 l D cy z s.heap.size Ps w0 hw.1 p1 r_p1) (va_cwS 1 hts (gS tw_1322 tw_1323 tw_15 tw_1324) rfl rfl rfl (by decide +kernel) ⟨Nat.le_of_ble_eq_true rfl, Nat.le_of_ble_eq_true rfl⟩) (tg_preS hw hK hSD hA) rfl rfl hl.1 rfl (lv_room (Nat.le_of_ble_eq_true rfl)) dX10_isWord_13 ⟨Nat.le_of_ble_eq_true rfl, Nat.le_of_ble_eq_true rfl⟩) hw hA (fun v_3  H locs hp_v_3 hw => ?_)
    obtain ⟨hfn, hp_v_3⟩ := hp_v_3
    have q_v_3 : (f_X10_wordOf__7 p1) = v_3 := hfn.1
    have r_v_3 : RJ v_3 257 8935713994 := hp_v_3
    refine W.lcmp hx hb dX10_isWord_16 (lv_topi (fun v_4 e_v_4 => ?_))
    have r_v_4 := ri_any v_4
    have q_v_4 : lg_cmp vu_2 v_3 = v_4 := e_v_4.symm
    refine lv_if_ne (tgt := 24) hx hb dX10_isWord_17 (by decide) (fun c_17 => ?_) (fun c_17 => ?_)
    · refine lv_iconst (v := 0) hx hb dX10_isWord_24 (by decide) ?_
      simp only [f_X10_isWord__4, ↓reduceIte, q_vu_1, eq_true c_5, q_vu_2, q_v_3, q_v_4, eq_false c_17] at hE
      subst hQ
      exact W.zret (v := 0) hx hb hr (rfl) (fun t ht hW => ⟨⟨0, (), rfl, ⟨⟨(by rw [hR, ← hE]), trivial⟩, rl_0.to (by decide), (fun h0 => trivial), (fun _ => trivial)⟩, by rw [ht]; exact hw.2.1, va_K.moved hW.alike hK, hw.2.2.1⟩, hw.2.2.2.1.F ht⟩) hw.2.2.2.1.2.2 dX10_isWord_25
    · have r_v_4 : RI v_4 0 0 := rc_eq1 r_v_4 rl_0 (ti_eq c_17) (by decide)
      refine lv_iconst (v := 1) hx hb dX10_isWord_20 (by decide) ?_
      refine lv_goto (tgt := 25) hx hb dX10_isWord_21 (by decide) ?_
      simp only [f_X10_isWord__4, ↓reduceIte, q_vu_1, eq_true c_5, q_vu_2, q_v_3, q_v_4, eq_true c_17] at hE
      subst hQ
      exact W.zret (v := 1) hx hb hr (rfl) (fun t ht hW => ⟨⟨1, (), rfl, ⟨⟨(by rw [hR, ← hE]), trivial⟩, rl_1.to (by decide), (fun _ => trivial), (fun h0 => trivial)⟩, by rw [ht]; exact hw.2.1, va_K.moved hW.alike hK, hw.2.2.1⟩, hw.2.2.2.1.F ht⟩) hw.2.2.2.1.2.2 dX10_isWord_25
abbrev wr_X10_bad__2 : List (Nat × Nat) := [(10, 10), (10, 11)]
abbrev wa_X10_bad__2 : List Nat := []
set_option maxHeartbeats 4000000 in
set_option maxRecDepth 100000 in
theorem c_X10_bad__2 (l : Launch) (D : va_G) (cy : Nat → ClassId) (z : Nat → Nat) (sz : Nat) (Ps : PSI) (w0 : va_W) (hT : HT cy GG Ps w0) (p0 : Nat) (p1 : Int32) (s0 : OS) (h_p0 : (p0, 55) ∈ Ps) (r_p1 : RI p1 (-2147483648) 2147483647) (o_p0 : OV vw_M2 Ps w0 p0 s0) : Met l yX10_bad (Cond.code yX10_bad cX10_bad 2 (some .boolean) :: gT) ({ frames := 0, cells := 0, slots := 0, locals := 200 } : Room) (va_Pc [.ref p0, .int p1] (PRE D cy z w0 sz)) (va_Qi (fun (r : Int32) (u : va_W) => ((OV vw_M2 Ps u p0 ((f_X10_bad__1 p1 s0).1) ∧ (f_X10_bad__1 p1 s0).2 = r ∧ True) ∧ (RI r 0 0 ∧ (r = 0 → True) ∧ (¬ r = 0 → True))) ∧ HT cy GG Ps u ∧ FR wr_X10_bad__2 wa_X10_bad__2 Ps w0 u) (BB D cy (va_A w0 sz) (fun (u : va_W) => u)) (va_A w0 sz)) 0 0 (va_A w0 sz) := by
  refine Met.ofW (cc := cX10_bad) (maxL := 2) (ret := (some .boolean)) (by decide) rfl ?_
  intro p e s m args below meth c s₁ B hml hv
  obtain ⟨rfl, hsz, hP, hK, hD0, hSD⟩ := hv
  have hx := B.exec
  have hb := B.bytes
  have hr := B.returns
  have hlocks := B.notSynchronized
  have hts : ∀ w ∈ gT, w.before _ s = true := fun w h => atoms_spec (ws := Cond.code yX10_bad cX10_bad 2 (some .boolean) :: gT) B.pre w (List.mem_cons_of_mem _ h)
  have hown : s.vm.findClass RX10 = some m.cls := findClass_of_methodNamed B.named
  subst hsz
  have hD := hD0.self (sz := s.heap.size)
  generalize hAe : va_A w0 s.heap.size = A at hD hSD ⊢
  have hA : ∀ q : Nat, s.heap.size ≤ q → A q := fun q h => by rw [← hAe]; exact Or.inr h
  have hl := lv_entry ([.ref p0, .int p1]) (n := 2) (Nat.le_of_ble_eq_true rfl)
  rw [lg_entry_eq]
  generalize (lg_sl ([.ref p0, .int p1]) ++ List.replicate (2 - (lg_sl ([.ref p0, .int p1])).length) Slot.unset).toArray = ls at hl ⊢
  have hl : lv_has ls 2 [(0, .ref p0), (1, .int p1)] := hl
  refine nameQ (fun Q hQ => ?_)
  have hw : WD D cy GG A s wr_X10_bad__2 wa_X10_bad__2 Ps w0 Ps w0 s.heap [] := ⟨hT, hP, hD, va_S.rf, FR.rf, hT.1, [], (List.append_nil _).symm⟩
  obtain ⟨R9, hR⟩ : ∃ q9 : OS × Int32, f_X10_bad__1 p1 s0 = q9 := ⟨_, rfl⟩
  have hE := hR
  have B14 : ∀ (y0 : Int32) (s0 : OS) (ws : va_W) (H : Heap) (locs : List Loc) (ls : Array Slot), RI p1 (-2147483648) 2147483647 → RI y0 (-2147483648) 2147483647 → OV vw_M2 Ps ws p0 s0 → f_X10_bad__1_14 p1 y0 s0 = R9 → WD D cy GG A s wr_X10_bad__2 wa_X10_bad__2 Ps w0 Ps ws H locs → lv_has ls 2 [(0, .ref p0), (1, .int p1)] → W p l e (headSpec (Cond.code yX10_bad cX10_bad 2 (some .boolean) :: gT) ({ frames := 0, cells := 0, slots := 0, locals := 200 } : Room)).room s m ([.ref p0, .int p1] : List Value).toArray below meth c H locs 0 0 Q (F0 m 14 ls [.int y0, .ref p0]) := by
    intro y0 s0 ws H locs ls r_p1 r_y0 o_p0 hE hw hl
    refine tg_put (ci := 10) (ts := ty_MODEL) (v := .int y0) (ty := .int) (C := RX10) (T := TX10) (N := 49) hx hb hts inX10 tyX10 tyX10_ok nmX10 hown hK hw h_p0 rfl rfl 10 (by decide) (hts _ tw_1147) (fun _ h9 => h9) rfl (by decide +kernel) rfl rfl (ft := vI (-2147483648) 2147483647) rfl ⟨_, rfl, r_y0⟩ (by decide) dX10_bad_14 (fun ws H locs hw n_k_1 hF9 => ?_)
    obtain ⟨sg_2, q_sg_2⟩ : ∃ q9 : OS, sI s0 10 y0 = q9 := ⟨_, rfl⟩
    have o_p0 : OV vw_M2 Ps ws p0 sg_2 := by rw [← q_sg_2]; exact OV.putI (V := vw_M2) hF9 n_k_1 o_p0 (by decide)
    refine lv_aload_n hx hb dX10_bad_17 rfl (lv_at hl 0 rfl) ?_
    refine lv_aload_n hx hb dX10_bad_18 rfl (lv_at hl 0 rfl) ?_
    refine tg_get (ci := 10) (ts := ty_MODEL) (C := RX10) (T := TX10) (N := 49) hx hb hts inX10 hown hK hw h_p0 rfl rfl 6 (by decide) (hts _ tw_1143) (fun _ h9 => h9) (ft := vI (-2147483648) 2147483647) rfl dX10_bad_19 (fun u_3 hv_u_3 m_u_3 => ?_)
    obtain ⟨vu_3, rfl, r_vu_3⟩ := hv_u_3
    have q_vu_3 : sg_2.1 6 = vu_3 := OV.eqI (V := vw_M2) hw.2.2.1 o_p0 m_u_3 (by decide)
    refine tg_put (ci := 10) (ts := ty_MODEL) (v := .int vu_3) (ty := .int) (C := RX10) (T := TX10) (N := 49) hx hb hts inX10 tyX10 tyX10_ok nmX10 hown hK hw h_p0 rfl rfl 11 (by decide) (hts _ tw_1148) (fun _ h9 => h9) rfl (by decide +kernel) rfl rfl (ft := vI (-2147483648) 2147483647) rfl ⟨_, rfl, r_vu_3⟩ (by decide) dX10_bad_22 (fun ws H locs hw n_k_4 hF9 => ?_)
    have n_k_1 := FLD.over hF9 n_k_1 (by decide)
    have m_u_3 := FLD.over hF9 m_u_3 (by decide)
    obtain ⟨sg_5, q_sg_5⟩ : ∃ q9 : OS, sI sg_2 11 vu_3 = q9 := ⟨_, rfl⟩
    have o_p0 : OV vw_M2 Ps ws p0 sg_5 := by rw [← q_sg_5]; exact OV.putI (V := vw_M2) hF9 n_k_4 o_p0 (by decide)
    refine lv_iconst (v := 0) hx hb dX10_bad_25 (by decide) ?_
    simp only [f_X10_bad__1_14, ↓reduceIte, q_sg_2, q_vu_3, q_sg_5] at hE
    subst hQ
    exact W.zret (v := 0) hx hb hr (rfl) (fun t ht hW => ⟨⟨0, ws, rfl, ⟨⟨⟨(by rw [hR, ← hE]; exact o_p0), (by rw [hR, ← hE]), trivial⟩, rl_0.to (by decide), (fun h0 => trivial), (fun _ => trivial)⟩, hw.1, hw.2.2.2.2.1⟩, by rw [ht]; exact hw.2.1, va_K.moved hW.alike hK, hw.2.2.1⟩, hw.2.2.2.1.F ht⟩) hw.2.2.2.1.2.2 dX10_bad_26
  refine lv_aload_n hx hb dX10_bad_0 rfl (lv_at hl 0 rfl) ?_
  refine lv_aload_n hx hb dX10_bad_1 rfl (lv_at hl 0 rfl) ?_
  refine tg_get (ci := 10) (ts := ty_MODEL) (C := RX10) (T := TX10) (N := 49) hx hb hts inX10 hown hK hw h_p0 rfl rfl 7 (by decide) (hts _ tw_1144) (fun _ h9 => h9) (ft := vI (-2147483648) 2147483647) rfl dX10_bad_2 (fun u_6 hv_u_6 m_u_6 => ?_)
  obtain ⟨vu_6, rfl, r_vu_6⟩ := hv_u_6
  have q_vu_6 : s0.1 7 = vu_6 := OV.eqI (V := vw_M2) hw.2.2.1 o_p0 m_u_6 (by decide)
  refine lv_iconst (v := 1) hx hb dX10_bad_5 (by decide) ?_
  refine lv_icmp_ne (tgt := 13) hx hb dX10_bad_6 (by decide) (fun c_6 => ?_) (fun c_6 => ?_)
  · refine lv_iload_n hx hb dX10_bad_13 rfl (lv_at hl 1 rfl) ?_
    simp only [f_X10_bad__1, ↓reduceIte, q_vu_6, eq_false c_6] at hE
    exact B14 p1 s0 w0 _ _ ls r_p1 r_p1 o_p0 hE hw hl
  · have r_vu_6 : RI vu_6 1 1 := rc_eq1 r_vu_6 rl_1 (ti_eq c_6) (by decide)
    refine lv_iconst (v := 1) hx hb dX10_bad_9 (by decide) ?_
    refine lv_goto (tgt := 14) hx hb dX10_bad_10 (by decide) ?_
    simp only [f_X10_bad__1, ↓reduceIte, q_vu_6, eq_true c_6] at hE
    exact B14 1 s0 w0 _ _ ls r_p1 (rl_1.to (by decide)) o_p0 hE hw hl
abbrev wr_X10_isSign__2 : List (Nat × Nat) := []
abbrev wa_X10_isSign__2 : List Nat := []
set_option maxHeartbeats 4000000 in
set_option maxRecDepth 100000 in
theorem c_X10_isSign__2 (l : Launch) (D : va_G) (cy : Nat → ClassId) (z : Nat → Nat) (sz : Nat) (Ps : PSI) (w0 : va_W) (hT : HT cy GG Ps w0) (p0 : Nat) (p1 : Int32) (s0 : OS) (h_p0 : (p0, 55) ∈ Ps) (r_p1 : RI p1 (-2147483648) 2147483647) (o_p0 : OV vw_M2 Ps w0 p0 s0) : Met l yX10_isSign (Cond.code yX10_isSign cX10_isSign 2 (some .boolean) :: gT) ({ frames := 0, cells := 0, slots := 0, locals := 200 } : Room) (va_Pc [.ref p0, .int p1] (PRE D cy z w0 sz)) (va_Qi (fun (r : Int32) (u : Unit) => ((f_X10_isSign__1 p1 s0) = r ∧ True) ∧ (RI r 0 1 ∧ (r = 0 → True) ∧ (¬ r = 0 → (∃ v9 : Int32, FLD w0 p0 10 7 (.int v9) ∧ RI v9 4 4) ∧ True))) (BB D cy (va_A w0 sz) (fun (u : Unit) => w0)) (va_A w0 sz)) 0 0 (va_A w0 sz) := by
  refine Met.ofW (cc := cX10_isSign) (maxL := 2) (ret := (some .boolean)) (by decide) rfl ?_
  intro p e s m args below meth c s₁ B hml hv
  obtain ⟨rfl, hsz, hP, hK, hD0, hSD⟩ := hv
  have hx := B.exec
  have hb := B.bytes
  have hr := B.returns
  have hlocks := B.notSynchronized
  have hts : ∀ w ∈ gT, w.before _ s = true := fun w h => atoms_spec (ws := Cond.code yX10_isSign cX10_isSign 2 (some .boolean) :: gT) B.pre w (List.mem_cons_of_mem _ h)
  have hown : s.vm.findClass RX10 = some m.cls := findClass_of_methodNamed B.named
  subst hsz
  have hD := hD0.self (sz := s.heap.size)
  generalize hAe : va_A w0 s.heap.size = A at hD hSD ⊢
  have hA : ∀ q : Nat, s.heap.size ≤ q → A q := fun q h => by rw [← hAe]; exact Or.inr h
  have hl := lv_entry ([.ref p0, .int p1]) (n := 2) (Nat.le_of_ble_eq_true rfl)
  rw [lg_entry_eq]
  generalize (lg_sl ([.ref p0, .int p1]) ++ List.replicate (2 - (lg_sl ([.ref p0, .int p1])).length) Slot.unset).toArray = ls at hl ⊢
  have hl : lv_has ls 2 [(0, .ref p0), (1, .int p1)] := hl
  refine nameQ (fun Q hQ => ?_)
  have hw : WD D cy GG A s wr_X10_isSign__2 wa_X10_isSign__2 Ps w0 Ps w0 s.heap [] := ⟨hT, hP, hD, va_S.rf, FR.rf, hT.1, [], (List.append_nil _).symm⟩
  obtain ⟨R9, hR⟩ : ∃ q9 : Int32, f_X10_isSign__1 p1 s0 = q9 := ⟨_, rfl⟩
  have hE := hR
  refine lv_aload_n hx hb dX10_isSign_0 rfl (lv_at hl 0 rfl) ?_
  refine tg_get (ci := 10) (ts := ty_MODEL) (C := RX10) (T := TX10) (N := 49) hx hb hts inX10 hown hK hw h_p0 rfl rfl 7 (by decide) (hts _ tw_1144) (fun _ h9 => h9) (ft := vI (-2147483648) 2147483647) rfl dX10_isSign_1 (fun u_1 hv_u_1 m_u_1 => ?_)
  obtain ⟨vu_1, rfl, r_vu_1⟩ := hv_u_1
  have q_vu_1 : s0.1 7 = vu_1 := OV.eqI (V := vw_M2) hw.2.2.1 o_p0 m_u_1 (by decide)
  refine lv_iconst (v := 4) hx hb dX10_isSign_4 (by decide) ?_
  refine lv_icmp_ne (tgt := 20) hx hb dX10_isSign_5 (by decide) (fun c_5 => ?_) (fun c_5 => ?_)
  · refine lv_iconst (v := 0) hx hb dX10_isSign_20 (by decide) ?_
    simp only [f_X10_isSign__1, ↓reduceIte, q_vu_1, eq_false c_5] at hE
    subst hQ
    exact W.zret (v := 0) hx hb hr (rfl) (fun t ht hW => ⟨⟨0, (), rfl, ⟨⟨(by rw [hR, ← hE]), trivial⟩, rl_0.to (by decide), (fun h0 => trivial), (fun h0 => absurd rfl h0)⟩, by rw [ht]; exact hw.2.1, va_K.moved hW.alike hK, hw.2.2.1⟩, hw.2.2.2.1.F ht⟩) hw.2.2.2.1.2.2 dX10_isSign_21
  · have r_vu_1 : RI vu_1 4 4 := rc_eq1 r_vu_1 rl_4 (ti_eq c_5) (by decide)
    refine lv_aload_n hx hb dX10_isSign_8 rfl (lv_at hl 0 rfl) ?_
    refine tg_get (ci := 10) (ts := ty_MODEL) (C := RX10) (T := TX10) (N := 49) hx hb hts inX10 hown hK hw h_p0 rfl rfl 9 (by decide) (hts _ tw_1146) (fun _ h9 => h9) (ft := vI (-2147483648) 2147483647) rfl dX10_isSign_9 (fun u_2 hv_u_2 m_u_2 => ?_)
    obtain ⟨vu_2, rfl, r_vu_2⟩ := hv_u_2
    have q_vu_2 : s0.1 9 = vu_2 := OV.eqI (V := vw_M2) hw.2.2.1 o_p0 m_u_2 (by decide)
    refine lv_iload_n hx hb dX10_isSign_12 rfl (lv_at hl 1 rfl) ?_
    refine lv_icmp_ne (tgt := 20) hx hb dX10_isSign_13 (by decide) (fun c_13 => ?_) (fun c_13 => ?_)
    · refine lv_iconst (v := 0) hx hb dX10_isSign_20 (by decide) ?_
      simp only [f_X10_isSign__1, ↓reduceIte, q_vu_1, eq_true c_5, q_vu_2, eq_false c_13] at hE
      subst hQ
      exact W.zret (v := 0) hx hb hr (rfl) (fun t ht hW => ⟨⟨0, (), rfl, ⟨⟨(by rw [hR, ← hE]), trivial⟩, rl_0.to (by decide), (fun h0 => trivial), (fun h0 => absurd rfl h0)⟩, by rw [ht]; exact hw.2.1, va_K.moved hW.alike hK, hw.2.2.1⟩, hw.2.2.2.1.F ht⟩) hw.2.2.2.1.2.2 dX10_isSign_21
    · refine lv_iconst (v := 1) hx hb dX10_isSign_16 (by decide) ?_
      refine lv_goto (tgt := 21) hx hb dX10_isSign_17 (by decide) ?_
      simp only [f_X10_isSign__1, ↓reduceIte, q_vu_1, eq_true c_5, q_vu_2, eq_true c_13] at hE
      subst hQ
      exact W.zret (v := 1) hx hb hr (rfl) (fun t ht hW => ⟨⟨1, (), rfl, ⟨⟨(by rw [hR, ← hE]), trivial⟩, rl_1.to (by decide), (fun _ => trivial), (fun h0 => ⟨⟨_, m_u_1, r_vu_1⟩, trivial⟩)⟩, by rw [ht]; exact hw.2.1, va_K.moved hW.alike hK, hw.2.2.1⟩, hw.2.2.2.1.F ht⟩) hw.2.2.2.1.2.2 dX10_isSign_21
abbrev wr_X10_readSaid__17 : List (Nat × Nat) := [(10, 10), (10, 11)]
abbrev wa_X10_readSaid__17 : List Nat := []
set_option maxHeartbeats 4000000 in
set_option maxRecDepth 100000 in
theorem c_X10_readSaid__17 (l : Launch) (D : va_G) (cy : Nat → ClassId) (z : Nat → Nat) (sz : Nat) (Ps : PSI) (w0 : va_W) (hT : HT cy GG Ps w0) (p0 : Nat) (f0_47 : Int32) (gd : Int) (gh : Int) (gg : Int) (s0 : OS) (h_p0 : (p0, 55) ∈ Ps) (r_f0_47 : RI f0_47 8 8) (m_f0_47 : FLD w0 p0 10 47 (.int f0_47)) (x_SN_p0_gd_gh_gg : SNp w0 p0 (gd) (gh) (gg)) (o_p0 : OV vw_M2 Ps w0 p0 s0) : Met l yX10_readSaid (Cond.code yX10_readSaid cX10_readSaid 4 (some .boolean) :: gT) ({ frames := 4, cells := 0, slots := 0, locals := 800 } : Room) (va_Pc [.ref p0] (PRE D cy z w0 sz)) (va_Qi (fun (r : Int32) (u : va_W) => ((OV vw_M2 Ps u p0 ((f_X10_readSaid__17 s0).1) ∧ (f_X10_readSaid__17 s0).2 = r ∧ True) ∧ (RI r 0 0 ∧ (r = 0 → (∃ v9 : Int32, FLD u p0 10 47 (.int v9) ∧ RI v9 8 8) ∧ True) ∧ (¬ r = 0 → SNT u p0 (gd+1) (gh+1) (gg) ∧ True))) ∧ HT cy GG Ps u ∧ FR wr_X10_readSaid__17 wa_X10_readSaid__17 Ps w0 u) (BB D cy (va_A w0 sz) (fun (u : va_W) => u)) (va_A w0 sz)) 0 0 (va_A w0 sz) := by
  refine Met.ofW (cc := cX10_readSaid) (maxL := 4) (ret := (some .boolean)) (by decide) rfl ?_
  intro p e s m args below meth c s₁ B hml hv
  obtain ⟨rfl, hsz, hP, hK, hD0, hSD⟩ := hv
  have hx := B.exec
  have hb := B.bytes
  have hr := B.returns
  have hlocks := B.notSynchronized
  have hts : ∀ w ∈ gT, w.before _ s = true := fun w h => atoms_spec (ws := Cond.code yX10_readSaid cX10_readSaid 4 (some .boolean) :: gT) B.pre w (List.mem_cons_of_mem _ h)
  have hown : s.vm.findClass RX10 = some m.cls := findClass_of_methodNamed B.named
  subst hsz
  have hD := hD0.self (sz := s.heap.size)
  generalize hAe : va_A w0 s.heap.size = A at hD hSD ⊢
  have hA : ∀ q : Nat, s.heap.size ≤ q → A q := fun q h => by rw [← hAe]; exact Or.inr h
  have hl := lv_entry ([.ref p0]) (n := 4) (Nat.le_of_ble_eq_true rfl)
  rw [lg_entry_eq]
  generalize (lg_sl ([.ref p0]) ++ List.replicate (4 - (lg_sl ([.ref p0])).length) Slot.unset).toArray = ls at hl ⊢
  have hl : lv_has ls 4 [(0, .ref p0)] := hl
  refine nameQ (fun Q hQ => ?_)
  have hw : WD D cy GG A s wr_X10_readSaid__17 wa_X10_readSaid__17 Ps w0 Ps w0 s.heap [] := ⟨hT, hP, hD, va_S.rf, FR.rf, hT.1, [], (List.append_nil _).symm⟩
  obtain ⟨R9, hR⟩ : ∃ q9 : OS × Int32, f_X10_readSaid__17 s0 = q9 := ⟨_, rfl⟩
  have hE := hR
  have B30 : ∀ (x1 : Int32) (x2 : Int32) (z0_47 : Int32) (s0 : OS) (ws : va_W) (H : Heap) (locs : List Loc) (ls : Array Slot), RI x1 0 1 → RI x2 18 28 → RI z0_47 8 8 → FLD ws p0 10 47 (.int z0_47) → SNp ws p0 (gd) (gh) (gg) → OV vw_M2 Ps ws p0 s0 → f_X10_readSaid__17_30 x1 x2 s0 = R9 → WD D cy GG A s wr_X10_readSaid__17 wa_X10_readSaid__17 Ps w0 Ps ws H locs → lv_has ls 4 [(0, .ref p0), (1, .int x1), (2, .int x2)] → W p l e (headSpec (Cond.code yX10_readSaid cX10_readSaid 4 (some .boolean) :: gT) ({ frames := 4, cells := 0, slots := 0, locals := 800 } : Room)).room s m ([.ref p0] : List Value).toArray below meth c H locs 0 0 Q (F0 m 30 ls []) := by
    intro x1 x2 z0_47 s0 ws H locs ls r_x1 r_x2 r_z0_47 m_z0_47 x_SN_p0_gd_gh_gg o_p0 hE hw hl
    have q_z0_47 : s0.1 47 = z0_47 := OV.eqI (V := vw_M2) hw.2.2.1 o_p0 m_z0_47 (by decide)
    refine lv_iload_n hx hb dX10_readSaid_30 rfl (lv_at hl 1 rfl) ?_
    refine lv_if_ne (tgt := 46) hx hb dX10_readSaid_31 (by decide) (fun c_31 => ?_) (fun c_31 => ?_)
    · have r_x1 : RI x1 1 1 := rc_neL r_x1 rl_0 (ti_ne c_31) (by decide)
      refine lv_aload_n hx hb dX10_readSaid_46 rfl (lv_at hl 0 rfl) ?_
      refine tg_get (ci := 10) (ts := ty_MODEL) (C := RX10) (T := TX10) (N := 49) hx hb hts inX10 hown hK hw h_p0 rfl rfl 46 (by decide) (hts _ tw_1183) (fun _ h9 => h9) (ft := vI (-2147483648) 2147483647) rfl dX10_readSaid_47 (fun u_1 hv_u_1 m_u_1 => ?_)
      obtain ⟨vu_1, rfl, r_vu_1⟩ := hv_u_1
      have q_vu_1 : s0.1 46 = vu_1 := OV.eqI (V := vw_M2) hw.2.2.1 o_p0 m_u_1 (by decide)
      obtain ⟨n9, hn9, rn9, r_vu_1, b9⟩ := SNp.getO hw x_SN_p0_gd_gh_gg m_u_1
      refine lv_bipush (v := 20) hx hb dX10_readSaid_50 (by decide) ?_
      refine lv_icmp_eq (tgt := 64) hx hb dX10_readSaid_52 (by decide) (fun c_52 => ?_) (fun c_52 => ?_)
      · have r_vu_1 : RI vu_1 20 20 := rc_eq1 r_vu_1 rl_20 (ti_eq c_52) (by decide)
        refine lv_aload_n hx hb dX10_readSaid_64 rfl (lv_at hl 0 rfl) ?_
        refine lv_iconst (v := 4) hx hb dX10_readSaid_65 (by decide) ?_
        refine tk_i (va_runV (As := [.int 4]) (rest := []) ⟨hx, hb, hml, hown, hts⟩ (c_X10_bad__2 l D cy z H.size Ps ws hw.1 p0 4 s0 h_p0 (rl_4.to (by decide)) o_p0) (cwV 1 hts (gV tw_1336 tw_1338 ts_46 tw_15 tw_1339) rfl rfl rfl (by decide +kernel) ⟨Nat.le_of_ble_eq_true rfl, Nat.le_of_ble_eq_true rfl⟩) (tg_preV hw hK hSD hA (ci := 10) (q := (RX10, TX10, 49)) rfl h_p0 rfl) rfl rfl hl.1 rfl (lv_room (Nat.le_of_ble_eq_true rfl)) dX10_readSaid_66 ⟨Nat.le_of_ble_eq_true rfl, Nat.le_of_ble_eq_true rfl⟩) hw hA ⟨by decide, by decide⟩ (fun v_2 ws H locs hp_v_2 hw hF9 => ?_)
        have m_z0_47 := FLD.over hF9 m_z0_47 (by decide)
        have m_u_1 := FLD.over hF9 m_u_1 (by decide)
        have hn9 := FLD.over hF9 hn9 (by decide)
        have x_SN_p0_gd_gh_gg := SNp.over hF9 x_SN_p0_gd_gh_gg (by decide)
        obtain ⟨hfn, hp_v_2⟩ := hp_v_2
        obtain ⟨sg_3, q_sg_3⟩ : ∃ q9 : OS, (f_X10_bad__1 (4 : Int32) s0).1 = q9 := ⟨_, rfl⟩
        have o_p0 : OV vw_M2 Ps ws p0 sg_3 := by rw [← q_sg_3]; exact hfn.1
        have q_v_2 : (f_X10_bad__1 (4 : Int32) s0).2 = v_2 := hfn.2.1
        have r_v_2 : RI v_2 0 0 := hp_v_2.1
        simp only [f_X10_readSaid__17_30, ↓reduceIte, q_z0_47, eq_false c_31, q_vu_1, eq_true c_52, q_sg_3, q_v_2] at hE
        subst hQ
        exact W.zret (v := v_2) hx hb hr (tq_nz (r_v_2.to (by decide))) (fun t ht hW => ⟨⟨v_2, ws, rfl, ⟨⟨⟨(by rw [hR, ← hE]; exact o_p0), (by rw [hR, ← hE]), trivial⟩, r_v_2.to (by decide), (fun h0 => ⟨⟨_, m_z0_47, r_z0_47⟩, trivial⟩), (fun h0 => absurd (Int32.toInt_inj.mp (by have h8 := r_v_2; unfold RI at h8; rw [Int32.toInt_zero]; omega)) h0)⟩, hw.1, hw.2.2.2.2.1⟩, by rw [ht]; exact hw.2.1, va_K.moved hW.alike hK, hw.2.2.1⟩, hw.2.2.2.1.F ht⟩) hw.2.2.2.1.2.2 dX10_readSaid_69
      · have r_vu_1 : RI vu_1 0 19 := rc_neU r_vu_1 rl_20 (ti_ne c_52) (by decide)
        refine lv_aload_n hx hb dX10_readSaid_55 rfl (lv_at hl 0 rfl) ?_
        refine tg_mem (ci := 10) (C := RX10) (T := TX10) (N := 49) hx hb hts inX10 hown hK hw 47 m_z0_47 rfl (by decide) (hts _ tw_1184) (fun _ h9 => h9) dX10_readSaid_56 ?_
        refine lv_bipush (v := 8) hx hb dX10_readSaid_59 (by decide) ?_
        refine lv_icmp_ne (tgt := 70) hx hb dX10_readSaid_61 (by decide) (fun c_61 => ?_) (fun c_61 => ?_)
        · exact absurd (r_z0_47.eq.trans rl_8.eq.symm) ((ti_ne c_61))
        · refine lv_aload_n hx hb dX10_readSaid_64 rfl (lv_at hl 0 rfl) ?_
          refine lv_iconst (v := 4) hx hb dX10_readSaid_65 (by decide) ?_
          refine tk_i (va_runV (As := [.int 4]) (rest := []) ⟨hx, hb, hml, hown, hts⟩ (c_X10_bad__2 l D cy z H.size Ps ws hw.1 p0 4 s0 h_p0 (rl_4.to (by decide)) o_p0) (cwV 1 hts (gV tw_1336 tw_1338 ts_46 tw_15 tw_1339) rfl rfl rfl (by decide +kernel) ⟨Nat.le_of_ble_eq_true rfl, Nat.le_of_ble_eq_true rfl⟩) (tg_preV hw hK hSD hA (ci := 10) (q := (RX10, TX10, 49)) rfl h_p0 rfl) rfl rfl hl.1 rfl (lv_room (Nat.le_of_ble_eq_true rfl)) dX10_readSaid_66 ⟨Nat.le_of_ble_eq_true rfl, Nat.le_of_ble_eq_true rfl⟩) hw hA ⟨by decide, by decide⟩ (fun v_4 ws H locs hp_v_4 hw hF9 => ?_)
          have m_z0_47 := FLD.over hF9 m_z0_47 (by decide)
          have m_u_1 := FLD.over hF9 m_u_1 (by decide)
          have hn9 := FLD.over hF9 hn9 (by decide)
          have x_SN_p0_gd_gh_gg := SNp.over hF9 x_SN_p0_gd_gh_gg (by decide)
          obtain ⟨hfn, hp_v_4⟩ := hp_v_4
          obtain ⟨sg_5, q_sg_5⟩ : ∃ q9 : OS, (f_X10_bad__1 (4 : Int32) s0).1 = q9 := ⟨_, rfl⟩
          have o_p0 : OV vw_M2 Ps ws p0 sg_5 := by rw [← q_sg_5]; exact hfn.1
          have q_v_4 : (f_X10_bad__1 (4 : Int32) s0).2 = v_4 := hfn.2.1
          have r_v_4 : RI v_4 0 0 := hp_v_4.1
          simp only [f_X10_readSaid__17_30, ↓reduceIte, q_z0_47, eq_false c_31, q_vu_1, eq_false c_52, eq_true c_61, q_sg_5, q_v_4] at hE
          subst hQ
          exact W.zret (v := v_4) hx hb hr (tq_nz (r_v_4.to (by decide))) (fun t ht hW => ⟨⟨v_4, ws, rfl, ⟨⟨⟨(by rw [hR, ← hE]; exact o_p0), (by rw [hR, ← hE]), trivial⟩, r_v_4.to (by decide), (fun h0 => ⟨⟨_, m_z0_47, r_z0_47⟩, trivial⟩), (fun h0 => absurd (Int32.toInt_inj.mp (by have h8 := r_v_4; unfold RI at h8; rw [Int32.toInt_zero]; omega)) h0)⟩, hw.1, hw.2.2.2.2.1⟩, by rw [ht]; exact hw.2.1, va_K.moved hW.alike hK, hw.2.2.1⟩, hw.2.2.2.1.F ht⟩) hw.2.2.2.1.2.2 dX10_readSaid_69
    · have r_x1 : RI x1 0 0 := rc_eq1 r_x1 rl_0 (ti_eq c_31) (by decide)
      refine lv_iload_n hx hb dX10_readSaid_34 rfl (lv_at hl 2 rfl) ?_
      refine lv_bipush (v := 27) hx hb dX10_readSaid_35 (by decide) ?_
      refine lv_icmp_le (tgt := 46) hx hb dX10_readSaid_37 (by decide) (fun c_37 => ?_) (fun c_37 => ?_)
      · have r_x2 : RI x2 18 27 := rc_le1 r_x2 rl_27 (ti_le c_37) (by decide)
        refine lv_aload_n hx hb dX10_readSaid_46 rfl (lv_at hl 0 rfl) ?_
        refine tg_get (ci := 10) (ts := ty_MODEL) (C := RX10) (T := TX10) (N := 49) hx hb hts inX10 hown hK hw h_p0 rfl rfl 46 (by decide) (hts _ tw_1183) (fun _ h9 => h9) (ft := vI (-2147483648) 2147483647) rfl dX10_readSaid_47 (fun u_6 hv_u_6 m_u_6 => ?_)
        obtain ⟨vu_6, rfl, r_vu_6⟩ := hv_u_6
        have q_vu_6 : s0.1 46 = vu_6 := OV.eqI (V := vw_M2) hw.2.2.1 o_p0 m_u_6 (by decide)
        obtain ⟨n9, hn9, rn9, r_vu_6, b9⟩ := SNp.getO hw x_SN_p0_gd_gh_gg m_u_6
        refine lv_bipush (v := 20) hx hb dX10_readSaid_50 (by decide) ?_
        refine lv_icmp_eq (tgt := 64) hx hb dX10_readSaid_52 (by decide) (fun c_52 => ?_) (fun c_52 => ?_)
        · have r_vu_6 : RI vu_6 20 20 := rc_eq1 r_vu_6 rl_20 (ti_eq c_52) (by decide)
          refine lv_aload_n hx hb dX10_readSaid_64 rfl (lv_at hl 0 rfl) ?_
          refine lv_iconst (v := 4) hx hb dX10_readSaid_65 (by decide) ?_
          refine tk_i (va_runV (As := [.int 4]) (rest := []) ⟨hx, hb, hml, hown, hts⟩ (c_X10_bad__2 l D cy z H.size Ps ws hw.1 p0 4 s0 h_p0 (rl_4.to (by decide)) o_p0) (cwV 1 hts (gV tw_1336 tw_1338 ts_46 tw_15 tw_1339) rfl rfl rfl (by decide +kernel) ⟨Nat.le_of_ble_eq_true rfl, Nat.le_of_ble_eq_true rfl⟩) (tg_preV hw hK hSD hA (ci := 10) (q := (RX10, TX10, 49)) rfl h_p0 rfl) rfl rfl hl.1 rfl (lv_room (Nat.le_of_ble_eq_true rfl)) dX10_readSaid_66 ⟨Nat.le_of_ble_eq_true rfl, Nat.le_of_ble_eq_true rfl⟩) hw hA ⟨by decide, by decide⟩ (fun v_7 ws H locs hp_v_7 hw hF9 => ?_)
          have m_z0_47 := FLD.over hF9 m_z0_47 (by decide)
          have m_u_6 := FLD.over hF9 m_u_6 (by decide)
          have hn9 := FLD.over hF9 hn9 (by decide)
          have x_SN_p0_gd_gh_gg := SNp.over hF9 x_SN_p0_gd_gh_gg (by decide)
          obtain ⟨hfn, hp_v_7⟩ := hp_v_7
          obtain ⟨sg_8, q_sg_8⟩ : ∃ q9 : OS, (f_X10_bad__1 (4 : Int32) s0).1 = q9 := ⟨_, rfl⟩
          have o_p0 : OV vw_M2 Ps ws p0 sg_8 := by rw [← q_sg_8]; exact hfn.1
          have q_v_7 : (f_X10_bad__1 (4 : Int32) s0).2 = v_7 := hfn.2.1
          have r_v_7 : RI v_7 0 0 := hp_v_7.1
          simp only [f_X10_readSaid__17_30, ↓reduceIte, q_z0_47, eq_true c_31, eq_true c_37, q_vu_6, eq_true c_52, q_sg_8, q_v_7] at hE
          subst hQ
          exact W.zret (v := v_7) hx hb hr (tq_nz (r_v_7.to (by decide))) (fun t ht hW => ⟨⟨v_7, ws, rfl, ⟨⟨⟨(by rw [hR, ← hE]; exact o_p0), (by rw [hR, ← hE]), trivial⟩, r_v_7.to (by decide), (fun h0 => ⟨⟨_, m_z0_47, r_z0_47⟩, trivial⟩), (fun h0 => absurd (Int32.toInt_inj.mp (by have h8 := r_v_7; unfold RI at h8; rw [Int32.toInt_zero]; omega)) h0)⟩, hw.1, hw.2.2.2.2.1⟩, by rw [ht]; exact hw.2.1, va_K.moved hW.alike hK, hw.2.2.1⟩, hw.2.2.2.1.F ht⟩) hw.2.2.2.1.2.2 dX10_readSaid_69
        · have r_vu_6 : RI vu_6 0 19 := rc_neU r_vu_6 rl_20 (ti_ne c_52) (by decide)
          refine lv_aload_n hx hb dX10_readSaid_55 rfl (lv_at hl 0 rfl) ?_
          refine tg_mem (ci := 10) (C := RX10) (T := TX10) (N := 49) hx hb hts inX10 hown hK hw 47 m_z0_47 rfl (by decide) (hts _ tw_1184) (fun _ h9 => h9) dX10_readSaid_56 ?_
          refine lv_bipush (v := 8) hx hb dX10_readSaid_59 (by decide) ?_
          refine lv_icmp_ne (tgt := 70) hx hb dX10_readSaid_61 (by decide) (fun c_61 => ?_) (fun c_61 => ?_)
          · exact absurd (r_z0_47.eq.trans rl_8.eq.symm) ((ti_ne c_61))
          · refine lv_aload_n hx hb dX10_readSaid_64 rfl (lv_at hl 0 rfl) ?_
            refine lv_iconst (v := 4) hx hb dX10_readSaid_65 (by decide) ?_
            refine tk_i (va_runV (As := [.int 4]) (rest := []) ⟨hx, hb, hml, hown, hts⟩ (c_X10_bad__2 l D cy z H.size Ps ws hw.1 p0 4 s0 h_p0 (rl_4.to (by decide)) o_p0) (cwV 1 hts (gV tw_1336 tw_1338 ts_46 tw_15 tw_1339) rfl rfl rfl (by decide +kernel) ⟨Nat.le_of_ble_eq_true rfl, Nat.le_of_ble_eq_true rfl⟩) (tg_preV hw hK hSD hA (ci := 10) (q := (RX10, TX10, 49)) rfl h_p0 rfl) rfl rfl hl.1 rfl (lv_room (Nat.le_of_ble_eq_true rfl)) dX10_readSaid_66 ⟨Nat.le_of_ble_eq_true rfl, Nat.le_of_ble_eq_true rfl⟩) hw hA ⟨by decide, by decide⟩ (fun v_9 ws H locs hp_v_9 hw hF9 => ?_)
            have m_z0_47 := FLD.over hF9 m_z0_47 (by decide)
            have m_u_6 := FLD.over hF9 m_u_6 (by decide)
            have hn9 := FLD.over hF9 hn9 (by decide)
            have x_SN_p0_gd_gh_gg := SNp.over hF9 x_SN_p0_gd_gh_gg (by decide)
            obtain ⟨hfn, hp_v_9⟩ := hp_v_9
            obtain ⟨sg_10, q_sg_10⟩ : ∃ q9 : OS, (f_X10_bad__1 (4 : Int32) s0).1 = q9 := ⟨_, rfl⟩
            have o_p0 : OV vw_M2 Ps ws p0 sg_10 := by rw [← q_sg_10]; exact hfn.1
            have q_v_9 : (f_X10_bad__1 (4 : Int32) s0).2 = v_9 := hfn.2.1
            have r_v_9 : RI v_9 0 0 := hp_v_9.1
            simp only [f_X10_readSaid__17_30, ↓reduceIte, q_z0_47, eq_true c_31, eq_true c_37, q_vu_6, eq_false c_52, eq_true c_61, q_sg_10, q_v_9] at hE
            subst hQ
            exact W.zret (v := v_9) hx hb hr (tq_nz (r_v_9.to (by decide))) (fun t ht hW => ⟨⟨v_9, ws, rfl, ⟨⟨⟨(by rw [hR, ← hE]; exact o_p0), (by rw [hR, ← hE]), trivial⟩, r_v_9.to (by decide), (fun h0 => ⟨⟨_, m_z0_47, r_z0_47⟩, trivial⟩), (fun h0 => absurd (Int32.toInt_inj.mp (by have h8 := r_v_9; unfold RI at h8; rw [Int32.toInt_zero]; omega)) h0)⟩, hw.1, hw.2.2.2.2.1⟩, by rw [ht]; exact hw.2.1, va_K.moved hW.alike hK, hw.2.2.1⟩, hw.2.2.2.1.F ht⟩) hw.2.2.2.1.2.2 dX10_readSaid_69
      · have r_x2 : RI x2 28 28 := rc_lt2 rl_27 r_x2 (ti_nle c_37) (by decide)
        refine lv_aload_n hx hb dX10_readSaid_40 rfl (lv_at hl 0 rfl) ?_
        refine lv_iconst (v := 1) hx hb dX10_readSaid_41 (by decide) ?_
        refine tk_i (va_runV (As := [.int 1]) (rest := []) ⟨hx, hb, hml, hown, hts⟩ (c_X10_bad__2 l D cy z H.size Ps ws hw.1 p0 1 s0 h_p0 (rl_1.to (by decide)) o_p0) (cwV 1 hts (gV tw_1336 tw_1338 ts_46 tw_15 tw_1339) rfl rfl rfl (by decide +kernel) ⟨Nat.le_of_ble_eq_true rfl, Nat.le_of_ble_eq_true rfl⟩) (tg_preV hw hK hSD hA (ci := 10) (q := (RX10, TX10, 49)) rfl h_p0 rfl) rfl rfl hl.1 rfl (lv_room (Nat.le_of_ble_eq_true rfl)) dX10_readSaid_42 ⟨Nat.le_of_ble_eq_true rfl, Nat.le_of_ble_eq_true rfl⟩) hw hA ⟨by decide, by decide⟩ (fun v_11 ws H locs hp_v_11 hw hF9 => ?_)
        have m_z0_47 := FLD.over hF9 m_z0_47 (by decide)
        have x_SN_p0_gd_gh_gg := SNp.over hF9 x_SN_p0_gd_gh_gg (by decide)
        obtain ⟨hfn, hp_v_11⟩ := hp_v_11
        obtain ⟨sg_12, q_sg_12⟩ : ∃ q9 : OS, (f_X10_bad__1 (1 : Int32) s0).1 = q9 := ⟨_, rfl⟩
        have o_p0 : OV vw_M2 Ps ws p0 sg_12 := by rw [← q_sg_12]; exact hfn.1
        have q_v_11 : (f_X10_bad__1 (1 : Int32) s0).2 = v_11 := hfn.2.1
        have r_v_11 : RI v_11 0 0 := hp_v_11.1
        simp only [f_X10_readSaid__17_30, ↓reduceIte, q_z0_47, eq_true c_31, eq_false c_37, q_sg_12, q_v_11] at hE
        subst hQ
        exact W.zret (v := v_11) hx hb hr (tq_nz (r_v_11.to (by decide))) (fun t ht hW => ⟨⟨v_11, ws, rfl, ⟨⟨⟨(by rw [hR, ← hE]; exact o_p0), (by rw [hR, ← hE]), trivial⟩, r_v_11.to (by decide), (fun h0 => ⟨⟨_, m_z0_47, r_z0_47⟩, trivial⟩), (fun h0 => absurd (Int32.toInt_inj.mp (by have h8 := r_v_11; unfold RI at h8; rw [Int32.toInt_zero]; omega)) h0)⟩, hw.1, hw.2.2.2.2.1⟩, by rw [ht]; exact hw.2.1, va_K.moved hW.alike hK, hw.2.2.1⟩, hw.2.2.2.1.F ht⟩) hw.2.2.2.1.2.2 dX10_readSaid_45
  have B10 : ∀ (nf : Nat) (x1 : Int32) (x2 : Int32) (z0_47 : Int32) (s0 : OS) (ws : va_W) (H : Heap) (locs : List Loc) (ls : Array Slot), 28 - x2.toInt < (nf : Int) → RI x1 0 1 → RI x2 18 28 → RI z0_47 8 8 → FLD ws p0 10 47 (.int z0_47) → SNp ws p0 (gd) (gh) (gg) → OV vw_M2 Ps ws p0 s0 → f_X10_readSaid__17_10 nf x1 x2 s0 = R9 → WD D cy GG A s wr_X10_readSaid__17 wa_X10_readSaid__17 Ps w0 Ps ws H locs → lv_has ls 4 [(0, .ref p0), (1, .int x1), (2, .int x2)] → W p l e (headSpec (Cond.code yX10_readSaid cX10_readSaid 4 (some .boolean) :: gT) ({ frames := 4, cells := 0, slots := 0, locals := 800 } : Room)).room s m ([.ref p0] : List Value).toArray below meth c H locs 0 0 Q (F0 m 10 ls []) := by
    intro nf10
    induction nf10 with
    | zero =>
      intro x1 x2 z0_47 s0 ws H locs ls hn10 r_x1 r_x2 r_z0_47 m_z0_47 x_SN_p0_gd_gh_gg o_p0 hE hw hl
      exact absurd hn10 (by have q0 := r_x2.1; have u0 := r_x2.2; omega)
    | succ nf10 ih10 =>
      intro x1 x2 z0_47 s0 ws H locs ls hn10 r_x1 r_x2 r_z0_47 m_z0_47 x_SN_p0_gd_gh_gg o_p0 hE hw hl
      have q_z0_47 : s0.1 47 = z0_47 := OV.eqI (V := vw_M2) hw.2.2.1 o_p0 m_z0_47 (by decide)
      refine lv_iload_n hx hb dX10_readSaid_10 rfl (lv_at hl 2 rfl) ?_
      refine lv_bipush (v := 27) hx hb dX10_readSaid_11 (by decide) ?_
      refine lv_icmp_gt (tgt := 30) hx hb dX10_readSaid_13 (by decide) (fun c_13 => ?_) (fun c_13 => ?_)
      · have r_x2 : RI x2 28 28 := rc_lt2 rl_27 r_x2 (ti_lt c_13) (by decide)
        simp only [f_X10_readSaid__17_10, ↓reduceIte, q_z0_47, eq_true c_13] at hE
        exact B30 x1 x2 z0_47 s0 ws _ _ ls r_x1 (r_x2.to (by decide)) r_z0_47 m_z0_47 x_SN_p0_gd_gh_gg o_p0 hE hw hl
      · have r_x2 : RI x2 18 27 := rc_le1 r_x2 rl_27 (ti_nlt c_13) (by decide)
        refine lv_aload_n hx hb dX10_readSaid_16 rfl (lv_at hl 0 rfl) ?_
        refine lv_iload_n hx hb dX10_readSaid_17 rfl (lv_at hl 2 rfl) ?_
        refine tk_ir (va_runV (As := [.int x2]) (rest := []) ⟨hx, hb, hml, hown, hts⟩ (c_X10_isWord__5 l D cy z H.size Ps ws hw.1 p0 x2 s0 h_p0 (r_x2.to (by decide)) o_p0) (cwV 1 hts (gV tw_1318 tw_1320 ts_43 tw_15 tw_1321) rfl rfl rfl (by decide +kernel) ⟨Nat.le_of_ble_eq_true rfl, Nat.le_of_ble_eq_true rfl⟩) (tg_preV hw hK hSD hA (ci := 10) (q := (RX10, TX10, 49)) rfl h_p0 rfl) rfl rfl hl.1 rfl (lv_room (Nat.le_of_ble_eq_true rfl)) dX10_readSaid_18 ⟨Nat.le_of_ble_eq_true rfl, Nat.le_of_ble_eq_true rfl⟩) hw hA (fun v_13  H locs hp_v_13 hw => ?_)
        obtain ⟨hfn, hp_v_13⟩ := hp_v_13
        have q_v_13 : (f_X10_isWord__4 x2 s0) = v_13 := hfn.1
        have r_v_13 : RI v_13 0 1 := hp_v_13.1
        refine lv_if_ne (tgt := 30) hx hb dX10_readSaid_21 (by decide) (fun c_21 => ?_) (fun c_21 => ?_)
        · have r_v_13 : RI v_13 1 1 := rc_neL r_v_13 rl_0 (ti_ne c_21) (by decide)
          simp only [f_X10_readSaid__17_10, ↓reduceIte, q_z0_47, eq_false c_13, q_v_13, eq_false c_21] at hE
          exact B30 x1 x2 z0_47 s0 ws _ _ ls r_x1 (r_x2.to (by decide)) r_z0_47 m_z0_47 x_SN_p0_gd_gh_gg o_p0 hE hw hl
        · have r_v_13 : RI v_13 0 0 := rc_eq1 r_v_13 rl_0 (ti_eq c_21) (by decide)
          obtain ⟨v_14, e_v_14⟩ : ∃ q9 : Int32, q9 = x2 + Int32.ofInt 1 := ⟨_, rfl⟩
          obtain ⟨t_v_14, r_v_14⟩ := tq_add (lo := 19) (hi := 28) r_x2 (show RI (Int32.ofInt 1) 1 1 by unfold RI; decide +kernel) (by decide +kernel) e_v_14
          have t_v_14 : v_14.toInt = x2.toInt + 1 := t_v_14
          refine lv_iinc (v := v_14) (lv' := [(2, .int v_14), (0, .ref p0), (1, .int x1)]) hx hb dX10_readSaid_24 hl (k := 2) rfl e_v_14.symm (by decide) rfl (fun ls hl => ?_)
          have q_v_14 : x2 + (1 : Int32) = v_14 := by rw [e_v_14, show Int32.ofInt 1 = (1 : Int32) by decide]
          refine lv_goto (tgt := 10) hx hb dX10_readSaid_27 (by decide) ?_
          simp only [f_X10_readSaid__17_10, ↓reduceIte, q_z0_47, eq_false c_13, q_v_13, eq_true c_21, q_v_14] at hE
          exact ih10 x1 v_14 z0_47 s0 ws _ _ ls (by have q0 := r_v_14.1; have u0 := r_v_14.2; have o0 := r_x2.1; have p0 := r_x2.2; omega) r_x1 (r_v_14.to (by decide)) r_z0_47 m_z0_47 x_SN_p0_gd_gh_gg o_p0 hE hw (lv_sub hl [1, 2, 0] rfl)
  refine lv_aload_n hx hb dX10_readSaid_0 rfl (lv_at hl 0 rfl) ?_
  refine lv_bipush (v := 40) hx hb dX10_readSaid_1 (by decide) ?_
  refine tk_ir (va_runV (As := [.int 40]) (rest := []) ⟨hx, hb, hml, hown, hts⟩ (c_X10_isSign__2 l D cy z s.heap.size Ps w0 hw.1 p0 40 s0 h_p0 (rl_40.to (by decide)) o_p0) (cwV 1 hts (gV tw_1413 tw_1415 ts_63 tw_15 tw_1416) rfl rfl rfl (by decide +kernel) ⟨Nat.le_of_ble_eq_true rfl, Nat.le_of_ble_eq_true rfl⟩) (tg_preV hw hK hSD hA (ci := 10) (q := (RX10, TX10, 49)) rfl h_p0 rfl) rfl rfl hl.1 rfl (lv_room (Nat.le_of_ble_eq_true rfl)) dX10_readSaid_3 ⟨Nat.le_of_ble_eq_true rfl, Nat.le_of_ble_eq_true rfl⟩) hw hA (fun v_15  H locs hp_v_15 hw => ?_)
  obtain ⟨hfn, hp_v_15⟩ := hp_v_15
  have q_v_15 : (f_X10_isSign__1 (40 : Int32) s0) = v_15 := hfn.1
  have r_v_15 : RI v_15 0 1 := hp_v_15.1
  by_cases c9_v_15 : v_15 = 0
  · have r_v_15 : RI v_15 0 0 := by rw [c9_v_15]; exact rl_0
    refine lv_istore_n (lv' := [(1, .int v_15), (0, .ref p0)]) hx hb dX10_readSaid_6 rfl hl (by decide) rfl (fun ls hl => ?_)
    refine lv_bipush (v := 18) hx hb dX10_readSaid_7 (by decide) ?_
    refine lv_istore_n (lv' := [(2, .int 18), (1, .int v_15), (0, .ref p0)]) hx hb dX10_readSaid_9 rfl hl (by decide) rfl (fun ls hl => ?_)
    simp only [f_X10_readSaid__17, ↓reduceIte, q_v_15, eq_true c9_v_15] at hE
    exact B10 4294967298 v_15 18 f0_47 s0 w0 _ _ ls (by have q0 := rl_18.1; have u0 := rl_18.2; omega) (r_v_15.to (by decide)) (rl_18.to (by decide)) r_f0_47 m_f0_47 x_SN_p0_gd_gh_gg o_p0 hE hw (lv_sub hl [2, 1, 0] rfl)
  · have r_v_15 : RI v_15 1 1 := rc_neL r_v_15 rl_0 (ti_ne c9_v_15) (by decide)
    obtain ⟨v_16, m_v_16, r_v_16⟩ := ((hp_v_15.2.2 c9_v_15).1)
    refine lv_istore_n (lv' := [(1, .int v_15), (0, .ref p0)]) hx hb dX10_readSaid_6 rfl hl (by decide) rfl (fun ls hl => ?_)
    refine lv_bipush (v := 18) hx hb dX10_readSaid_7 (by decide) ?_
    refine lv_istore_n (lv' := [(2, .int 18), (1, .int v_15), (0, .ref p0)]) hx hb dX10_readSaid_9 rfl hl (by decide) rfl (fun ls hl => ?_)
    simp only [f_X10_readSaid__17, ↓reduceIte, q_v_15, eq_false c9_v_15] at hE
    exact B10 4294967298 v_15 18 f0_47 s0 w0 _ _ ls (by have q0 := rl_18.1; have u0 := rl_18.2; omega) (r_v_15.to (by decide)) (rl_18.to (by decide)) r_f0_47 m_f0_47 x_SN_p0_gd_gh_gg o_p0 hE hw (lv_sub hl [2, 1, 0] rfl)
abbrev wr_X10_readAnd__17 : List (Nat × Nat) := [(10, 10), (10, 11)]
abbrev wa_X10_readAnd__17 : List Nat := []
set_option maxHeartbeats 4000000 in
set_option maxRecDepth 100000 in
theorem c_X10_readAnd__17 (l : Launch) (D : va_G) (cy : Nat → ClassId) (z : Nat → Nat) (sz : Nat) (Ps : PSI) (w0 : va_W) (hT : HT cy GG Ps w0) (p0 : Nat) (f0_47 : Int32) (gd : Int) (gh : Int) (gg : Int) (s0 : OS) (h_p0 : (p0, 55) ∈ Ps) (r_f0_47 : RI f0_47 8 8) (m_f0_47 : FLD w0 p0 10 47 (.int f0_47)) (x_SN_p0_gd_gh_gg : SNp w0 p0 (gd) (gh) (gg)) (o_p0 : OV vw_M2 Ps w0 p0 s0) : Met l yX10_readAnd (Cond.code yX10_readAnd cX10_readAnd 2 (some .boolean) :: gT) ({ frames := 5, cells := 0, slots := 0, locals := 1000 } : Room) (va_Pc [.ref p0] (PRE D cy z w0 sz)) (va_Qi (fun (r : Int32) (u : va_W) => ((OV vw_M2 Ps u p0 ((f_X10_readAnd__17 s0).1) ∧ (f_X10_readAnd__17 s0).2 = r ∧ True) ∧ (RI r 0 0 ∧ (r = 0 → (∃ v9 : Int32, FLD u p0 10 47 (.int v9) ∧ RI v9 8 8) ∧ True) ∧ (¬ r = 0 → SNT u p0 (gd+1) (gh+1) (gg) ∧ True))) ∧ HT cy GG Ps u ∧ FR wr_X10_readAnd__17 wa_X10_readAnd__17 Ps w0 u) (BB D cy (va_A w0 sz) (fun (u : va_W) => u)) (va_A w0 sz)) 0 0 (va_A w0 sz) := by
  refine Met.ofW (cc := cX10_readAnd) (maxL := 2) (ret := (some .boolean)) (by decide) rfl ?_
  intro p e s m args below meth c s₁ B hml hv
  obtain ⟨rfl, hsz, hP, hK, hD0, hSD⟩ := hv
  have hx := B.exec
  have hb := B.bytes
  have hr := B.returns
  have hlocks := B.notSynchronized
  have hts : ∀ w ∈ gT, w.before _ s = true := fun w h => atoms_spec (ws := Cond.code yX10_readAnd cX10_readAnd 2 (some .boolean) :: gT) B.pre w (List.mem_cons_of_mem _ h)
  have hown : s.vm.findClass RX10 = some m.cls := findClass_of_methodNamed B.named
  subst hsz
  have hD := hD0.self (sz := s.heap.size)
  generalize hAe : va_A w0 s.heap.size = A at hD hSD ⊢
  have hA : ∀ q : Nat, s.heap.size ≤ q → A q := fun q h => by rw [← hAe]; exact Or.inr h
  have hl := lv_entry ([.ref p0]) (n := 2) (Nat.le_of_ble_eq_true rfl)
  rw [lg_entry_eq]
  generalize (lg_sl ([.ref p0]) ++ List.replicate (2 - (lg_sl ([.ref p0])).length) Slot.unset).toArray = ls at hl ⊢
  have hl : lv_has ls 2 [(0, .ref p0)] := hl
  refine nameQ (fun Q hQ => ?_)
  have hw : WD D cy GG A s wr_X10_readAnd__17 wa_X10_readAnd__17 Ps w0 Ps w0 s.heap [] := ⟨hT, hP, hD, va_S.rf, FR.rf, hT.1, [], (List.append_nil _).symm⟩
  obtain ⟨R9, hR⟩ : ∃ q9 : OS × Int32, f_X10_readAnd__17 s0 = q9 := ⟨_, rfl⟩
  have hE := hR
  refine lv_aload_n hx hb dX10_readAnd_0 rfl (lv_at hl 0 rfl) ?_
  refine tk_i (va_runV (As := []) (rest := []) ⟨hx, hb, hml, hown, hts⟩ (c_X10_readSaid__17 l D cy z s.heap.size Ps w0 hw.1 p0 f0_47 (gd) (gh) (gg) s0 h_p0 r_f0_47 m_f0_47 x_SN_p0_gd_gh_gg o_p0) (cwV 0 hts (gV tw_1759 tw_1761 ts_113 tw_15 tw_1762) rfl rfl rfl (by decide +kernel) ⟨Nat.le_of_ble_eq_true rfl, Nat.le_of_ble_eq_true rfl⟩) (tg_preV hw hK hSD hA (ci := 10) (q := (RX10, TX10, 49)) rfl h_p0 rfl) rfl rfl hl.1 rfl (lv_room (Nat.le_of_ble_eq_true rfl)) dX10_readAnd_1 ⟨Nat.le_of_ble_eq_true rfl, Nat.le_of_ble_eq_true rfl⟩) hw hA ⟨by decide, by decide⟩ (fun v_1 ws H locs hp_v_1 hw hF9 => ?_)
  have m_f0_47 := FLD.over hF9 m_f0_47 (by decide)
  have x_SN_p0_gd_gh_gg := SNp.over hF9 x_SN_p0_gd_gh_gg (by decide)
  obtain ⟨hfn, hp_v_1⟩ := hp_v_1
  obtain ⟨sg_2, q_sg_2⟩ : ∃ q9 : OS, (f_X10_readSaid__17 s0).1 = q9 := ⟨_, rfl⟩
  have o_p0 : OV vw_M2 Ps ws p0 sg_2 := by rw [← q_sg_2]; exact hfn.1
  have q_v_1 : (f_X10_readSaid__17 s0).2 = v_1 := hfn.2.1
  have r_v_1 : RI v_1 0 0 := hp_v_1.1
  by_cases c9_v_1 : v_1 = 0
  · have r_v_1 : RI v_1 0 0 := by rw [c9_v_1]; exact rl_0
    obtain ⟨v_3, m_v_3, r_v_3⟩ := ((hp_v_1.2.1 c9_v_1).1)
    refine lv_if_ne (tgt := 9) hx hb dX10_readAnd_4 (by decide) (fun c_4 => ?_) (fun c_4 => ?_)
    · exact absurd (r_v_1.eq.trans rl_0.eq.symm) ((ti_ne c_4))
    · refine lv_iconst (v := 0) hx hb dX10_readAnd_7 (by decide) ?_
      simp only [f_X10_readAnd__17, ↓reduceIte, q_sg_2, q_v_1, eq_true c9_v_1, eq_true c_4] at hE
      subst hQ
      exact W.zret (v := 0) hx hb hr (rfl) (fun t ht hW => ⟨⟨0, ws, rfl, ⟨⟨⟨(by rw [hR, ← hE]; exact o_p0), (by rw [hR, ← hE]), trivial⟩, rl_0.to (by decide), (fun h0 => ⟨⟨_, m_v_3, r_v_3⟩, trivial⟩), (fun h0 => absurd rfl h0)⟩, hw.1, hw.2.2.2.2.1⟩, by rw [ht]; exact hw.2.1, va_K.moved hW.alike hK, hw.2.2.1⟩, hw.2.2.2.1.F ht⟩) hw.2.2.2.1.2.2 dX10_readAnd_8
  · exact absurd (Int32.toInt_inj.mp (by rw [Int32.toInt_zero]; unfold RI at r_v_1; omega)) c9_v_1
abbrev wr_X10_readOr__17 : List (Nat × Nat) := [(10, 10), (10, 11)]
abbrev wa_X10_readOr__17 : List Nat := []
set_option maxHeartbeats 4000000 in
set_option maxRecDepth 100000 in
theorem c_X10_readOr__17 (l : Launch) (D : va_G) (cy : Nat → ClassId) (z : Nat → Nat) (sz : Nat) (Ps : PSI) (w0 : va_W) (hT : HT cy GG Ps w0) (p0 : Nat) (f0_47 : Int32) (gd : Int) (gh : Int) (gg : Int) (s0 : OS) (h_p0 : (p0, 55) ∈ Ps) (r_f0_47 : RI f0_47 8 8) (m_f0_47 : FLD w0 p0 10 47 (.int f0_47)) (x_SN_p0_gd_gh_gg : SNp w0 p0 (gd) (gh) (gg)) (o_p0 : OV vw_M2 Ps w0 p0 s0) : Met l yX10_readOr (Cond.code yX10_readOr cX10_readOr 2 (some .boolean) :: gT) ({ frames := 6, cells := 0, slots := 0, locals := 1200 } : Room) (va_Pc [.ref p0] (PRE D cy z w0 sz)) (va_Qi (fun (r : Int32) (u : va_W) => ((OV vw_M2 Ps u p0 ((f_X10_readOr__17 s0).1) ∧ (f_X10_readOr__17 s0).2 = r ∧ True) ∧ (RI r 0 0 ∧ (r = 0 → (∃ v9 : Int32, FLD u p0 10 47 (.int v9) ∧ RI v9 8 8) ∧ True) ∧ (¬ r = 0 → SNT u p0 (gd+1) (gh+1) (gg) ∧ True))) ∧ HT cy GG Ps u ∧ FR wr_X10_readOr__17 wa_X10_readOr__17 Ps w0 u) (BB D cy (va_A w0 sz) (fun (u : va_W) => u)) (va_A w0 sz)) 0 0 (va_A w0 sz) := by
  refine Met.ofW (cc := cX10_readOr) (maxL := 2) (ret := (some .boolean)) (by decide) rfl ?_
  intro p e s m args below meth c s₁ B hml hv
  obtain ⟨rfl, hsz, hP, hK, hD0, hSD⟩ := hv
  have hx := B.exec
  have hb := B.bytes
  have hr := B.returns
  have hlocks := B.notSynchronized
  have hts : ∀ w ∈ gT, w.before _ s = true := fun w h => atoms_spec (ws := Cond.code yX10_readOr cX10_readOr 2 (some .boolean) :: gT) B.pre w (List.mem_cons_of_mem _ h)
  have hown : s.vm.findClass RX10 = some m.cls := findClass_of_methodNamed B.named
  subst hsz
  have hD := hD0.self (sz := s.heap.size)
  generalize hAe : va_A w0 s.heap.size = A at hD hSD ⊢
  have hA : ∀ q : Nat, s.heap.size ≤ q → A q := fun q h => by rw [← hAe]; exact Or.inr h
  have hl := lv_entry ([.ref p0]) (n := 2) (Nat.le_of_ble_eq_true rfl)
  rw [lg_entry_eq]
  generalize (lg_sl ([.ref p0]) ++ List.replicate (2 - (lg_sl ([.ref p0])).length) Slot.unset).toArray = ls at hl ⊢
  have hl : lv_has ls 2 [(0, .ref p0)] := hl
  refine nameQ (fun Q hQ => ?_)
  have hw : WD D cy GG A s wr_X10_readOr__17 wa_X10_readOr__17 Ps w0 Ps w0 s.heap [] := ⟨hT, hP, hD, va_S.rf, FR.rf, hT.1, [], (List.append_nil _).symm⟩
  obtain ⟨R9, hR⟩ : ∃ q9 : OS × Int32, f_X10_readOr__17 s0 = q9 := ⟨_, rfl⟩
  have hE := hR
  refine lv_aload_n hx hb dX10_readOr_0 rfl (lv_at hl 0 rfl) ?_
  refine tk_i (va_runV (As := []) (rest := []) ⟨hx, hb, hml, hown, hts⟩ (c_X10_readAnd__17 l D cy z s.heap.size Ps w0 hw.1 p0 f0_47 (gd) (gh) (gg) s0 h_p0 r_f0_47 m_f0_47 x_SN_p0_gd_gh_gg o_p0) (cwV 0 hts (gV tw_1755 tw_1757 ts_112 tw_15 tw_1758) rfl rfl rfl (by decide +kernel) ⟨Nat.le_of_ble_eq_true rfl, Nat.le_of_ble_eq_true rfl⟩) (tg_preV hw hK hSD hA (ci := 10) (q := (RX10, TX10, 49)) rfl h_p0 rfl) rfl rfl hl.1 rfl (lv_room (Nat.le_of_ble_eq_true rfl)) dX10_readOr_1 ⟨Nat.le_of_ble_eq_true rfl, Nat.le_of_ble_eq_true rfl⟩) hw hA ⟨by decide, by decide⟩ (fun v_1 ws H locs hp_v_1 hw hF9 => ?_)
  have m_f0_47 := FLD.over hF9 m_f0_47 (by decide)
  have x_SN_p0_gd_gh_gg := SNp.over hF9 x_SN_p0_gd_gh_gg (by decide)
  obtain ⟨hfn, hp_v_1⟩ := hp_v_1
  obtain ⟨sg_2, q_sg_2⟩ : ∃ q9 : OS, (f_X10_readAnd__17 s0).1 = q9 := ⟨_, rfl⟩
  have o_p0 : OV vw_M2 Ps ws p0 sg_2 := by rw [← q_sg_2]; exact hfn.1
  have q_v_1 : (f_X10_readAnd__17 s0).2 = v_1 := hfn.2.1
  have r_v_1 : RI v_1 0 0 := hp_v_1.1
  by_cases c9_v_1 : v_1 = 0
  · have r_v_1 : RI v_1 0 0 := by rw [c9_v_1]; exact rl_0
    obtain ⟨v_3, m_v_3, r_v_3⟩ := ((hp_v_1.2.1 c9_v_1).1)
    refine lv_if_ne (tgt := 9) hx hb dX10_readOr_4 (by decide) (fun c_4 => ?_) (fun c_4 => ?_)
    · exact absurd (r_v_1.eq.trans rl_0.eq.symm) ((ti_ne c_4))
    · refine lv_iconst (v := 0) hx hb dX10_readOr_7 (by decide) ?_
      simp only [f_X10_readOr__17, ↓reduceIte, q_sg_2, q_v_1, eq_true c9_v_1, eq_true c_4] at hE
      subst hQ
      exact W.zret (v := 0) hx hb hr (rfl) (fun t ht hW => ⟨⟨0, ws, rfl, ⟨⟨⟨(by rw [hR, ← hE]; exact o_p0), (by rw [hR, ← hE]), trivial⟩, rl_0.to (by decide), (fun h0 => ⟨⟨_, m_v_3, r_v_3⟩, trivial⟩), (fun h0 => absurd rfl h0)⟩, hw.1, hw.2.2.2.2.1⟩, by rw [ht]; exact hw.2.1, va_K.moved hW.alike hK, hw.2.2.1⟩, hw.2.2.2.1.F ht⟩) hw.2.2.2.1.2.2 dX10_readOr_8
  · exact absurd (Int32.toInt_inj.mp (by rw [Int32.toInt_zero]; unfold RI at r_v_1; omega)) c9_v_1
abbrev wr_X10_readBracket__15 : List (Nat × Nat) := [(10, 10), (10, 11)]
abbrev wa_X10_readBracket__15 : List Nat := []
set_option maxHeartbeats 4000000 in
set_option maxRecDepth 100000 in
theorem c_X10_readBracket__15 (l : Launch) (D : va_G) (cy : Nat → ClassId) (z : Nat → Nat) (sz : Nat) (Ps : PSI) (w0 : va_W) (hT : HT cy GG Ps w0) (p0 : Nat) (f0_47 : Int32) (gd : Int) (gh : Int) (gg : Int) (s0 : OS) (h_p0 : (p0, 55) ∈ Ps) (r_f0_47 : RI f0_47 8 8) (m_f0_47 : FLD w0 p0 10 47 (.int f0_47)) (x_SNI_p0_gd_gh_gg : SNI w0 p0 (gd) (gh) (gg)) (o_p0 : OV vw_M2 Ps w0 p0 s0) : Met l yX10_readBracket (Cond.code yX10_readBracket cX10_readBracket 1 (some .boolean) :: gT) ({ frames := 7, cells := 0, slots := 0, locals := 1400 } : Room) (va_Pc [.ref p0] (PRE D cy z w0 sz)) (va_Qi (fun (r : Int32) (u : va_W) => ((OV vw_M2 Ps u p0 ((f_X10_readBracket__15 s0).1) ∧ (f_X10_readBracket__15 s0).2 = r ∧ True) ∧ (RI r 0 0 ∧ (r = 0 → (∃ v9 : Int32, FLD u p0 10 47 (.int v9) ∧ RI v9 8 8) ∧ True) ∧ (¬ r = 0 → SNT u p0 (gd) (gh) (gg) ∧ True))) ∧ HT cy GG Ps u ∧ FR wr_X10_readBracket__15 wa_X10_readBracket__15 Ps w0 u) (BB D cy (va_A w0 sz) (fun (u : va_W) => u)) (va_A w0 sz)) 0 0 (va_A w0 sz) := by
  refine Met.ofW (cc := cX10_readBracket) (maxL := 1) (ret := (some .boolean)) (by decide) rfl ?_
  intro p e s m args below meth c s₁ B hml hv
  obtain ⟨rfl, hsz, hP, hK, hD0, hSD⟩ := hv
  have hx := B.exec
  have hb := B.bytes
  have hr := B.returns
  have hlocks := B.notSynchronized
  have hts : ∀ w ∈ gT, w.before _ s = true := fun w h => atoms_spec (ws := Cond.code yX10_readBracket cX10_readBracket 1 (some .boolean) :: gT) B.pre w (List.mem_cons_of_mem _ h)
  have hown : s.vm.findClass RX10 = some m.cls := findClass_of_methodNamed B.named
  subst hsz
  have hD := hD0.self (sz := s.heap.size)
  generalize hAe : va_A w0 s.heap.size = A at hD hSD ⊢
  have hA : ∀ q : Nat, s.heap.size ≤ q → A q := fun q h => by rw [← hAe]; exact Or.inr h
  have hl := lv_entry ([.ref p0]) (n := 1) (Nat.le_of_ble_eq_true rfl)
  rw [lg_entry_eq]
  generalize (lg_sl ([.ref p0]) ++ List.replicate (1 - (lg_sl ([.ref p0])).length) Slot.unset).toArray = ls at hl ⊢
  have hl : lv_has ls 1 [(0, .ref p0)] := hl
  refine nameQ (fun Q hQ => ?_)
  have hw : WD D cy GG A s wr_X10_readBracket__15 wa_X10_readBracket__15 Ps w0 Ps w0 s.heap [] := ⟨hT, hP, hD, va_S.rf, FR.rf, hT.1, [], (List.append_nil _).symm⟩
  obtain ⟨R9, hR⟩ : ∃ q9 : OS × Int32, f_X10_readBracket__15 s0 = q9 := ⟨_, rfl⟩
  have hE := hR
  refine lv_aload_n hx hb dX10_readBracket_0 rfl (lv_at hl 0 rfl) ?_
  have d_8 := x_SNI_p0_gd_gh_gg.1
  have x_SN_p0_gd_1_gh_gg : SNp w0 p0 (gd+1) (gh) (gg) := x_SNI_p0_gd_gh_gg.2
  refine tk_i (va_runV (As := []) (rest := []) ⟨hx, hb, hml, hown, hts⟩ (c_X10_readOr__17 l D cy z s.heap.size Ps w0 hw.1 p0 f0_47 (gd+1) (gh) (gg) s0 h_p0 r_f0_47 m_f0_47 x_SN_p0_gd_1_gh_gg o_p0) (cwV 0 hts (gV tw_1751 tw_1753 ts_111 tw_15 tw_1754) rfl rfl rfl (by decide +kernel) ⟨Nat.le_of_ble_eq_true rfl, Nat.le_of_ble_eq_true rfl⟩) (tg_preV hw hK hSD hA (ci := 10) (q := (RX10, TX10, 49)) rfl h_p0 rfl) rfl rfl hl.1 rfl (lv_room (Nat.le_of_ble_eq_true rfl)) dX10_readBracket_1 ⟨Nat.le_of_ble_eq_true rfl, Nat.le_of_ble_eq_true rfl⟩) hw hA ⟨by decide, by decide⟩ (fun v_1 ws H locs hp_v_1 hw hF9 => ?_)
  have m_f0_47 := FLD.over hF9 m_f0_47 (by decide)
  have x_SNI_p0_gd_gh_gg := SNI.over hF9 x_SNI_p0_gd_gh_gg (by decide)
  have x_SN_p0_gd_1_gh_gg := SNp.over hF9 x_SN_p0_gd_1_gh_gg (by decide)
  obtain ⟨hfn, hp_v_1⟩ := hp_v_1
  obtain ⟨sg_2, q_sg_2⟩ : ∃ q9 : OS, (f_X10_readOr__17 s0).1 = q9 := ⟨_, rfl⟩
  have o_p0 : OV vw_M2 Ps ws p0 sg_2 := by rw [← q_sg_2]; exact hfn.1
  have q_v_1 : (f_X10_readOr__17 s0).2 = v_1 := hfn.2.1
  have r_v_1 : RI v_1 0 0 := hp_v_1.1
  by_cases c9_v_1 : v_1 = 0
  · have r_v_1 : RI v_1 0 0 := by rw [c9_v_1]; exact rl_0
    obtain ⟨v_3, m_v_3, r_v_3⟩ := ((hp_v_1.2.1 c9_v_1).1)
    refine lv_if_ne (tgt := 9) hx hb dX10_readBracket_4 (by decide) (fun c_4 => ?_) (fun c_4 => ?_)
    · exact absurd (r_v_1.eq.trans rl_0.eq.symm) ((ti_ne c_4))
    · refine lv_iconst (v := 0) hx hb dX10_readBracket_7 (by decide) ?_
      simp only [f_X10_readBracket__15, ↓reduceIte, q_sg_2, q_v_1, eq_true c9_v_1, eq_true c_4] at hE
      subst hQ
      exact W.zret (v := 0) hx hb hr (rfl) (fun t ht hW => ⟨⟨0, ws, rfl, ⟨⟨⟨(by rw [hR, ← hE]; exact o_p0), (by rw [hR, ← hE]), trivial⟩, rl_0.to (by decide), (fun h0 => ⟨⟨_, m_v_3, r_v_3⟩, trivial⟩), (fun h0 => absurd rfl h0)⟩, hw.1, hw.2.2.2.2.1⟩, by rw [ht]; exact hw.2.1, va_K.moved hW.alike hK, hw.2.2.1⟩, hw.2.2.2.1.F ht⟩) hw.2.2.2.1.2.2 dX10_readBracket_8
  · exact absurd (Int32.toInt_inj.mp (by rw [Int32.toInt_zero]; unfold RI at r_v_1; omega)) c9_v_1
abbrev wr_X10_isIn__20 : List (Nat × Nat) := []
abbrev wa_X10_isIn__20 : List Nat := []
set_option maxHeartbeats 4000000 in
set_option maxRecDepth 100000 in
theorem c_X10_isIn__20 (l : Launch) (D : va_G) (cy : Nat → ClassId) (z : Nat → Nat) (sz : Nat) (Ps : PSI) (w0 : va_W) (hT : HT cy GG Ps w0) (p0 : Int32) (p1 : Int32) (p2 : Int32) (r_p0 : RI p0 (-2147483648) 2147483647) (r_p1 : RI p1 0 0) (r_p2 : RI p2 999 999) : Met l yX10_isIn (Cond.code yX10_isIn cX10_isIn 3 (some .boolean) :: gT) ({ frames := 0, cells := 0, slots := 0, locals := 200 } : Room) (va_Pc [.int p0, .int p1, .int p2] (PRE D cy z w0 sz)) (va_Qi (fun (r : Int32) (u : Unit) => ((f_X10_isIn__14 p0 p1 p2) = r ∧ True) ∧ (RI r 0 1 ∧ (r = 0 → True) ∧ (¬ r = 0 → RI p0 0 999 ∧ True))) (BB D cy (va_A w0 sz) (fun (u : Unit) => w0)) (va_A w0 sz)) 0 0 (va_A w0 sz) := by
  refine Met.ofW (cc := cX10_isIn) (maxL := 3) (ret := (some .boolean)) (by decide) rfl ?_
  intro p e s m args below meth c s₁ B hml hv
  obtain ⟨rfl, hsz, hP, hK, hD0, hSD⟩ := hv
  have hx := B.exec
  have hb := B.bytes
  have hr := B.returns
  have hlocks := B.notSynchronized
  have hts : ∀ w ∈ gT, w.before _ s = true := fun w h => atoms_spec (ws := Cond.code yX10_isIn cX10_isIn 3 (some .boolean) :: gT) B.pre w (List.mem_cons_of_mem _ h)
  have hown : s.vm.findClass RX10 = some m.cls := findClass_of_methodNamed B.named
  subst hsz
  have hD := hD0.self (sz := s.heap.size)
  generalize hAe : va_A w0 s.heap.size = A at hD hSD ⊢
  have hA : ∀ q : Nat, s.heap.size ≤ q → A q := fun q h => by rw [← hAe]; exact Or.inr h
  have hl := lv_entry ([.int p0, .int p1, .int p2]) (n := 3) (Nat.le_of_ble_eq_true rfl)
  rw [lg_entry_eq]
  generalize (lg_sl ([.int p0, .int p1, .int p2]) ++ List.replicate (3 - (lg_sl ([.int p0, .int p1, .int p2])).length) Slot.unset).toArray = ls at hl ⊢
  have hl : lv_has ls 3 [(0, .int p0), (1, .int p1), (2, .int p2)] := hl
  refine nameQ (fun Q hQ => ?_)
  have hw : WD D cy GG A s wr_X10_isIn__20 wa_X10_isIn__20 Ps w0 Ps w0 s.heap [] := ⟨hT, hP, hD, va_S.rf, FR.rf, hT.1, [], (List.append_nil _).symm⟩
  obtain ⟨R9, hR⟩ : ∃ q9 : Int32, f_X10_isIn__14 p0 p1 p2 = q9 := ⟨_, rfl⟩
  have hE := hR
  refine lv_iload_n hx hb dX10_isIn_0 rfl (lv_at hl 0 rfl) ?_
  refine lv_iload_n hx hb dX10_isIn_1 rfl (lv_at hl 1 rfl) ?_
  refine lv_icmp_lt (tgt := 14) hx hb dX10_isIn_2 (by decide) (fun c_2 => ?_) (fun c_2 => ?_)
  · have r_p0 : RI p0 (-2147483648) (-1) := rc_lt1 r_p0 r_p1 (ti_lt c_2) (by decide)
    refine lv_iconst (v := 0) hx hb dX10_isIn_14 (by decide) ?_
    simp only [f_X10_isIn__14, ↓reduceIte, eq_true c_2] at hE
    subst hQ
    exact W.zret (v := 0) hx hb hr (rfl) (fun t ht hW => ⟨⟨0, (), rfl, ⟨⟨(by rw [hR, ← hE]), trivial⟩, rl_0.to (by decide), (fun h0 => trivial), (fun h0 => absurd rfl h0)⟩, by rw [ht]; exact hw.2.1, va_K.moved hW.alike hK, hw.2.2.1⟩, hw.2.2.2.1.F ht⟩) hw.2.2.2.1.2.2 dX10_isIn_15
  · have r_p0 : RI p0 0 2147483647 := rc_le2 r_p1 r_p0 (ti_nlt c_2) (by decide)
    refine lv_iload_n hx hb dX10_isIn_5 rfl (lv_at hl 0 rfl) ?_
    refine lv_iload_n hx hb dX10_isIn_6 rfl (lv_at hl 2 rfl) ?_
    refine lv_icmp_gt (tgt := 14) hx hb dX10_isIn_7 (by decide) (fun c_7 => ?_) (fun c_7 => ?_)
    · have r_p0 : RI p0 1000 2147483647 := rc_lt2 r_p2 r_p0 (ti_lt c_7) (by decide)
      refine lv_iconst (v := 0) hx hb dX10_isIn_14 (by decide) ?_
      simp only [f_X10_isIn__14, ↓reduceIte, eq_false c_2, eq_true c_7] at hE
      subst hQ
      exact W.zret (v := 0) hx hb hr (rfl) (fun t ht hW => ⟨⟨0, (), rfl, ⟨⟨(by rw [hR, ← hE]), trivial⟩, rl_0.to (by decide), (fun h0 => trivial), (fun h0 => absurd rfl h0)⟩, by rw [ht]; exact hw.2.1, va_K.moved hW.alike hK, hw.2.2.1⟩, hw.2.2.2.1.F ht⟩) hw.2.2.2.1.2.2 dX10_isIn_15
    · have r_p0 : RI p0 0 999 := rc_le1 r_p0 r_p2 (ti_nlt c_7) (by decide)
      refine lv_iconst (v := 1) hx hb dX10_isIn_10 (by decide) ?_
      refine lv_goto (tgt := 15) hx hb dX10_isIn_11 (by decide) ?_
      simp only [f_X10_isIn__14, ↓reduceIte, eq_false c_2, eq_false c_7] at hE
      subst hQ
      exact W.zret (v := 1) hx hb hr (rfl) (fun t ht hW => ⟨⟨1, (), rfl, ⟨⟨(by rw [hR, ← hE]), trivial⟩, rl_1.to (by decide), (fun _ => trivial), (fun h0 => ⟨r_p0, trivial⟩)⟩, by rw [ht]; exact hw.2.1, va_K.moved hW.alike hK, hw.2.2.1⟩, hw.2.2.2.1.F ht⟩) hw.2.2.2.1.2.2 dX10_isIn_15
abbrev wr_X10_readNumber__12 : List (Nat × Nat) := [(10, 5), (10, 6), (10, 7), (10, 8), (10, 9), (10, 10), (10, 11), (10, 12), (10, 13)]
abbrev wa_X10_readNumber__12 : List Nat := []
set_option maxHeartbeats 4000000 in
set_option maxRecDepth 100000 in
theorem c_X10_readNumber__12 (l : Launch) (D : va_G) (cy : Nat → ClassId) (z : Nat → Nat) (sz : Nat) (Ps : PSI) (w0 : va_W) (hT : HT cy GG Ps w0) (p0 : Nat) (p1 : Int32) (p2 : Int32) (s0 : OS) (h_p0 : (p0, 55) ∈ Ps) (r_p1 : RI p1 0 0) (r_p2 : RI p2 999 999) (o_p0 : OV vw_M2 Ps w0 p0 s0) : Met l yX10_readNumber (Cond.code yX10_readNumber cX10_readNumber 3 (some .boolean) :: gT) ({ frames := 3, cells := 0, slots := 0, locals := 600 } : Room) (va_Pc [.ref p0, .int p1, .int p2] (PRE D cy z w0 sz)) (va_Qi (fun (r : Int32) (u : va_W) => ((OV vw_M2 Ps u p0 ((f_X10_readNumber__7 p1 p2 s0).1) ∧ (f_X10_readNumber__7 p1 p2 s0).2 = r ∧ True) ∧ (RI r 0 1 ∧ (r = 0 → True) ∧ (¬ r = 0 → (∃ v9 : Int32, FLD u p0 10 13 (.int v9) ∧ RI v9 0 999) ∧ True))) ∧ HT cy GG Ps u ∧ FR wr_X10_readNumber__12 wa_X10_readNumber__12 Ps w0 u) (BB D cy (va_A w0 sz) (fun (u : va_W) => u)) (va_A w0 sz)) 0 0 (va_A w0 sz) := by
  refine Met.ofW (cc := cX10_readNumber) (maxL := 3) (ret := (some .boolean)) (by decide) rfl ?_
  intro p e s m args below meth c s₁ B hml hv
  obtain ⟨rfl, hsz, hP, hK, hD0, hSD⟩ := hv
  have hx := B.exec
  have hb := B.bytes
  have hr := B.returns
  have hlocks := B.notSynchronized
  have hts : ∀ w ∈ gT, w.before _ s = true := fun w h => atoms_spec (ws := Cond.code yX10_readNumber cX10_readNumber 3 (some .boolean) :: gT) B.pre w (List.mem_cons_of_mem _ h)
  have hown : s.vm.findClass RX10 = some m.cls := findClass_of_methodNamed B.named
  subst hsz
  have hD := hD0.self (sz := s.heap.size)
  generalize hAe : va_A w0 s.heap.size = A at hD hSD ⊢
  have hA : ∀ q : Nat, s.heap.size ≤ q → A q := fun q h => by rw [← hAe]; exact Or.inr h
  have hl := lv_entry ([.ref p0, .int p1, .int p2]) (n := 3) (Nat.le_of_ble_eq_true rfl)
  rw [lg_entry_eq]
  generalize (lg_sl ([.ref p0, .int p1, .int p2]) ++ List.replicate (3 - (lg_sl ([.ref p0, .int p1, .int p2])).length) Slot.unset).toArray = ls at hl ⊢
  have hl : lv_has ls 3 [(0, .ref p0), (1, .int p1), (2, .int p2)] := hl
  refine nameQ (fun Q hQ => ?_)
  have hw : WD D cy GG A s wr_X10_readNumber__12 wa_X10_readNumber__12 Ps w0 Ps w0 s.heap [] := ⟨hT, hP, hD, va_S.rf, FR.rf, hT.1, [], (List.append_nil _).symm⟩
  obtain ⟨R9, hR⟩ : ∃ q9 : OS × Int32, f_X10_readNumber__7 p1 p2 s0 = q9 := ⟨_, rfl⟩
  have hE := hR
  refine lv_aload_n hx hb dX10_readNumber_0 rfl (lv_at hl 0 rfl) ?_
  refine tg_get (ci := 10) (ts := ty_MODEL) (C := RX10) (T := TX10) (N := 49) hx hb hts inX10 hown hK hw h_p0 rfl rfl 7 (by decide) (hts _ tw_1144) (fun _ h9 => h9) (ft := vI (-2147483648) 2147483647) rfl dX10_readNumber_1 (fun u_1 hv_u_1 m_u_1 => ?_)
  obtain ⟨vu_1, rfl, r_vu_1⟩ := hv_u_1
  have q_vu_1 : s0.1 7 = vu_1 := OV.eqI (V := vw_M2) hw.2.2.1 o_p0 m_u_1 (by decide)
  refine lv_iconst (v := 3) hx hb dX10_readNumber_4 (by decide) ?_
  refine lv_icmp_eq (tgt := 14) hx hb dX10_readNumber_5 (by decide) (fun c_5 => ?_) (fun c_5 => ?_)
  · have r_vu_1 : RI vu_1 3 3 := rc_eq1 r_vu_1 rl_3 (ti_eq c_5) (by decide)
    refine lv_aload_n hx hb dX10_readNumber_14 rfl (lv_at hl 0 rfl) ?_
    refine tg_get (ci := 10) (ts := ty_MODEL) (C := RX10) (T := TX10) (N := 49) hx hb hts inX10 hown hK hw h_p0 rfl rfl 8 (by decide) (hts _ tw_1145) (fun _ h9 => h9) (ft := vI (-2147483648) 2147483647) rfl dX10_readNumber_15 (fun u_2 hv_u_2 m_u_2 => ?_)
    obtain ⟨vu_2, rfl, r_vu_2⟩ := hv_u_2
    have q_vu_2 : s0.1 8 = vu_2 := OV.eqI (V := vw_M2) hw.2.2.1 o_p0 m_u_2 (by decide)
    refine lv_iload_n hx hb dX10_readNumber_18 rfl (lv_at hl 1 rfl) ?_
    refine lv_iload_n hx hb dX10_readNumber_19 rfl (lv_at hl 2 rfl) ?_
    refine tk_ir (va_runS (As := [.int vu_2, .int p1, .int p2]) (rest := []) ⟨hx, hb, hml, hown, hts⟩ (c_X10_isIn__20 l D cy z s.heap.size Ps w0 hw.1 vu_2 p1 p2 r_vu_2 r_p1 r_p2) (va_cwS 3 hts (gS tw_1359 tw_1360 tw_15 tw_1361) rfl rfl rfl (by decide +kernel) ⟨Nat.le_of_ble_eq_true rfl, Nat.le_of_ble_eq_true rfl⟩) (tg_preS hw hK hSD hA) rfl rfl hl.1 rfl (lv_room (Nat.le_of_ble_eq_true rfl)) dX10_readNumber_20 ⟨Nat.le_of_ble_eq_true rfl, Nat.le_of_ble_eq_true rfl⟩) hw hA (fun v_3  H locs hp_v_3 hw => ?_)
    obtain ⟨hfn, hp_v_3⟩ := hp_v_3
    have q_v_3 : (f_X10_isIn__14 vu_2 p1 p2) = v_3 := hfn.1
    have r_v_3 : RI v_3 0 1 := hp_v_3.1
    refine lv_if_ne (tgt := 32) hx hb dX10_readNumber_23 (by decide) (fun c_23 => ?_) (fun c_23 => ?_)
    · have r_v_3 : RI v_3 1 1 := rc_neL r_v_3 rl_0 (ti_ne c_23) (by decide)
      have r_vu_2 : RI vu_2 0 999 := ((hp_v_3.2.2 c_23).1)
      refine lv_aload_n hx hb dX10_readNumber_32 rfl (lv_at hl 0 rfl) ?_
      refine lv_aload_n hx hb dX10_readNumber_33 rfl (lv_at hl 0 rfl) ?_
      refine tg_mem (ci := 10) (C := RX10) (T := TX10) (N := 49) hx hb hts inX10 hown hK hw 8 m_u_2 rfl (by decide) (hts _ tw_1145) (fun _ h9 => h9) dX10_readNumber_34 ?_
      refine tg_put (ci := 10) (ts := ty_MODEL) (v := .int vu_2) (ty := .int) (C := RX10) (T := TX10) (N := 49) hx hb hts inX10 tyX10 tyX10_ok nmX10 hown hK hw h_p0 rfl rfl 13 (by decide) (hts _ tw_1150) (fun _ h9 => h9) rfl (by decide +kernel) rfl rfl (ft := vI (-2147483648) 2147483647) rfl ⟨_, rfl, (r_vu_2.to (by decide))⟩ (by decide) dX10_readNumber_37 (fun ws H locs hw n_k_4 hF9 => ?_)
      have m_u_1 := FLD.over hF9 m_u_1 (by decide)
      have m_u_2 := FLD.over hF9 m_u_2 (by decide)
      obtain ⟨sg_5, q_sg_5⟩ : ∃ q9 : OS, sI s0 13 vu_2 = q9 := ⟨_, rfl⟩
      have o_p0 : OV vw_M2 Ps ws p0 sg_5 := by rw [← q_sg_5]; exact OV.putI (V := vw_M2) hF9 n_k_4 o_p0 (by decide)
      refine lv_aload_n hx hb dX10_readNumber_40 rfl (lv_at hl 0 rfl) ?_
      refine tk_v (va_runV (As := []) (rest := []) ⟨hx, hb, hml, hown, hts⟩ (c_X10_go__4 l D cy z H.size Ps ws hw.1 p0 sg_5 h_p0 o_p0) (cwV 0 hts (gV tw_1298 tw_1300 ts_40 tw_15 tw_1301) rfl rfl rfl (by decide +kernel) ⟨Nat.le_of_ble_eq_true rfl, Nat.le_of_ble_eq_true rfl⟩) (tg_preV hw hK hSD hA (ci := 10) (q := (RX10, TX10, 49)) rfl h_p0 rfl) rfl rfl hl.1 rfl (lv_room (Nat.le_of_ble_eq_true rfl)) dX10_readNumber_41 ⟨Nat.le_of_ble_eq_true rfl, Nat.le_of_ble_eq_true rfl⟩) hw hA ⟨by decide, by decide⟩ (fun ws H locs hp_v_6 hw hF9 => ?_)
      have n_k_4 := FLD.over hF9 n_k_4 (by decide)
      obtain ⟨hfn, hp_v_6⟩ := hp_v_6
      obtain ⟨sg_7, q_sg_7⟩ : ∃ q9 : OS, (f_X10_go__2 sg_5) = q9 := ⟨_, rfl⟩
      have o_p0 : OV vw_M2 Ps ws p0 sg_7 := by rw [← q_sg_7]; exact hfn.1
      refine lv_iconst (v := 1) hx hb dX10_readNumber_44 (by decide) ?_
      simp only [f_X10_readNumber__7, ↓reduceIte, q_vu_1, eq_true c_5, q_vu_2, q_v_3, eq_false c_23, q_sg_5, q_sg_7] at hE
      subst hQ
      exact W.zret (v := 1) hx hb hr (rfl) (fun t ht hW => ⟨⟨1, ws, rfl, ⟨⟨⟨(by rw [hR, ← hE]; exact o_p0), (by rw [hR, ← hE]), trivial⟩, rl_1.to (by decide), (fun _ => trivial), (fun h0 => ⟨⟨_, n_k_4, r_vu_2⟩, trivial⟩)⟩, hw.1, hw.2.2.2.2.1⟩, by rw [ht]; exact hw.2.1, va_K.moved hW.alike hK, hw.2.2.1⟩, hw.2.2.2.1.F ht⟩) hw.2.2.2.1.2.2 dX10_readNumber_45
    · have r_v_3 : RI v_3 0 0 := rc_eq1 r_v_3 rl_0 (ti_eq c_23) (by decide)
      refine lv_aload_n hx hb dX10_readNumber_26 rfl (lv_at hl 0 rfl) ?_
      refine lv_iconst (v := 2) hx hb dX10_readNumber_27 (by decide) ?_
      refine tk_i (va_runV (As := [.int 2]) (rest := []) ⟨hx, hb, hml, hown, hts⟩ (c_X10_bad__2 l D cy z H.size Ps w0 hw.1 p0 2 s0 h_p0 (rl_2.to (by decide)) o_p0) (cwV 1 hts (gV tw_1336 tw_1338 ts_46 tw_15 tw_1339) rfl rfl rfl (by decide +kernel) ⟨Nat.le_of_ble_eq_true rfl, Nat.le_of_ble_eq_true rfl⟩) (tg_preV hw hK hSD hA (ci := 10) (q := (RX10, TX10, 49)) rfl h_p0 rfl) rfl rfl hl.1 rfl (lv_room (Nat.le_of_ble_eq_true rfl)) dX10_readNumber_28 ⟨Nat.le_of_ble_eq_true rfl, Nat.le_of_ble_eq_true rfl⟩) hw hA ⟨by decide, by decide⟩ (fun v_8 ws H locs hp_v_8 hw hF9 => ?_)
      have m_u_1 := FLD.over hF9 m_u_1 (by decide)
      have m_u_2 := FLD.over hF9 m_u_2 (by decide)
      obtain ⟨hfn, hp_v_8⟩ := hp_v_8
      obtain ⟨sg_9, q_sg_9⟩ : ∃ q9 : OS, (f_X10_bad__1 (2 : Int32) s0).1 = q9 := ⟨_, rfl⟩
      have o_p0 : OV vw_M2 Ps ws p0 sg_9 := by rw [← q_sg_9]; exact hfn.1
      have q_v_8 : (f_X10_bad__1 (2 : Int32) s0).2 = v_8 := hfn.2.1
      have r_v_8 : RI v_8 0 0 := hp_v_8.1
      simp only [f_X10_readNumber__7, ↓reduceIte, q_vu_1, eq_true c_5, q_vu_2, q_v_3, eq_true c_23, q_sg_9, q_v_8] at hE
      subst hQ
      exact W.zret (v := v_8) hx hb hr (tq_nz (r_v_8.to (by decide))) (fun t ht hW => ⟨⟨v_8, ws, rfl, ⟨⟨⟨(by rw [hR, ← hE]; exact o_p0), (by rw [hR, ← hE]), trivial⟩, r_v_8.to (by decide), (fun h0 => trivial), (fun h0 => absurd (Int32.toInt_inj.mp (by have h8 := r_v_8; unfold RI at h8; rw [Int32.toInt_zero]; omega)) h0)⟩, hw.1, hw.2.2.2.2.1⟩, by rw [ht]; exact hw.2.1, va_K.moved hW.alike hK, hw.2.2.1⟩, hw.2.2.2.1.F ht⟩) hw.2.2.2.1.2.2 dX10_readNumber_31
  · refine lv_aload_n hx hb dX10_readNumber_8 rfl (lv_at hl 0 rfl) ?_
    refine lv_iconst (v := 1) hx hb dX10_readNumber_9 (by decide) ?_
    refine tk_i (va_runV (As := [.int 1]) (rest := []) ⟨hx, hb, hml, hown, hts⟩ (c_X10_bad__2 l D cy z s.heap.size Ps w0 hw.1 p0 1 s0 h_p0 (rl_1.to (by decide)) o_p0) (cwV 1 hts (gV tw_1336 tw_1338 ts_46 tw_15 tw_1339) rfl rfl rfl (by decide +kernel) ⟨Nat.le_of_ble_eq_true rfl, Nat.le_of_ble_eq_true rfl⟩) (tg_preV hw hK hSD hA (ci := 10) (q := (RX10, TX10, 49)) rfl h_p0 rfl) rfl rfl hl.1 rfl (lv_room (Nat.le_of_ble_eq_true rfl)) dX10_readNumber_10 ⟨Nat.le_of_ble_eq_true rfl, Nat.le_of_ble_eq_true rfl⟩) hw hA ⟨by decide, by decide⟩ (fun v_10 ws H locs hp_v_10 hw hF9 => ?_)
    have m_u_1 := FLD.over hF9 m_u_1 (by decide)
    obtain ⟨hfn, hp_v_10⟩ := hp_v_10
    obtain ⟨sg_11, q_sg_11⟩ : ∃ q9 : OS, (f_X10_bad__1 (1 : Int32) s0).1 = q9 := ⟨_, rfl⟩
    have o_p0 : OV vw_M2 Ps ws p0 sg_11 := by rw [← q_sg_11]; exact hfn.1
    have q_v_10 : (f_X10_bad__1 (1 : Int32) s0).2 = v_10 := hfn.2.1
    have r_v_10 : RI v_10 0 0 := hp_v_10.1
    simp only [f_X10_readNumber__7, ↓reduceIte, q_vu_1, eq_false c_5, q_sg_11, q_v_10] at hE
    subst hQ
    exact W.zret (v := v_10) hx hb hr (tq_nz (r_v_10.to (by decide))) (fun t ht hW => ⟨⟨v_10, ws, rfl, ⟨⟨⟨(by rw [hR, ← hE]; exact o_p0), (by rw [hR, ← hE]), trivial⟩, r_v_10.to (by decide), (fun h0 => trivial), (fun h0 => absurd (Int32.toInt_inj.mp (by have h8 := r_v_10; unfold RI at h8; rw [Int32.toInt_zero]; omega)) h0)⟩, hw.1, hw.2.2.2.2.1⟩, by rw [ht]; exact hw.2.1, va_K.moved hW.alike hK, hw.2.2.1⟩, hw.2.2.2.1.F ht⟩) hw.2.2.2.1.2.2 dX10_readNumber_13
abbrev wr_X10_saysOne__3 : List (Nat × Nat) := [(10, 45)]
abbrev wa_X10_saysOne__3 : List Nat := [54]
set_option maxHeartbeats 4000000 in
set_option maxRecDepth 100000 in
theorem c_X10_saysOne__3 (l : Launch) (D : va_G) (cy : Nat → ClassId) (z : Nat → Nat) (sz : Nat) (Ps : PSI) (w0 : va_W) (hT : HT cy GG Ps w0) (p0 : Nat) (p1 : Int32) (p2 : Int32) (p3 : Int32) (p4 : Int32) (gd : Int) (gh : Int) (gg : Int) (s0 : OS) (h_p0 : (p0, 55) ∈ Ps) (r_p1 : RI p1 50 77) (r_p2 : RI p2 (-2147483648) 2147483647) (r_p3 : RI p3 (-2147483648) 2147483647) (r_p4 : RI p4 (-2147483648) 2147483647) (x_SNI_p0_gd_gh_gg : SNI w0 p0 (gd) (gh) (gg)) (o_p0 : OV vw_M2 Ps w0 p0 s0) : Met l yX10_saysOne (Cond.code yX10_saysOne cX10_saysOne 6 (some .int) :: gT) ({ frames := 0, cells := 0, slots := 0, locals := 200 } : Room) (va_Pc [.ref p0, .int p1, .int p2, .int p3, .int p4] (PRE D cy z w0 sz)) (va_Qi (fun (r : Int32) (u : va_W) => ((OV vw_M2 Ps u p0 ((f_X10_saysOne__3 p1 p2 p3 p4 s0).1) ∧ (f_X10_saysOne__3 p1 p2 p3 p4 s0).2 = r ∧ True) ∧ (RI r 0 39 ∧ (r = 0 → True) ∧ (¬ r = 0 → True) ∧ (SNL u p0 (gd) (gh) (gg) (r) ∧ True) ∧ (r.toInt < 0 → True) ∧ (0 ≤ r.toInt → True))) ∧ HT cy GG Ps u ∧ FR wr_X10_saysOne__3 wa_X10_saysOne__3 Ps w0 u) (BB D cy (va_A w0 sz) (fun (u : va_W) => u)) (va_A w0 sz)) 0 0 (va_A w0 sz) := by
  refine Met.ofW (cc := cX10_saysOne) (maxL := 6) (ret := (some .int)) (by decide) rfl ?_
  intro p e s m args below meth c s₁ B hml hv
  obtain ⟨rfl, hsz, hP, hK, hD0, hSD⟩ := hv
  have hx := B.exec
  have hb := B.bytes
  have hr := B.returns
  have hlocks := B.notSynchronized
  have hts : ∀ w ∈ gT, w.before _ s = true := fun w h => atoms_spec (ws := Cond.code yX10_saysOne cX10_saysOne 6 (some .int) :: gT) B.pre w (List.mem_cons_of_mem _ h)
  have hown : s.vm.findClass RX10 = some m.cls := findClass_of_methodNamed B.named
  subst hsz
  have hD := hD0.self (sz := s.heap.size)
  generalize hAe : va_A w0 s.heap.size = A at hD hSD ⊢
  have hA : ∀ q : Nat, s.heap.size ≤ q → A q := fun q h => by rw [← hAe]; exact Or.inr h
  have hl := lv_entry ([.ref p0, .int p1, .int p2, .int p3, .int p4]) (n := 6) (Nat.le_of_ble_eq_true rfl)
  rw [lg_entry_eq]
  generalize (lg_sl ([.ref p0, .int p1, .int p2, .int p3, .int p4]) ++ List.replicate (6 - (lg_sl ([.ref p0, .int p1, .int p2, .int p3, .int p4])).length) Slot.unset).toArray = ls at hl ⊢
  have hl : lv_has ls 6 [(0, .ref p0), (1, .int p1), (2, .int p2), (3, .int p3), (4, .int p4)] := hl
  refine nameQ (fun Q hQ => ?_)
  have hw : WD D cy GG A s wr_X10_saysOne__3 wa_X10_saysOne__3 Ps w0 Ps w0 s.heap [] := ⟨hT, hP, hD, va_S.rf, FR.rf, hT.1, [], (List.append_nil _).symm⟩
  obtain ⟨R9, hR⟩ : ∃ q9 : OS × Int32, f_X10_saysOne__3 p1 p2 p3 p4 s0 = q9 := ⟨_, rfl⟩
  have hE := hR
  refine lv_iconst (v := 4) hx hb dX10_saysOne_0 (by decide) ?_
  refine lv_aload_n hx hb dX10_saysOne_1 rfl (lv_at hl 0 rfl) ?_
  refine tg_get (ci := 10) (ts := ty_MODEL) (C := RX10) (T := TX10) (N := 49) hx hb hts inX10 hown hK hw h_p0 rfl rfl 45 (by decide) (hts _ tw_1182) (fun _ h9 => h9) (ft := vI (-2147483648) 2147483647) rfl dX10_saysOne_2 (fun u_1 hv_u_1 m_u_1 => ?_)
  obtain ⟨vu_1, rfl, r_vu_1⟩ := hv_u_1
  have q_vu_1 : s0.1 45 = vu_1 := OV.eqI (V := vw_M2) hw.2.2.1 o_p0 m_u_1 (by decide)
  obtain ⟨o9, ho9, ro9, b9⟩ := SNp.getN hw x_SNI_p0_gd_gh_gg.2 m_u_1
  have d9 := x_SNI_p0_gd_gh_gg.1
  have ro8 := ro9.2
  have r_vu_1 : RI vu_1 0 39 := ⟨by omega, by omega⟩
  refine lv_imul hx hb dX10_saysOne_5 (lv_topi (fun v_2 e_v_2 => ?_))
  obtain ⟨t_v_2, r_v_2⟩ := tq_mul (lo := 0) (hi := 156) rl_4 r_vu_1 (by decide +kernel) e_v_2
  have t_v_2 : v_2.toInt = 4 * vu_1.toInt := t_v_2
  have q_v_2 : (4 : Int32) * vu_1 = v_2 := e_v_2.symm
  refine lv_istore (lv' := [(5, .int v_2), (0, .ref p0), (1, .int p1), (2, .int p2), (3, .int p3), (4, .int p4)]) hx hb dX10_saysOne_6 hl (by decide) rfl (fun ls hl => ?_)
  have x_S0_p0_vu_1 : AX 44 54 (fun f => SYp vu_1 f) Ps w0 p0 := AX.imp (ax_of (k := 44) (t := 54) hw h_p0 rfl (fun _ => rfl)) (fun f9 h9 => fun q9 u9 _ => h9.1 q9 u9)
  obtain ⟨b_3, m_b_3, h_b_3⟩ := tg_fldR (k := 44) (ci := 10) (ts := ty_MODEL) (u := 54) hw h_p0 rfl rfl
  have hw := WD.weak b_3 hw
  refine lv_aload_n hx hb dX10_saysOne_8 rfl (lv_at hl 1 rfl) ?_
  refine tg_mem (ci := 10) (C := RX10) (T := TX10) (N := 49) hx hb hts inX10 hown hK hw 44 m_b_3 rfl (by decide) (hts _ tw_1181) (fun _ h9 => h9) dX10_saysOne_9 ?_
  refine lv_iload hx hb dX10_saysOne_12 (lv_at hl 0 rfl) ?_
  refine lv_iload_n hx hb dX10_saysOne_14 rfl (lv_at hl 2 rfl) ?_
  have mo9 := m_b_3
  refine tg_iast hx hb hK hw h_b_3 rfl 0 156 r_v_2 (by decide) r_p1 (by exact fun _ _ _ => by decide) (fun _ _ _ _ _ => Or.inl rfl) (by decide) dX10_saysOne_15 (fun ws H locs hw hF9 hU9 => ?_)
  have x_S1_p0_vu_1_p1 : AX 44 54 (fun f => SYp vu_1 f ∧ f (4 * Int32.toNatClampNeg vu_1) = p1) Ps ws p0 := AX.ast hF9 hU9 x_S0_p0_vu_1 m_b_3 (fun f9 h9 => by have j9 : Int32.toNatClampNeg v_2 = 4 * Int32.toNatClampNeg vu_1 + 0 := (by have k1 := r_v_2.cl (by decide); have k2 := r_vu_1.cl (by decide); omega); exact ⟨SY_upd h9 (by omega), by rw [show 4 * Int32.toNatClampNeg vu_1 = Int32.toNatClampNeg v_2 by omega]; exact pk_us⟩)
  have x_SNI_p0_gd_gh_gg := SNI.over hF9 x_SNI_p0_gd_gh_gg (by decide)
  have m_u_1 := FLD.over hF9 m_u_1 (by decide)
  have ho9 := FLD.over hF9 ho9 (by decide)
  have m_b_3 := FLD.over hF9 m_b_3 (by decide)
  obtain ⟨sg_4, q_sg_4⟩ : ∃ q9 : OS, sA s0 44 (Int32.toNatClampNeg v_2) p1 = q9 := ⟨_, rfl⟩
  have o_p0 : OV vw_M2 Ps ws p0 sg_4 := by rw [← q_sg_4]; exact OV.putA (V := vw_M2) (t := 54) hF9 hU9 o_p0 mo9 (by decide) (by decide)
  refine lv_aload_n hx hb dX10_saysOne_16 rfl (lv_at hl 1 rfl) ?_
  refine tg_mem (ci := 10) (C := RX10) (T := TX10) (N := 49) hx hb hts inX10 hown hK hw 44 m_b_3 rfl (by decide) (hts _ tw_1181) (fun _ h9 => h9) dX10_saysOne_17 ?_
  refine lv_iload hx hb dX10_saysOne_20 (lv_at hl 0 rfl) ?_
  refine lv_iconst (v := 1) hx hb dX10_saysOne_22 (by decide) ?_
  refine lv_iadd hx hb dX10_saysOne_23 (lv_topi (fun v_5 e_v_5 => ?_))
  obtain ⟨t_v_5, r_v_5⟩ := tq_add (lo := 1) (hi := 157) r_v_2 rl_1 (by decide +kernel) e_v_5
  have t_v_5 : v_5.toInt = v_2.toInt + 1 := t_v_5
  have q_v_5 : v_2 + (1 : Int32) = v_5 := e_v_5.symm
  refine lv_iload_n hx hb dX10_saysOne_24 rfl (lv_at hl 3 rfl) ?_
  have mo9 := m_b_3
  refine tg_iast hx hb hK hw h_b_3 rfl 1 157 r_v_5 (by decide) r_p2 (by exact fun _ _ _ => by decide) (fun _ _ _ _ _ => Or.inl rfl) (by decide) dX10_saysOne_25 (fun ws H locs hw hF9 hU9 => ?_)
  have x_S2_p0_vu_1_p1_p2 : AX 44 54 (fun f => SYp vu_1 f ∧ f (4 * Int32.toNatClampNeg vu_1) = p1 ∧ f (4 * Int32.toNatClampNeg vu_1 + 1) = p2) Ps ws p0 := AX.ast hF9 hU9 x_S1_p0_vu_1_p1 m_b_3 (fun f9 h9 => by have j9 : Int32.toNatClampNeg v_5 = 4 * Int32.toNatClampNeg vu_1 + 1 := (by have k1 := r_v_5.cl (by decide); have k2 := r_vu_1.cl (by decide); omega); exact ⟨SY_upd h9.1 (by omega), by rw [pk_un (by omega)]; exact h9.2, by rw [show 4 * Int32.toNatClampNeg vu_1 + 1 = Int32.toNatClampNeg v_5 by omega]; exact pk_us⟩)
  have x_SNI_p0_gd_gh_gg := SNI.over hF9 x_SNI_p0_gd_gh_gg (by decide)
  have m_u_1 := FLD.over hF9 m_u_1 (by decide)
  have ho9 := FLD.over hF9 ho9 (by decide)
  have m_b_3 := FLD.over hF9 m_b_3 (by decide)
  obtain ⟨sg_6, q_sg_6⟩ : ∃ q9 : OS, sA sg_4 44 (Int32.toNatClampNeg v_5) p2 = q9 := ⟨_, rfl⟩
  have o_p0 : OV vw_M2 Ps ws p0 sg_6 := by rw [← q_sg_6]; exact OV.putA (V := vw_M2) (t := 54) hF9 hU9 o_p0 mo9 (by decide) (by decide)
  refine lv_aload_n hx hb dX10_saysOne_26 rfl (lv_at hl 1 rfl) ?_
  refine tg_mem (ci := 10) (C := RX10) (T := TX10) (N := 49) hx hb hts inX10 hown hK hw 44 m_b_3 rfl (by decide) (hts _ tw_1181) (fun _ h9 => h9) dX10_saysOne_27 ?_
  refine lv_iload hx hb dX10_saysOne_30 (lv_at hl 0 rfl) ?_
  refine lv_iconst (v := 2) hx hb dX10_saysOne_32 (by decide) ?_
  refine lv_iadd hx hb dX10_saysOne_33 (lv_topi (fun v_7 e_v_7 => ?_))
  obtain ⟨t_v_7, r_v_7⟩ := tq_add (lo := 2) (hi := 158) r_v_2 rl_2 (by decide +kernel) e_v_7
  have t_v_7 : v_7.toInt = v_2.toInt + 2 := t_v_7
  have q_v_7 : v_2 + (2 : Int32) = v_7 := e_v_7.symm
  refine lv_iload_n hx hb dX10_saysOne_34 rfl (lv_at hl 4 rfl) ?_
  have mo9 := m_b_3
  refine tg_iast hx hb hK hw h_b_3 rfl 2 158 r_v_7 (by decide) r_p3 (by exact fun _ _ _ => by decide) (fun _ _ _ _ _ => Or.inl rfl) (by decide) dX10_saysOne_35 (fun ws H locs hw hF9 hU9 => ?_)
  have x_S3_p0_vu_1_p1_p2_p3 : AX 44 54 (fun f => SYp vu_1 f ∧ f (4 * Int32.toNatClampNeg vu_1) = p1 ∧ f (4 * Int32.toNatClampNeg vu_1 + 1) = p2 ∧ f (4 * Int32.toNatClampNeg vu_1 + 2) = p3) Ps ws p0 := AX.ast hF9 hU9 x_S2_p0_vu_1_p1_p2 m_b_3 (fun f9 h9 => by have j9 : Int32.toNatClampNeg v_7 = 4 * Int32.toNatClampNeg vu_1 + 2 := (by have k1 := r_v_7.cl (by decide); have k2 := r_vu_1.cl (by decide); omega); exact ⟨SY_upd h9.1 (by omega), by rw [pk_un (by omega)]; exact h9.2.1, by rw [pk_un (by omega)]; exact h9.2.2, by rw [show 4 * Int32.toNatClampNeg vu_1 + 2 = Int32.toNatClampNeg v_7 by omega]; exact pk_us⟩)
  have x_SNI_p0_gd_gh_gg := SNI.over hF9 x_SNI_p0_gd_gh_gg (by decide)
  have m_u_1 := FLD.over hF9 m_u_1 (by decide)
  have ho9 := FLD.over hF9 ho9 (by decide)
  have m_b_3 := FLD.over hF9 m_b_3 (by decide)
  obtain ⟨sg_8, q_sg_8⟩ : ∃ q9 : OS, sA sg_6 44 (Int32.toNatClampNeg v_7) p3 = q9 := ⟨_, rfl⟩
  have o_p0 : OV vw_M2 Ps ws p0 sg_8 := by rw [← q_sg_8]; exact OV.putA (V := vw_M2) (t := 54) hF9 hU9 o_p0 mo9 (by decide) (by decide)
  refine lv_aload_n hx hb dX10_saysOne_36 rfl (lv_at hl 1 rfl) ?_
  refine tg_mem (ci := 10) (C := RX10) (T := TX10) (N := 49) hx hb hts inX10 hown hK hw 44 m_b_3 rfl (by decide) (hts _ tw_1181) (fun _ h9 => h9) dX10_saysOne_37 ?_
  refine lv_iload hx hb dX10_saysOne_40 (lv_at hl 0 rfl) ?_
  refine lv_iconst (v := 3) hx hb dX10_saysOne_42 (by decide) ?_
  refine lv_iadd hx hb dX10_saysOne_43 (lv_topi (fun v_9 e_v_9 => ?_))
  obtain ⟨t_v_9, r_v_9⟩ := tq_add (lo := 3) (hi := 159) r_v_2 rl_3 (by decide +kernel) e_v_9
  have t_v_9 : v_9.toInt = v_2.toInt + 3 := t_v_9
  have q_v_9 : v_2 + (3 : Int32) = v_9 := e_v_9.symm
  refine lv_iload hx hb dX10_saysOne_44 (lv_at hl 5 rfl) ?_
  have mo9 := m_b_3
  refine tg_iast hx hb hK hw h_b_3 rfl 3 159 r_v_9 (by decide) r_p4 (by exact fun _ _ _ => by decide) (fun _ _ _ _ _ => Or.inl rfl) (by decide) dX10_saysOne_46 (fun ws H locs hw hF9 hU9 => ?_)
  have x_S3_p0_vu_1_p1_p2_p3 : AX 44 54 (fun f => SYp vu_1 f ∧ f (4 * Int32.toNatClampNeg vu_1) = p1 ∧ f (4 * Int32.toNatClampNeg vu_1 + 1) = p2 ∧ f (4 * Int32.toNatClampNeg vu_1 + 2) = p3) Ps ws p0 := AX.ast hF9 hU9 x_S3_p0_vu_1_p1_p2_p3 m_b_3 (fun f9 h9 => by have j9 : Int32.toNatClampNeg v_9 = 4 * Int32.toNatClampNeg vu_1 + 3 := (by have k1 := r_v_9.cl (by decide); have k2 := r_vu_1.cl (by decide); omega); exact ⟨SY_upd h9.1 (by omega), by rw [pk_un (by omega)]; exact h9.2.1, by rw [pk_un (by omega)]; exact h9.2.2.1, by rw [pk_un (by omega)]; exact h9.2.2.2⟩)
  have x_SNI_p0_gd_gh_gg := SNI.over hF9 x_SNI_p0_gd_gh_gg (by decide)
  have m_u_1 := FLD.over hF9 m_u_1 (by decide)
  have ho9 := FLD.over hF9 ho9 (by decide)
  have m_b_3 := FLD.over hF9 m_b_3 (by decide)
  obtain ⟨sg_10, q_sg_10⟩ : ∃ q9 : OS, sA sg_8 44 (Int32.toNatClampNeg v_9) p4 = q9 := ⟨_, rfl⟩
  have o_p0 : OV vw_M2 Ps ws p0 sg_10 := by rw [← q_sg_10]; exact OV.putA (V := vw_M2) (t := 54) hF9 hU9 o_p0 mo9 (by decide) (by decide)
  have hw := WD.back hw h_b_3 rfl (fun f9 q9 => SY_end (AX.arr hw x_S3_p0_vu_1_p1_p2_p3 m_b_3 f9 q9) (by have k1 := r_p1.1; have k2 := r_p1.2; exact ⟨fun e9 => by omega, fun e9 => by omega⟩) r_vu_1.1)
  refine lv_aload_n hx hb dX10_saysOne_47 rfl (lv_at hl 1 rfl) ?_
  refine lv_dup hx hb dX10_saysOne_48 rfl ?_
  refine tg_mem (ci := 10) (C := RX10) (T := TX10) (N := 49) hx hb hts inX10 hown hK hw 45 m_u_1 rfl (by decide) (hts _ tw_1182) (fun _ h9 => h9) dX10_saysOne_49 ?_
  refine lv_iconst (v := 1) hx hb dX10_saysOne_52 (by decide) ?_
  refine lv_iadd hx hb dX10_saysOne_53 (lv_topi (fun v_11 e_v_11 => ?_))
  obtain ⟨t_v_11, r_v_11⟩ := tq_add (lo := 1) (hi := 40) r_vu_1 rl_1 (by decide +kernel) e_v_11
  have t_v_11 : v_11.toInt = vu_1.toInt + 1 := t_v_11
  have q_v_11 : vu_1 + (1 : Int32) = v_11 := e_v_11.symm
  refine tg_put (ci := 10) (ts := ty_MODEL) (v := .int v_11) (ty := .int) (C := RX10) (T := TX10) (N := 49) hx hb hts inX10 tyX10 tyX10_ok nmX10 hown hK hw h_p0 rfl rfl 45 (by decide) (hts _ tw_1182) (fun _ h9 => h9) rfl (by decide +kernel) rfl rfl (ft := vI (-2147483648) 2147483647) rfl ⟨_, rfl, (r_v_11.to (by decide))⟩ (by decide) dX10_saysOne_54 (fun ws H locs hw n_k_12 hF9 => ?_)
  have ho9 := FLD.over hF9 ho9 (by decide)
  have m_b_3 := FLD.over hF9 m_b_3 (by decide)
  have x_S3_p0_vu_1_p1_p2_p3 := AX.over hF9 x_S3_p0_vu_1_p1_p2_p3 (by decide)
  obtain ⟨sg_13, q_sg_13⟩ : ∃ q9 : OS, sI sg_10 45 v_11 = q9 := ⟨_, rfl⟩
  have o_p0 : OV vw_M2 Ps ws p0 sg_13 := by rw [← q_sg_13]; exact OV.putI (V := vw_M2) hF9 n_k_12 o_p0 (by decide)
  refine lv_aload_n hx hb dX10_saysOne_57 rfl (lv_at hl 1 rfl) ?_
  refine tg_mem (ci := 10) (C := RX10) (T := TX10) (N := 49) hx hb hts inX10 hown hK hw 45 n_k_12 rfl (by decide) (hts _ tw_1182) (fun _ h9 => h9) dX10_saysOne_58 ?_
  refine lv_iconst (v := 1) hx hb dX10_saysOne_61 (by decide) ?_
  refine lv_isub hx hb dX10_saysOne_62 (lv_topi (fun v_14 e_v_14 => ?_))
  obtain ⟨t_v_14, r_v_14⟩ := tq_sub (lo := 0) (hi := 39) r_v_11 rl_1 (by decide +kernel) e_v_14
  have t_v_14 : v_14.toInt = v_11.toInt - 1 := t_v_14
  have q_v_14 : v_11 - (1 : Int32) = v_14 := e_v_14.symm
  have x_SNL_p0_gd_gh_gg_v_14 : SNL ws p0 (gd) (gh) (gg) (v_14) := ⟨_, _, n_k_12, ho9, by have k1 := r_v_11.1; omega, by have k1 := r_v_14.1; omega, by omega⟩
  simp only [f_X10_saysOne__3, ↓reduceIte, q_vu_1, q_v_2, q_sg_4, q_v_5, q_sg_6, q_v_7, q_sg_8, q_v_9, q_sg_10, q_v_11, q_sg_13, q_v_14] at hE
  subst hQ
  exact W.iret (v := v_14) hx hb hr (fun t ht hW => ⟨⟨v_14, ws, rfl, ⟨⟨⟨(by rw [hR, ← hE]; exact o_p0), (by rw [hR, ← hE]), trivial⟩, r_v_14.to (by decide), (fun h0 => trivial), (fun h0 => trivial), ⟨x_SNL_p0_gd_gh_gg_v_14, trivial⟩, (fun _ => trivial), (fun _ => trivial)⟩, hw.1, hw.2.2.2.2.1⟩, by rw [ht]; exact hw.2.1, va_K.moved hW.alike hK, hw.2.2.1⟩, hw.2.2.2.1.F ht⟩) hw.2.2.2.1.2.2 dX10_saysOne_63
abbrev wr_X10_readCompare__1 : List (Nat × Nat) := [(10, 5), (10, 6), (10, 7), (10, 8), (10, 9), (10, 10), (10, 11), (10, 12), (10, 13), (10, 45), (10, 48)]
abbrev wa_X10_readCompare__1 : List Nat := [54]
set_option maxHeartbeats 4000000 in
set_option maxRecDepth 100000 in
theorem c_X10_readCompare__1 (l : Launch) (D : va_G) (cy : Nat → ClassId) (z : Nat → Nat) (sz : Nat) (Ps : PSI) (w0 : va_W) (hT : HT cy GG Ps w0) (p0 : Nat) (p1 : Int32) (gd : Int) (gh : Int) (gg : Int) (s0 : OS) (h_p0 : (p0, 55) ∈ Ps) (r_p1 : RI p1 24 27) (x_SNI_p0_gd_gh_gg : SNI w0 p0 (gd) (gh) (gg)) (o_p0 : OV vw_M2 Ps w0 p0 s0) : Met l yX10_readCompare (Cond.code yX10_readCompare cX10_readCompare 3 (some .boolean) :: gT) ({ frames := 4, cells := 0, slots := 0, locals := 800 } : Room) (va_Pc [.ref p0, .int p1] (PRE D cy z w0 sz)) (va_Qi (fun (r : Int32) (u : va_W) => ((OV vw_M2 Ps u p0 ((f_X10_readCompare__1 p1 s0).1) ∧ (f_X10_readCompare__1 p1 s0).2 = r ∧ True) ∧ (RI r 0 1 ∧ (r = 0 → True) ∧ (¬ r = 0 → (∃ v9 : Int32, FLD u p0 10 13 (.int v9) ∧ RI v9 0 999) ∧ (∃ v9 : Int32, FLD u p0 10 48 (.int v9) ∧ RI v9 0 39) ∧ SNT u p0 (gd) (gh) (gg) ∧ True))) ∧ HT cy GG Ps u ∧ FR wr_X10_readCompare__1 wa_X10_readCompare__1 Ps w0 u) (BB D cy (va_A w0 sz) (fun (u : va_W) => u)) (va_A w0 sz)) 0 0 (va_A w0 sz) := by
  refine Met.ofW (cc := cX10_readCompare) (maxL := 3) (ret := (some .boolean)) (by decide) rfl ?_
  intro p e s m args below meth c s₁ B hml hv
  obtain ⟨rfl, hsz, hP, hK, hD0, hSD⟩ := hv
  have hx := B.exec
  have hb := B.bytes
  have hr := B.returns
  have hlocks := B.notSynchronized
  have hts : ∀ w ∈ gT, w.before _ s = true := fun w h => atoms_spec (ws := Cond.code yX10_readCompare cX10_readCompare 3 (some .boolean) :: gT) B.pre w (List.mem_cons_of_mem _ h)
  have hown : s.vm.findClass RX10 = some m.cls := findClass_of_methodNamed B.named
  subst hsz
  have hD := hD0.self (sz := s.heap.size)
  generalize hAe : va_A w0 s.heap.size = A at hD hSD ⊢
  have hA : ∀ q : Nat, s.heap.size ≤ q → A q := fun q h => by rw [← hAe]; exact Or.inr h
  have hl := lv_entry ([.ref p0, .int p1]) (n := 3) (Nat.le_of_ble_eq_true rfl)
  rw [lg_entry_eq]
  generalize (lg_sl ([.ref p0, .int p1]) ++ List.replicate (3 - (lg_sl ([.ref p0, .int p1])).length) Slot.unset).toArray = ls at hl ⊢
  have hl : lv_has ls 3 [(0, .ref p0), (1, .int p1)] := hl
  refine nameQ (fun Q hQ => ?_)
  have hw : WD D cy GG A s wr_X10_readCompare__1 wa_X10_readCompare__1 Ps w0 Ps w0 s.heap [] := ⟨hT, hP, hD, va_S.rf, FR.rf, hT.1, [], (List.append_nil _).symm⟩
  obtain ⟨R9, hR⟩ : ∃ q9 : OS × Int32, f_X10_readCompare__1 p1 s0 = q9 := ⟨_, rfl⟩
  have hE := hR
  have B33 : ∀ (z0_7 : Int32) (s0 : OS) (ws : va_W) (H : Heap) (locs : List Loc) (ls : Array Slot), RI p1 24 27 → RI z0_7 4 4 → FLD ws p0 10 7 (.int z0_7) → SNI ws p0 (gd) (gh) (gg) → OV vw_M2 Ps ws p0 s0 → f_X10_readCompare__1_33 p1 s0 = R9 → WD D cy GG A s wr_X10_readCompare__1 wa_X10_readCompare__1 Ps w0 Ps ws H locs → lv_has ls 3 [(0, .ref p0), (1, .int p1)] → W p l e (headSpec (Cond.code yX10_readCompare cX10_readCompare 3 (some .boolean) :: gT) ({ frames := 4, cells := 0, slots := 0, locals := 800 } : Room)).room s m ([.ref p0, .int p1] : List Value).toArray below meth c H locs 0 0 Q (F0 m 33 ls []) := by
    intro z0_7 s0 ws H locs ls r_p1 r_z0_7 m_z0_7 x_SNI_p0_gd_gh_gg o_p0 hE hw hl
    have q_z0_7 : s0.1 7 = z0_7 := OV.eqI (V := vw_M2) hw.2.2.1 o_p0 m_z0_7 (by decide)
    refine lv_aload_n hx hb dX10_readCompare_33 rfl (lv_at hl 0 rfl) ?_
    refine tg_get (ci := 10) (ts := ty_MODEL) (C := RX10) (T := TX10) (N := 49) hx hb hts inX10 hown hK hw h_p0 rfl rfl 9 (by decide) (hts _ tw_1146) (fun _ h9 => h9) (ft := vI (-2147483648) 2147483647) rfl dX10_readCompare_34 (fun u_1 hv_u_1 m_u_1 => ?_)
    obtain ⟨vu_1, rfl, r_vu_1⟩ := hv_u_1
    have q_vu_1 : s0.1 9 = vu_1 := OV.eqI (V := vw_M2) hw.2.2.1 o_p0 m_u_1 (by decide)
    refine lv_istore_n (lv' := [(2, .int vu_1), (0, .ref p0), (1, .int p1)]) hx hb dX10_readCompare_37 rfl hl (by decide) rfl (fun ls hl => ?_)
    refine lv_aload_n hx hb dX10_readCompare_38 rfl (lv_at hl 1 rfl) ?_
    refine tk_v (va_runV (As := []) (rest := []) ⟨hx, hb, hml, hown, hts⟩ (c_X10_go__4 l D cy z H.size Ps ws hw.1 p0 s0 h_p0 o_p0) (cwV 0 hts (gV tw_1298 tw_1300 ts_40 tw_15 tw_1301) rfl rfl rfl (by decide +kernel) ⟨Nat.le_of_ble_eq_true rfl, Nat.le_of_ble_eq_true rfl⟩) (tg_preV hw hK hSD hA (ci := 10) (q := (RX10, TX10, 49)) rfl h_p0 rfl) rfl rfl hl.1 rfl (lv_room (Nat.le_of_ble_eq_true rfl)) dX10_readCompare_39 ⟨Nat.le_of_ble_eq_true rfl, Nat.le_of_ble_eq_true rfl⟩) hw hA ⟨by decide, by decide⟩ (fun ws H locs hp_v_2 hw hF9 => ?_)
    have x_SNI_p0_gd_gh_gg := SNI.over hF9 x_SNI_p0_gd_gh_gg (by decide)
    obtain ⟨hfn, hp_v_2⟩ := hp_v_2
    obtain ⟨sg_3, q_sg_3⟩ : ∃ q9 : OS, (f_X10_go__2 s0) = q9 := ⟨_, rfl⟩
    have o_p0 : OV vw_M2 Ps ws p0 sg_3 := by rw [← q_sg_3]; exact hfn.1
    refine lv_aload_n hx hb dX10_readCompare_42 rfl (lv_at hl 1 rfl) ?_
    refine lv_iconst (v := 0) hx hb dX10_readCompare_43 (by decide) ?_
    refine lv_sipush (v := 999) hx hb dX10_readCompare_44 (by decide) ?_
    refine tk_i (va_runV (As := [.int 0, .int 999]) (rest := []) ⟨hx, hb, hml, hown, hts⟩ (c_X10_readNumber__12 l D cy z H.size Ps ws hw.1 p0 0 999 sg_3 h_p0 rl_0 rl_999 o_p0) (cwV 2 hts (gV tw_1355 tw_1357 ts_50 tw_15 tw_1358) rfl rfl rfl (by decide +kernel) ⟨Nat.le_of_ble_eq_true rfl, Nat.le_of_ble_eq_true rfl⟩) (tg_preV hw hK hSD hA (ci := 10) (q := (RX10, TX10, 49)) rfl h_p0 rfl) rfl rfl hl.1 rfl (lv_room (Nat.le_of_ble_eq_true rfl)) dX10_readCompare_47 ⟨Nat.le_of_ble_eq_true rfl, Nat.le_of_ble_eq_true rfl⟩) hw hA ⟨by decide, by decide⟩ (fun v_4 ws H locs hp_v_4 hw hF9 => ?_)
    have x_SNI_p0_gd_gh_gg := SNI.over hF9 x_SNI_p0_gd_gh_gg (by decide)
    obtain ⟨hfn, hp_v_4⟩ := hp_v_4
    obtain ⟨sg_5, q_sg_5⟩ : ∃ q9 : OS, (f_X10_readNumber__7 (0 : Int32) (999 : Int32) sg_3).1 = q9 := ⟨_, rfl⟩
    have o_p0 : OV vw_M2 Ps ws p0 sg_5 := by rw [← q_sg_5]; exact hfn.1
    have q_v_4 : (f_X10_readNumber__7 (0 : Int32) (999 : Int32) sg_3).2 = v_4 := hfn.2.1
    have r_v_4 : RI v_4 0 1 := hp_v_4.1
    by_cases c9_v_4 : v_4 = 0
    · have r_v_4 : RI v_4 0 0 := by rw [c9_v_4]; exact rl_0
      refine lv_if_ne (tgt := 55) hx hb dX10_readCompare_50 (by decide) (fun c_50 => ?_) (fun c_50 => ?_)
      · exact absurd (r_v_4.eq.trans rl_0.eq.symm) ((ti_ne c_50))
      · refine lv_iconst (v := 0) hx hb dX10_readCompare_53 (by decide) ?_
        simp only [f_X10_readCompare__1_33, ↓reduceIte, q_z0_7, q_vu_1, q_sg_3, q_sg_5, q_v_4, eq_true c9_v_4, eq_true c_50] at hE
        subst hQ
        exact W.zret (v := 0) hx hb hr (rfl) (fun t ht hW => ⟨⟨0, ws, rfl, ⟨⟨⟨(by rw [hR, ← hE]; exact o_p0), (by rw [hR, ← hE]), trivial⟩, rl_0.to (by decide), (fun h0 => trivial), (fun h0 => absurd rfl h0)⟩, hw.1, hw.2.2.2.2.1⟩, by rw [ht]; exact hw.2.1, va_K.moved hW.alike hK, hw.2.2.1⟩, hw.2.2.2.1.F ht⟩) hw.2.2.2.1.2.2 dX10_readCompare_54
    · have r_v_4 : RI v_4 1 1 := rc_neL r_v_4 rl_0 (ti_ne c9_v_4) (by decide)
      obtain ⟨v_6, m_v_6, r_v_6⟩ := ((hp_v_4.2.2 c9_v_4).1)
      refine lv_if_ne (tgt := 55) hx hb dX10_readCompare_50 (by decide) (fun c_50 => ?_) (fun c_50 => ?_)
      · refine lv_aload_n hx hb dX10_readCompare_55 rfl (lv_at hl 1 rfl) ?_
        refine lv_aload_n hx hb dX10_readCompare_56 rfl (lv_at hl 1 rfl) ?_
        refine lv_bipush (v := 50) hx hb dX10_readCompare_57 (by decide) ?_
        refine lv_iload_n hx hb dX10_readCompare_59 rfl (lv_at hl 2 rfl) ?_
        refine lv_iadd hx hb dX10_readCompare_60 (lv_topi (fun v_7 e_v_7 => ?_))
        obtain ⟨t_v_7, r_v_7⟩ := tq_add (lo := 74) (hi := 77) rl_50 r_p1 (by decide +kernel) e_v_7
        have t_v_7 : v_7.toInt = 50 + p1.toInt := t_v_7
        have q_v_7 : (50 : Int32) + p1 = v_7 := e_v_7.symm
        refine lv_iconst (v := 0) hx hb dX10_readCompare_61 (by decide) ?_
        refine lv_aload_n hx hb dX10_readCompare_62 rfl (lv_at hl 1 rfl) ?_
        refine tg_mem (ci := 10) (C := RX10) (T := TX10) (N := 49) hx hb hts inX10 hown hK hw 13 m_v_6 rfl (by decide) (hts _ tw_1150) (fun _ h9 => h9) dX10_readCompare_63 ?_
        have q_v_6 : sg_5.1 13 = v_6 := OV.eqI (V := vw_M2) hw.2.2.1 o_p0 m_v_6 (by decide)
        refine lv_iload_n hx hb dX10_readCompare_66 rfl (lv_at hl 0 rfl) ?_
        refine tk_i (va_runV (As := [.int v_7, .int 0, .int v_6, .int vu_1]) (rest := [.ref p0]) ⟨hx, hb, hml, hown, hts⟩ (c_X10_saysOne__3 l D cy z H.size Ps ws hw.1 p0 v_7 0 v_6 vu_1 (gd) (gh) (gg) sg_5 h_p0 (r_v_7.to (by decide)) (rl_0.to (by decide)) (r_v_6.to (by decide)) r_vu_1 x_SNI_p0_gd_gh_gg o_p0) (cwV 4 hts (gV tw_1771 tw_1773 ts_116 tw_15 tw_1774) rfl rfl rfl (by decide +kernel) ⟨Nat.le_of_ble_eq_true rfl, Nat.le_of_ble_eq_true rfl⟩) (tg_preV hw hK hSD hA (ci := 10) (q := (RX10, TX10, 49)) rfl h_p0 rfl) rfl rfl hl.1 rfl (lv_room (Nat.le_of_ble_eq_true rfl)) dX10_readCompare_67 ⟨Nat.le_of_ble_eq_true rfl, Nat.le_of_ble_eq_true rfl⟩) hw hA ⟨by decide, by decide⟩ (fun v_8 ws H locs hp_v_8 hw hF9 => ?_)
        have m_v_6 := FLD.over hF9 m_v_6 (by decide)
        obtain ⟨hfn, hp_v_8⟩ := hp_v_8
        obtain ⟨sg_9, q_sg_9⟩ : ∃ q9 : OS, (f_X10_saysOne__3 v_7 (0 : Int32) v_6 vu_1 sg_5).1 = q9 := ⟨_, rfl⟩
        have o_p0 : OV vw_M2 Ps ws p0 sg_9 := by rw [← q_sg_9]; exact hfn.1
        have q_v_8 : (f_X10_saysOne__3 v_7 (0 : Int32) v_6 vu_1 sg_5).2 = v_8 := hfn.2.1
        have r_v_8 : RI v_8 0 39 := hp_v_8.1
        have x_SNL_p0_gd_gh_gg_v_8 := hp_v_8.2.2.2.1.1
        refine tg_put (ci := 10) (ts := ty_MODEL) (v := .int v_8) (ty := .int) (C := RX10) (T := TX10) (N := 49) hx hb hts inX10 tyX10 tyX10_ok nmX10 hown hK hw h_p0 rfl rfl 48 (by decide) (hts _ tw_1185) (fun _ h9 => h9) rfl (by decide +kernel) rfl rfl (ft := vI (-2147483648) 2147483647) rfl ⟨_, rfl, (r_v_8.to (by decide))⟩ (by decide) dX10_readCompare_70 (fun ws H locs hw n_k_10 hF9 => ?_)
        have m_v_6 := FLD.over hF9 m_v_6 (by decide)
        have x_SNL_p0_gd_gh_gg_v_8 := SNL.over hF9 x_SNL_p0_gd_gh_gg_v_8 (by decide)
        obtain ⟨sg_11, q_sg_11⟩ : ∃ q9 : OS, sI sg_9 48 v_8 = q9 := ⟨_, rfl⟩
        have o_p0 : OV vw_M2 Ps ws p0 sg_11 := by rw [← q_sg_11]; exact OV.putI (V := vw_M2) hF9 n_k_10 o_p0 (by decide)
        have x_SNT_p0_gd_gh_gg : SNT ws p0 (gd) (gh) (gg) := (x_SNL_p0_gd_gh_gg_v_8.weak (d' := gd) (h' := gh) (g' := gg) (by have k1 := x_SNL_p0_gd_gh_gg_v_8.le; have d_8 := SNp.le x_SNI_p0_gd_gh_gg.2; have d_7 := x_SNI_p0_gd_gh_gg.1; omega)).snt n_k_10
        refine lv_iconst (v := 1) hx hb dX10_readCompare_73 (by decide) ?_
        simp only [f_X10_readCompare__1_33, ↓reduceIte, q_z0_7, q_vu_1, q_sg_3, q_sg_5, q_v_4, eq_false c9_v_4, eq_false c_50, q_v_7, q_v_6, q_sg_9, q_v_8, q_sg_11] at hE
        subst hQ
        exact W.zret (v := 1) hx hb hr (rfl) (fun t ht hW => ⟨⟨1, ws, rfl, ⟨⟨⟨(by rw [hR, ← hE]; exact o_p0), (by rw [hR, ← hE]), trivial⟩, rl_1.to (by decide), (fun _ => trivial), (fun h0 => ⟨⟨_, m_v_6, r_v_6⟩, ⟨_, n_k_10, r_v_8⟩, x_SNT_p0_gd_gh_gg, trivial⟩)⟩, hw.1, hw.2.2.2.2.1⟩, by rw [ht]; exact hw.2.1, va_K.moved hW.alike hK, hw.2.2.1⟩, hw.2.2.2.1.F ht⟩) hw.2.2.2.1.2.2 dX10_readCompare_74
      · have r_v_4 : RI v_4 1 0 := rc_eq1 r_v_4 rl_0 (ti_eq c_50) (by decide)
        exact (r_v_4.no (by decide)).elim
  refine lv_aload_n hx hb dX10_readCompare_0 rfl (lv_at hl 0 rfl) ?_
  refine lv_bipush (v := 60) hx hb dX10_readCompare_1 (by decide) ?_
  refine tk_ir (va_runV (As := [.int 60]) (rest := []) ⟨hx, hb, hml, hown, hts⟩ (c_X10_isSign__2 l D cy z s.heap.size Ps w0 hw.1 p0 60 s0 h_p0 (rl_60.to (by decide)) o_p0) (cwV 1 hts (gV tw_1413 tw_1415 ts_63 tw_15 tw_1416) rfl rfl rfl (by decide +kernel) ⟨Nat.le_of_ble_eq_true rfl, Nat.le_of_ble_eq_true rfl⟩) (tg_preV hw hK hSD hA (ci := 10) (q := (RX10, TX10, 49)) rfl h_p0 rfl) rfl rfl hl.1 rfl (lv_room (Nat.le_of_ble_eq_true rfl)) dX10_readCompare_3 ⟨Nat.le_of_ble_eq_true rfl, Nat.le_of_ble_eq_true rfl⟩) hw hA (fun v_12  H locs hp_v_12 hw => ?_)
  obtain ⟨hfn, hp_v_12⟩ := hp_v_12
  have q_v_12 : (f_X10_isSign__1 (60 : Int32) s0) = v_12 := hfn.1
  have r_v_12 : RI v_12 0 1 := hp_v_12.1
  by_cases c9_v_12 : v_12 = 0
  · have r_v_12 : RI v_12 0 0 := by rw [c9_v_12]; exact rl_0
    refine lv_if_ne (tgt := 33) hx hb dX10_readCompare_6 (by decide) (fun c_6 => ?_) (fun c_6 => ?_)
    · exact absurd (r_v_12.eq.trans rl_0.eq.symm) ((ti_ne c_6))
    · refine lv_aload_n hx hb dX10_readCompare_9 rfl (lv_at hl 0 rfl) ?_
      refine lv_bipush (v := 61) hx hb dX10_readCompare_10 (by decide) ?_
      refine tk_ir (va_runV (As := [.int 61]) (rest := []) ⟨hx, hb, hml, hown, hts⟩ (c_X10_isSign__2 l D cy z H.size Ps w0 hw.1 p0 61 s0 h_p0 (rl_61.to (by decide)) o_p0) (cwV 1 hts (gV tw_1413 tw_1415 ts_63 tw_15 tw_1416) rfl rfl rfl (by decide +kernel) ⟨Nat.le_of_ble_eq_true rfl, Nat.le_of_ble_eq_true rfl⟩) (tg_preV hw hK hSD hA (ci := 10) (q := (RX10, TX10, 49)) rfl h_p0 rfl) rfl rfl hl.1 rfl (lv_room (Nat.le_of_ble_eq_true rfl)) dX10_readCompare_12 ⟨Nat.le_of_ble_eq_true rfl, Nat.le_of_ble_eq_true rfl⟩) hw hA (fun v_13  H locs hp_v_13 hw => ?_)
      obtain ⟨hfn, hp_v_13⟩ := hp_v_13
      have q_v_13 : (f_X10_isSign__1 (61 : Int32) s0) = v_13 := hfn.1
      have r_v_13 : RI v_13 0 1 := hp_v_13.1
      by_cases c9_v_13 : v_13 = 0
      · have r_v_13 : RI v_13 0 0 := by rw [c9_v_13]; exact rl_0
        refine lv_if_ne (tgt := 33) hx hb dX10_readCompare_15 (by decide) (fun c_15 => ?_) (fun c_15 => ?_)
        · exact absurd (r_v_13.eq.trans rl_0.eq.symm) ((ti_ne c_15))
        · refine lv_aload_n hx hb dX10_readCompare_18 rfl (lv_at hl 0 rfl) ?_
          refine lv_bipush (v := 62) hx hb dX10_readCompare_19 (by decide) ?_
          refine tk_ir (va_runV (As := [.int 62]) (rest := []) ⟨hx, hb, hml, hown, hts⟩ (c_X10_isSign__2 l D cy z H.size Ps w0 hw.1 p0 62 s0 h_p0 (rl_62.to (by decide)) o_p0) (cwV 1 hts (gV tw_1413 tw_1415 ts_63 tw_15 tw_1416) rfl rfl rfl (by decide +kernel) ⟨Nat.le_of_ble_eq_true rfl, Nat.le_of_ble_eq_true rfl⟩) (tg_preV hw hK hSD hA (ci := 10) (q := (RX10, TX10, 49)) rfl h_p0 rfl) rfl rfl hl.1 rfl (lv_room (Nat.le_of_ble_eq_true rfl)) dX10_readCompare_21 ⟨Nat.le_of_ble_eq_true rfl, Nat.le_of_ble_eq_true rfl⟩) hw hA (fun v_14  H locs hp_v_14 hw => ?_)
          obtain ⟨hfn, hp_v_14⟩ := hp_v_14
          have q_v_14 : (f_X10_isSign__1 (62 : Int32) s0) = v_14 := hfn.1
          have r_v_14 : RI v_14 0 1 := hp_v_14.1
          by_cases c9_v_14 : v_14 = 0
          · have r_v_14 : RI v_14 0 0 := by rw [c9_v_14]; exact rl_0
            refine lv_if_ne (tgt := 33) hx hb dX10_readCompare_24 (by decide) (fun c_24 => ?_) (fun c_24 => ?_)
            · exact absurd (r_v_14.eq.trans rl_0.eq.symm) ((ti_ne c_24))
            · refine lv_aload_n hx hb dX10_readCompare_27 rfl (lv_at hl 0 rfl) ?_
              refine lv_iconst (v := 1) hx hb dX10_readCompare_28 (by decide) ?_
              refine tk_i (va_runV (As := [.int 1]) (rest := []) ⟨hx, hb, hml, hown, hts⟩ (c_X10_bad__2 l D cy z H.size Ps w0 hw.1 p0 1 s0 h_p0 (rl_1.to (by decide)) o_p0) (cwV 1 hts (gV tw_1336 tw_1338 ts_46 tw_15 tw_1339) rfl rfl rfl (by decide +kernel) ⟨Nat.le_of_ble_eq_true rfl, Nat.le_of_ble_eq_true rfl⟩) (tg_preV hw hK hSD hA (ci := 10) (q := (RX10, TX10, 49)) rfl h_p0 rfl) rfl rfl hl.1 rfl (lv_room (Nat.le_of_ble_eq_true rfl)) dX10_readCompare_29 ⟨Nat.le_of_ble_eq_true rfl, Nat.le_of_ble_eq_true rfl⟩) hw hA ⟨by decide, by decide⟩ (fun v_15 ws H locs hp_v_15 hw hF9 => ?_)
              have x_SNI_p0_gd_gh_gg := SNI.over hF9 x_SNI_p0_gd_gh_gg (by decide)
              obtain ⟨hfn, hp_v_15⟩ := hp_v_15
              obtain ⟨sg_16, q_sg_16⟩ : ∃ q9 : OS, (f_X10_bad__1 (1 : Int32) s0).1 = q9 := ⟨_, rfl⟩
              have o_p0 : OV vw_M2 Ps ws p0 sg_16 := by rw [← q_sg_16]; exact hfn.1
              have q_v_15 : (f_X10_bad__1 (1 : Int32) s0).2 = v_15 := hfn.2.1
              have r_v_15 : RI v_15 0 0 := hp_v_15.1
              simp only [f_X10_readCompare__1, ↓reduceIte, q_v_12, eq_true c9_v_12, eq_true c_6, q_v_13, eq_true c9_v_13, eq_true c_15, q_v_14, eq_true c9_v_14, eq_true c_24, q_sg_16, q_v_15] at hE
              subst hQ
              exact W.zret (v := v_15) hx hb hr (tq_nz (r_v_15.to (by decide))) (fun t ht hW => ⟨⟨v_15, ws, rfl, ⟨⟨⟨(by rw [hR, ← hE]; exact o_p0), (by rw [hR, ← hE]), trivial⟩, r_v_15.to (by decide), (fun h0 => trivial), (fun h0 => absurd (Int32.toInt_inj.mp (by have h8 := r_v_15; unfold RI at h8; rw [Int32.toInt_zero]; omega)) h0)⟩, hw.1, hw.2.2.2.2.1⟩, by rw [ht]; exact hw.2.1, va_K.moved hW.alike hK, hw.2.2.1⟩, hw.2.2.2.1.F ht⟩) hw.2.2.2.1.2.2 dX10_readCompare_32
          · have r_v_14 : RI v_14 1 1 := rc_neL r_v_14 rl_0 (ti_ne c9_v_14) (by decide)
            obtain ⟨v_17, m_v_17, r_v_17⟩ := ((hp_v_14.2.2 c9_v_14).1)
            refine lv_if_ne (tgt := 33) hx hb dX10_readCompare_24 (by decide) (fun c_24 => ?_) (fun c_24 => ?_)
            · simp only [f_X10_readCompare__1, ↓reduceIte, q_v_12, eq_true c9_v_12, eq_true c_6, q_v_13, eq_true c9_v_13, eq_true c_15, q_v_14, eq_false c9_v_14, eq_false c_24] at hE
              exact B33 v_17 s0 w0 _ _ ls r_p1 r_v_17 m_v_17 x_SNI_p0_gd_gh_gg o_p0 hE hw hl
            · have r_v_14 : RI v_14 1 0 := rc_eq1 r_v_14 rl_0 (ti_eq c_24) (by decide)
              exact (r_v_14.no (by decide)).elim
      · have r_v_13 : RI v_13 1 1 := rc_neL r_v_13 rl_0 (ti_ne c9_v_13) (by decide)
        obtain ⟨v_18, m_v_18, r_v_18⟩ := ((hp_v_13.2.2 c9_v_13).1)
        refine lv_if_ne (tgt := 33) hx hb dX10_readCompare_15 (by decide) (fun c_15 => ?_) (fun c_15 => ?_)
        · simp only [f_X10_readCompare__1, ↓reduceIte, q_v_12, eq_true c9_v_12, eq_true c_6, q_v_13, eq_false c9_v_13, eq_false c_15] at hE
          exact B33 v_18 s0 w0 _ _ ls r_p1 r_v_18 m_v_18 x_SNI_p0_gd_gh_gg o_p0 hE hw hl
        · have r_v_13 : RI v_13 1 0 := rc_eq1 r_v_13 rl_0 (ti_eq c_15) (by decide)
          exact (r_v_13.no (by decide)).elim
  · have r_v_12 : RI v_12 1 1 := rc_neL r_v_12 rl_0 (ti_ne c9_v_12) (by decide)
    obtain ⟨v_19, m_v_19, r_v_19⟩ := ((hp_v_12.2.2 c9_v_12).1)
    refine lv_if_ne (tgt := 33) hx hb dX10_readCompare_6 (by decide) (fun c_6 => ?_) (fun c_6 => ?_)
    · simp only [f_X10_readCompare__1, ↓reduceIte, q_v_12, eq_false c9_v_12, eq_false c_6] at hE
      exact B33 v_19 s0 w0 _ _ ls r_p1 r_v_19 m_v_19 x_SNI_p0_gd_gh_gg o_p0 hE hw hl
    · have r_v_12 : RI v_12 1 0 := rc_eq1 r_v_12 rl_0 (ti_eq c_6) (by decide)
      exact (r_v_12.no (by decide)).elim
abbrev wr_X10_wordOf__10 : List (Nat × Nat) := []
abbrev wa_X10_wordOf__10 : List Nat := []
set_option maxHeartbeats 4000000 in
set_option maxRecDepth 100000 in
theorem c_X10_wordOf__10 (l : Launch) (D : va_G) (cy : Nat → ClassId) (z : Nat → Nat) (sz : Nat) (Ps : PSI) (w0 : va_W) (hT : HT cy GG Ps w0) (p0 : Int32) (r_p0 : RI p0 0 27) : Met l yX10_wordOf (Cond.code yX10_wordOf cX10_wordOf 1 (some .long) :: gT) ({ frames := 2, cells := 0, slots := 0, locals := 400 } : Room) (va_Pc [.int p0] (PRE D cy z w0 sz)) (va_Ql (fun (r : Int64) (u : Unit) => ((f_X10_wordOf__7 p0) = r ∧ True) ∧ (RJ r 257 8935713994)) (BB D cy (va_A w0 sz) (fun (u : Unit) => w0)) (va_A w0 sz)) 0 0 (va_A w0 sz) := by
  refine Met.ofW (cc := cX10_wordOf) (maxL := 1) (ret := (some .long)) (by decide) rfl ?_
  intro p e s m args below meth c s₁ B hml hv
  obtain ⟨rfl, hsz, hP, hK, hD0, hSD⟩ := hv
  have hx := B.exec
  have hb := B.bytes
  have hr := B.returns
  have hlocks := B.notSynchronized
  have hts : ∀ w ∈ gT, w.before _ s = true := fun w h => atoms_spec (ws := Cond.code yX10_wordOf cX10_wordOf 1 (some .long) :: gT) B.pre w (List.mem_cons_of_mem _ h)
  have hown : s.vm.findClass RX10 = some m.cls := findClass_of_methodNamed B.named
  subst hsz
  have hD := hD0.self (sz := s.heap.size)
  generalize hAe : va_A w0 s.heap.size = A at hD hSD ⊢
  have hA : ∀ q : Nat, s.heap.size ≤ q → A q := fun q h => by rw [← hAe]; exact Or.inr h
  have hl := lv_entry ([.int p0]) (n := 1) (Nat.le_of_ble_eq_true rfl)
  rw [lg_entry_eq]
  generalize (lg_sl ([.int p0]) ++ List.replicate (1 - (lg_sl ([.int p0])).length) Slot.unset).toArray = ls at hl ⊢
  have hl : lv_has ls 1 [(0, .int p0)] := hl
  refine nameQ (fun Q hQ => ?_)
  have hw : WD D cy GG A s wr_X10_wordOf__10 wa_X10_wordOf__10 Ps w0 Ps w0 s.heap [] := ⟨hT, hP, hD, va_S.rf, FR.rf, hT.1, [], (List.append_nil _).symm⟩
  obtain ⟨R9, hR⟩ : ∃ q9 : Int64, f_X10_wordOf__7 p0 = q9 := ⟨_, rfl⟩
  have hE := hR
  refine lv_iload_n hx hb dX10_wordOf_0 rfl (lv_at hl 0 rfl) ?_
  have w_1 := r_p0
  by_cases cl_1 : p0.toInt < 0 ∨ 26 < p0.toInt
  · refine lv_tableOut (tgt := 547) hx hb dX10_wordOf_1 cl_1 (by decide) ?_
    refine lv_bipush (v := 110) hx hb dX10_wordOf_547 (by decide) ?_
    refine lv_bipush (v := 117) hx hb dX10_wordOf_549 (by decide) ?_
    refine lv_bipush (v := 109) hx hb dX10_wordOf_551 (by decide) ?_
    refine lv_bipush (v := 98) hx hb dX10_wordOf_553 (by decide) ?_
    refine lv_bipush (v := 101) hx hb dX10_wordOf_555 (by decide) ?_
    refine lv_bipush (v := 114) hx hb dX10_wordOf_557 (by decide) ?_
    refine lv_iconst (v := 0) hx hb dX10_wordOf_559 (by decide) ?_
    refine tk_lr (va_runS (As := [.int 110, .int 117, .int 109, .int 98, .int 101, .int 114, .int 0]) (rest := []) ⟨hx, hb, hml, hown, hts⟩ (c_X10_spelt__58 l D cy z s.heap.size Ps w0 hw.1 110 117 109 98 101 114 0 rl_110 rl_117 rl_109 rl_98 rl_101 rl_114 rl_0) (va_cwS 7 hts (gS tw_1325 tw_1326 tw_15 tw_1327) rfl rfl rfl (by decide +kernel) ⟨Nat.le_of_ble_eq_true rfl, Nat.le_of_ble_eq_true rfl⟩) (tg_preS hw hK hSD hA) rfl rfl hl.1 rfl (lv_room (Nat.le_of_ble_eq_true rfl)) dX10_wordOf_560 ⟨Nat.le_of_ble_eq_true rfl, Nat.le_of_ble_eq_true rfl⟩) hw hA (fun v_1  H locs hp_v_1 hw => ?_)
    obtain ⟨hfn, hp_v_1⟩ := hp_v_1
    have q_v_1 : (f_X10_spelt__30 (110 : Int32) (117 : Int32) (109 : Int32) (98 : Int32) (101 : Int32) (114 : Int32) (0 : Int32)) = v_1 := hfn.1
    have r_v_1 : RJ v_1 212302449 212302449 := hp_v_1
    simp only [f_X10_wordOf__7, ↓reduceIte, eq_true cl_1, q_v_1] at hE
    subst hQ
    exact W.lret (v := v_1) hx hb hr (fun t ht hW => ⟨⟨v_1, (), rfl, ⟨⟨(by rw [hR, ← hE]), trivial⟩, r_v_1.to (by decide)⟩, by rw [ht]; exact hw.2.1, va_K.moved hW.alike hK, hw.2.2.1⟩, hw.2.2.2.1.F ht⟩) hw.2.2.2.1.2.2 dX10_wordOf_563
  · have e_1 : p0.toInt = 0 ∨ p0.toInt = 1 ∨ p0.toInt = 2 ∨ p0.toInt = 3 ∨ p0.toInt = 4 ∨ p0.toInt = 5 ∨ p0.toInt = 6 ∨ p0.toInt = 7 ∨ p0.toInt = 8 ∨ p0.toInt = 9 ∨ p0.toInt = 10 ∨ p0.toInt = 11 ∨ p0.toInt = 12 ∨ p0.toInt = 13 ∨ p0.toInt = 14 ∨ p0.toInt = 15 ∨ p0.toInt = 16 ∨ p0.toInt = 17 ∨ p0.toInt = 18 ∨ p0.toInt = 19 ∨ p0.toInt = 20 ∨ p0.toInt = 21 ∨ p0.toInt = 22 ∨ p0.toInt = 23 ∨ p0.toInt = 24 ∨ p0.toInt = 25 ∨ p0.toInt = 26 := by omega
    rcases e_1 with h_1 | h_1 | h_1 | h_1 | h_1 | h_1 | h_1 | h_1 | h_1 | h_1 | h_1 | h_1 | h_1 | h_1 | h_1 | h_1 | h_1 | h_1 | h_1 | h_1 | h_1 | h_1 | h_1 | h_1 | h_1 | h_1 | h_1
    · refine lv_tableIn (tgt := 124) (off := 123) hx hb dX10_wordOf_1 (by omega) (by omega) (by rw [h_1]; rfl) (by decide) ?_
      have r_p0 : RI p0 0 0 := ⟨by omega, by omega⟩
      refine lv_bipush (v := 105) hx hb dX10_wordOf_124 (by decide) ?_
      refine lv_bipush (v := 100) hx hb dX10_wordOf_126 (by decide) ?_
      refine lv_bipush (v := 101) hx hb dX10_wordOf_128 (by decide) ?_
      refine lv_bipush (v := 97) hx hb dX10_wordOf_130 (by decide) ?_
      refine lv_iconst (v := 0) hx hb dX10_wordOf_132 (by decide) ?_
      refine lv_iconst (v := 0) hx hb dX10_wordOf_133 (by decide) ?_
      refine lv_iconst (v := 0) hx hb dX10_wordOf_134 (by decide) ?_
      refine tk_lr (va_runS (As := [.int 105, .int 100, .int 101, .int 97, .int 0, .int 0, .int 0]) (rest := []) ⟨hx, hb, hml, hown, hts⟩ (c_X10_spelt__59 l D cy z s.heap.size Ps w0 hw.1 105 100 101 97 0 0 0 rl_105 rl_100 rl_101 rl_97 rl_0 rl_0 rl_0) (va_cwS 7 hts (gS tw_1325 tw_1326 tw_15 tw_1327) rfl rfl rfl (by decide +kernel) ⟨Nat.le_of_ble_eq_true rfl, Nat.le_of_ble_eq_true rfl⟩) (tg_preS hw hK hSD hA) rfl rfl hl.1 rfl (lv_room (Nat.le_of_ble_eq_true rfl)) dX10_wordOf_135 ⟨Nat.le_of_ble_eq_true rfl, Nat.le_of_ble_eq_true rfl⟩) hw hA (fun v_2  H locs hp_v_2 hw => ?_)
      obtain ⟨hfn, hp_v_2⟩ := hp_v_2
      have q_v_2 : (f_X10_spelt__31 (105 : Int32) (100 : Int32) (101 : Int32) (97 : Int32) (0 : Int32) (0 : Int32) (0 : Int32)) = v_2 := hfn.1
      have r_v_2 : RJ v_2 180199 180199 := hp_v_2
      simp only [f_X10_wordOf__7, ↓reduceIte, eq_false cl_1, eq_true h_1, q_v_2] at hE
      subst hQ
      exact W.lret (v := v_2) hx hb hr (fun t ht hW => ⟨⟨v_2, (), rfl, ⟨⟨(by rw [hR, ← hE]), trivial⟩, r_v_2.to (by decide)⟩, by rw [ht]; exact hw.2.1, va_K.moved hW.alike hK, hw.2.2.1⟩, hw.2.2.2.1.F ht⟩) hw.2.2.2.1.2.2 dX10_wordOf_138
    · refine lv_tableIn (tgt := 139) (off := 138) hx hb dX10_wordOf_1 (by omega) (by omega) (by rw [h_1]; rfl) (by decide) ?_
      have r_p0 : RI p0 1 1 := ⟨by omega, by omega⟩
      have n_1_0 : ¬ (p0.toInt = 0) := by omega
      refine lv_bipush (v := 114) hx hb dX10_wordOf_139 (by decide) ?_
      refine lv_bipush (v := 111) hx hb dX10_wordOf_141 (by decide) ?_
      refine lv_bipush (v := 111) hx hb dX10_wordOf_143 (by decide) ?_
      refine lv_bipush (v := 109) hx hb dX10_wordOf_145 (by decide) ?_
      refine lv_iconst (v := 0) hx hb dX10_wordOf_147 (by decide) ?_
      refine lv_iconst (v := 0) hx hb dX10_wordOf_148 (by decide) ?_
      refine lv_iconst (v := 0) hx hb dX10_wordOf_149 (by decide) ?_
      refine tk_lr (va_runS (As := [.int 114, .int 111, .int 111, .int 109, .int 0, .int 0, .int 0]) (rest := []) ⟨hx, hb, hml, hown, hts⟩ (c_X10_spelt__60 l D cy z s.heap.size Ps w0 hw.1 114 111 111 109 0 0 0 rl_114 rl_111 rl_111 rl_109 rl_0 rl_0 rl_0) (va_cwS 7 hts (gS tw_1325 tw_1326 tw_15 tw_1327) rfl rfl rfl (by decide +kernel) ⟨Nat.le_of_ble_eq_true rfl, Nat.le_of_ble_eq_true rfl⟩) (tg_preS hw hK hSD hA) rfl rfl hl.1 rfl (lv_room (Nat.le_of_ble_eq_true rfl)) dX10_wordOf_150 ⟨Nat.le_of_ble_eq_true rfl, Nat.le_of_ble_eq_true rfl⟩) hw hA (fun v_3  H locs hp_v_3 hw => ?_)
      obtain ⟨hfn, hp_v_3⟩ := hp_v_3
      have q_v_3 : (f_X10_spelt__31 (114 : Int32) (111 : Int32) (111 : Int32) (109 : Int32) (0 : Int32) (0 : Int32) (0 : Int32)) = v_3 := hfn.1
      have r_v_3 : RJ v_3 365647 365647 := hp_v_3
      simp only [f_X10_wordOf__7, ↓reduceIte, eq_false cl_1, eq_false n_1_0, eq_true h_1, q_v_3] at hE
      subst hQ
      exact W.lret (v := v_3) hx hb hr (fun t ht hW => ⟨⟨v_3, (), rfl, ⟨⟨(by rw [hR, ← hE]), trivial⟩, r_v_3.to (by decide)⟩, by rw [ht]; exact hw.2.1, va_K.moved hW.alike hK, hw.2.2.1⟩, hw.2.2.2.1.F ht⟩) hw.2.2.2.1.2.2 dX10_wordOf_153
    · refine lv_tableIn (tgt := 154) (off := 153) hx hb dX10_wordOf_1 (by omega) (by omega) (by rw [h_1]; rfl) (by decide) ?_
      have r_p0 : RI p0 2 2 := ⟨by omega, by omega⟩
      have n_1_0 : ¬ (p0.toInt = 0) := by omega
      have n_1_1 : ¬ (p0.toInt = 1) := by omega
      refine lv_bipush (v := 112) hx hb dX10_wordOf_154 (by decide) ?_
      refine lv_bipush (v := 97) hx hb dX10_wordOf_156 (by decide) ?_
      refine lv_bipush (v := 114) hx hb dX10_wordOf_158 (by decide) ?_
      refine lv_bipush (v := 99) hx hb dX10_wordOf_160 (by decide) ?_
      refine lv_bipush (v := 101) hx hb dX10_wordOf_162 (by decide) ?_
      refine lv_bipush (v := 108) hx hb dX10_wordOf_164 (by decide) ?_
      refine lv_iconst (v := 0) hx hb dX10_wordOf_166 (by decide) ?_
      refine tk_lr (va_runS (As := [.int 112, .int 97, .int 114, .int 99, .int 101, .int 108, .int 0]) (rest := []) ⟨hx, hb, hml, hown, hts⟩ (c_X10_spelt__61 l D cy z s.heap.size Ps w0 hw.1 112 97 114 99 101 108 0 rl_112 rl_97 rl_114 rl_99 rl_101 rl_108 rl_0) (va_cwS 7 hts (gS tw_1325 tw_1326 tw_15 tw_1327) rfl rfl rfl (by decide +kernel) ⟨Nat.le_of_ble_eq_true rfl, Nat.le_of_ble_eq_true rfl⟩) (tg_preS hw hK hSD hA) rfl rfl hl.1 rfl (lv_room (Nat.le_of_ble_eq_true rfl)) dX10_wordOf_167 ⟨Nat.le_of_ble_eq_true rfl, Nat.le_of_ble_eq_true rfl⟩) hw hA (fun v_4  H locs hp_v_4 hw => ?_)
      obtain ⟨hfn, hp_v_4⟩ := hp_v_4
      have q_v_4 : (f_X10_spelt__30 (112 : Int32) (97 : Int32) (114 : Int32) (99 : Int32) (101 : Int32) (108 : Int32) (0 : Int32)) = v_4 := hfn.1
      have r_v_4 : RJ v_4 230470581 230470581 := hp_v_4
      simp only [f_X10_wordOf__7, ↓reduceIte, eq_false cl_1, eq_false n_1_0, eq_false n_1_1, eq_true h_1, q_v_4] at hE
      subst hQ
      exact W.lret (v := v_4) hx hb hr (fun t ht hW => ⟨⟨v_4, (), rfl, ⟨⟨(by rw [hR, ← hE]), trivial⟩, r_v_4.to (by decide)⟩, by rw [ht]; exact hw.2.1, va_K.moved hW.alike hK, hw.2.2.1⟩, hw.2.2.2.1.F ht⟩) hw.2.2.2.1.2.2 dX10_wordOf_170
    · refine lv_tableIn (tgt := 171) (off := 170) hx hb dX10_wordOf_1 (by omega) (by omega) (by rw [h_1]; rfl) (by decide) ?_
      have r_p0 : RI p0 3 3 := ⟨by omega, by omega⟩
      have n_1_0 : ¬ (p0.toInt = 0) := by omega
      have n_1_1 : ¬ (p0.toInt = 1) := by omega
      have n_1_2 : ¬ (p0.toInt = 2) := by omega
      refine lv_bipush (v := 112) hx hb dX10_wordOf_171 (by decide) ?_
      refine lv_bipush (v := 101) hx hb dX10_wordOf_173 (by decide) ?_
      refine lv_bipush (v := 114) hx hb dX10_wordOf_175 (by decide) ?_
      refine lv_bipush (v := 115) hx hb dX10_wordOf_177 (by decide) ?_
      refine lv_bipush (v := 111) hx hb dX10_wordOf_179 (by decide) ?_
      refine lv_bipush (v := 110) hx hb dX10_wordOf_181 (by decide) ?_
      refine lv_iconst (v := 0) hx hb dX10_wordOf_183 (by decide) ?_
      refine tk_lr (va_runS (As := [.int 112, .int 101, .int 114, .int 115, .int 111, .int 110, .int 0]) (rest := []) ⟨hx, hb, hml, hown, hts⟩ (c_X10_spelt__62 l D cy z s.heap.size Ps w0 hw.1 112 101 114 115 111 110 0 rl_112 rl_101 rl_114 rl_115 rl_111 rl_110 rl_0) (va_cwS 7 hts (gS tw_1325 tw_1326 tw_15 tw_1327) rfl rfl rfl (by decide +kernel) ⟨Nat.le_of_ble_eq_true rfl, Nat.le_of_ble_eq_true rfl⟩) (tg_preS hw hK hSD hA) rfl rfl hl.1 rfl (lv_room (Nat.le_of_ble_eq_true rfl)) dX10_wordOf_184 ⟨Nat.le_of_ble_eq_true rfl, Nat.le_of_ble_eq_true rfl⟩) hw hA (fun v_5  H locs hp_v_5 hw => ?_)
      obtain ⟨hfn, hp_v_5⟩ := hp_v_5
      have q_v_5 : (f_X10_spelt__30 (112 : Int32) (101 : Int32) (114 : Int32) (115 : Int32) (111 : Int32) (110 : Int32) (0 : Int32)) = v_5 := hfn.1
      have r_v_5 : RJ v_5 232608281 232608281 := hp_v_5
      simp only [f_X10_wordOf__7, ↓reduceIte, eq_false cl_1, eq_false n_1_0, eq_false n_1_1, eq_false n_1_2, eq_true h_1, q_v_5] at hE
      subst hQ
      exact W.lret (v := v_5) hx hb hr (fun t ht hW => ⟨⟨v_5, (), rfl, ⟨⟨(by rw [hR, ← hE]), trivial⟩, r_v_5.to (by decide)⟩, by rw [ht]; exact hw.2.1, va_K.moved hW.alike hK, hw.2.2.1⟩, hw.2.2.2.1.F ht⟩) hw.2.2.2.1.2.2 dX10_wordOf_187
    · refine lv_tableIn (tgt := 188) (off := 187) hx hb dX10_wordOf_1 (by omega) (by omega) (by rw [h_1]; rfl) (by decide) ?_
      have r_p0 : RI p0 4 4 := ⟨by omega, by omega⟩
      have n_1_0 : ¬ (p0.toInt = 0) := by omega
      have n_1_1 : ¬ (p0.toInt = 1) := by omega
      have n_1_2 : ¬ (p0.toInt = 2) := by omega
      have n_1_3 : ¬ (p0.toInt = 3) := by omega
      refine lv_bipush (v := 115) hx hb dX10_wordOf_188 (by decide) ?_
      refine lv_bipush (v := 105) hx hb dX10_wordOf_190 (by decide) ?_
      refine lv_bipush (v := 116) hx hb dX10_wordOf_192 (by decide) ?_
      refine lv_bipush (v := 115) hx hb dX10_wordOf_194 (by decide) ?_
      refine lv_iconst (v := 0) hx hb dX10_wordOf_196 (by decide) ?_
      refine lv_iconst (v := 0) hx hb dX10_wordOf_197 (by decide) ?_
      refine lv_iconst (v := 0) hx hb dX10_wordOf_198 (by decide) ?_
      refine tk_lr (va_runS (As := [.int 115, .int 105, .int 116, .int 115, .int 0, .int 0, .int 0]) (rest := []) ⟨hx, hb, hml, hown, hts⟩ (c_X10_spelt__63 l D cy z s.heap.size Ps w0 hw.1 115 105 116 115 0 0 0 rl_115 rl_105 rl_116 rl_115 rl_0 rl_0 rl_0) (va_cwS 7 hts (gS tw_1325 tw_1326 tw_15 tw_1327) rfl rfl rfl (by decide +kernel) ⟨Nat.le_of_ble_eq_true rfl, Nat.le_of_ble_eq_true rfl⟩) (tg_preS hw hK hSD hA) rfl rfl hl.1 rfl (lv_room (Nat.le_of_ble_eq_true rfl)) dX10_wordOf_199 ⟨Nat.le_of_ble_eq_true rfl, Nat.le_of_ble_eq_true rfl⟩) hw hA (fun v_6  H locs hp_v_6 hw => ?_)
      obtain ⟨hfn, hp_v_6⟩ := hp_v_6
      have q_v_6 : (f_X10_spelt__31 (115 : Int32) (105 : Int32) (116 : Int32) (115 : Int32) (0 : Int32) (0 : Int32) (0 : Int32)) = v_6 := hfn.1
      have r_v_6 : RJ v_6 381097 381097 := hp_v_6
      simp only [f_X10_wordOf__7, ↓reduceIte, eq_false cl_1, eq_false n_1_0, eq_false n_1_1, eq_false n_1_2, eq_false n_1_3, eq_true h_1, q_v_6] at hE
      subst hQ
      exact W.lret (v := v_6) hx hb hr (fun t ht hW => ⟨⟨v_6, (), rfl, ⟨⟨(by rw [hR, ← hE]), trivial⟩, r_v_6.to (by decide)⟩, by rw [ht]; exact hw.2.1, va_K.moved hW.alike hK, hw.2.2.1⟩, hw.2.2.2.1.F ht⟩) hw.2.2.2.1.2.2 dX10_wordOf_202
    · refine lv_tableIn (tgt := 203) (off := 202) hx hb dX10_wordOf_1 (by omega) (by omega) (by rw [h_1]; rfl) (by decide) ?_
      have r_p0 : RI p0 5 5 := ⟨by omega, by omega⟩
      have n_1_0 : ¬ (p0.toInt = 0) := by omega
      have n_1_1 : ¬ (p0.toInt = 1) := by omega
      have n_1_2 : ¬ (p0.toInt = 2) := by omega
      have n_1_3 : ¬ (p0.toInt = 3) := by omega
      have n_1_4 : ¬ (p0.toInt = 4) := by omega
      refine lv_bipush (v := 104) hx hb dX10_wordOf_203 (by decide) ?_
      refine lv_bipush (v := 97) hx hb dX10_wordOf_205 (by decide) ?_
      refine lv_bipush (v := 115) hx hb dX10_wordOf_207 (by decide) ?_
      refine lv_iconst (v := 0) hx hb dX10_wordOf_209 (by decide) ?_
      refine lv_iconst (v := 0) hx hb dX10_wordOf_210 (by decide) ?_
      refine lv_iconst (v := 0) hx hb dX10_wordOf_211 (by decide) ?_
      refine lv_iconst (v := 0) hx hb dX10_wordOf_212 (by decide) ?_
      refine tk_lr (va_runS (As := [.int 104, .int 97, .int 115, .int 0, .int 0, .int 0, .int 0]) (rest := []) ⟨hx, hb, hml, hown, hts⟩ (c_X10_spelt__64 l D cy z s.heap.size Ps w0 hw.1 104 97 115 0 0 0 0 rl_104 rl_97 rl_115 rl_0 rl_0 rl_0 rl_0) (va_cwS 7 hts (gS tw_1325 tw_1326 tw_15 tw_1327) rfl rfl rfl (by decide +kernel) ⟨Nat.le_of_ble_eq_true rfl, Nat.le_of_ble_eq_true rfl⟩) (tg_preS hw hK hSD hA) rfl rfl hl.1 rfl (lv_room (Nat.le_of_ble_eq_true rfl)) dX10_wordOf_213 ⟨Nat.le_of_ble_eq_true rfl, Nat.le_of_ble_eq_true rfl⟩) hw hA (fun v_7  H locs hp_v_7 hw => ?_)
      obtain ⟨hfn, hp_v_7⟩ := hp_v_7
      have q_v_7 : (f_X10_spelt__36 (104 : Int32) (97 : Int32) (115 : Int32) (0 : Int32) (0 : Int32) (0 : Int32) (0 : Int32)) = v_7 := hfn.1
      have r_v_7 : RJ v_7 5878 5878 := hp_v_7
      simp only [f_X10_wordOf__7, ↓reduceIte, eq_false cl_1, eq_false n_1_0, eq_false n_1_1, eq_false n_1_2, eq_false n_1_3, eq_false n_1_4, eq_true h_1, q_v_7] at hE
      subst hQ
      exact W.lret (v := v_7) hx hb hr (fun t ht hW => ⟨⟨v_7, (), rfl, ⟨⟨(by rw [hR, ← hE]), trivial⟩, r_v_7.to (by decide)⟩, by rw [ht]; exact hw.2.1, va_K.moved hW.alike hK, hw.2.2.1⟩, hw.2.2.2.1.F ht⟩) hw.2.2.2.1.2.2 dX10_wordOf_216
    · refine lv_tableIn (tgt := 217) (off := 216) hx hb dX10_wordOf_1 (by omega) (by omega) (by rw [h_1]; rfl) (by decide) ?_
      have r_p0 : RI p0 6 6 := ⟨by omega, by omega⟩
      have n_1_0 : ¬ (p0.toInt = 0) := by omega
      have n_1_1 : ¬ (p0.toInt = 1) := by omega
      have n_1_2 : ¬ (p0.toInt = 2) := by omega
      have n_1_3 : ¬ (p0.toInt = 3) := by omega
      have n_1_4 : ¬ (p0.toInt = 4) := by omega
      have n_1_5 : ¬ (p0.toInt = 5) := by omega
      refine lv_bipush (v := 113) hx hb dX10_wordOf_217 (by decide) ?_
      refine lv_bipush (v := 117) hx hb dX10_wordOf_219 (by decide) ?_
      refine lv_bipush (v := 97) hx hb dX10_wordOf_221 (by decide) ?_
      refine lv_bipush (v := 114) hx hb dX10_wordOf_223 (by decide) ?_
      refine lv_bipush (v := 114) hx hb dX10_wordOf_225 (by decide) ?_
      refine lv_bipush (v := 101) hx hb dX10_wordOf_227 (by decide) ?_
      refine lv_bipush (v := 108) hx hb dX10_wordOf_229 (by decide) ?_
      refine tk_lr (va_runS (As := [.int 113, .int 117, .int 97, .int 114, .int 114, .int 101, .int 108]) (rest := []) ⟨hx, hb, hml, hown, hts⟩ (c_X10_spelt__65 l D cy z s.heap.size Ps w0 hw.1 113 117 97 114 114 101 108 rl_113 rl_117 rl_97 rl_114 rl_114 rl_101 rl_108) (va_cwS 7 hts (gS tw_1325 tw_1326 tw_15 tw_1327) rfl rfl rfl (by decide +kernel) ⟨Nat.le_of_ble_eq_true rfl, Nat.le_of_ble_eq_true rfl⟩) (tg_preS hw hK hSD hA) rfl rfl hl.1 rfl (lv_room (Nat.le_of_ble_eq_true rfl)) dX10_wordOf_231 ⟨Nat.le_of_ble_eq_true rfl, Nat.le_of_ble_eq_true rfl⟩) hw hA (fun v_8  H locs hp_v_8 hw => ?_)
      obtain ⟨hfn, hp_v_8⟩ := hp_v_8
      have q_v_8 : (f_X10_spelt__37 (113 : Int32) (117 : Int32) (97 : Int32) (114 : Int32) (114 : Int32) (101 : Int32) (108 : Int32)) = v_8 := hfn.1
      have r_v_8 : RJ v_8 6888374364 6888374364 := hp_v_8
      simp only [f_X10_wordOf__7, ↓reduceIte, eq_false cl_1, eq_false n_1_0, eq_false n_1_1, eq_false n_1_2, eq_false n_1_3, eq_false n_1_4, eq_false n_1_5, eq_true h_1, q_v_8] at hE
      subst hQ
      exact W.lret (v := v_8) hx hb hr (fun t ht hW => ⟨⟨v_8, (), rfl, ⟨⟨(by rw [hR, ← hE]), trivial⟩, r_v_8.to (by decide)⟩, by rw [ht]; exact hw.2.1, va_K.moved hW.alike hK, hw.2.2.1⟩, hw.2.2.2.1.F ht⟩) hw.2.2.2.1.2.2 dX10_wordOf_234
    · refine lv_tableIn (tgt := 235) (off := 234) hx hb dX10_wordOf_1 (by omega) (by omega) (by rw [h_1]; rfl) (by decide) ?_
      have r_p0 : RI p0 7 7 := ⟨by omega, by omega⟩
      have n_1_0 : ¬ (p0.toInt = 0) := by omega
      have n_1_1 : ¬ (p0.toInt = 1) := by omega
      have n_1_2 : ¬ (p0.toInt = 2) := by omega
      have n_1_3 : ¬ (p0.toInt = 3) := by omega
      have n_1_4 : ¬ (p0.toInt = 4) := by omega
      have n_1_5 : ¬ (p0.toInt = 5) := by omega
      have n_1_6 : ¬ (p0.toInt = 6) := by omega
      refine lv_bipush (v := 108) hx hb dX10_wordOf_235 (by decide) ?_
      refine lv_bipush (v := 101) hx hb dX10_wordOf_237 (by decide) ?_
      refine lv_bipush (v := 97) hx hb dX10_wordOf_239 (by decide) ?_
      refine lv_bipush (v := 107) hx hb dX10_wordOf_241 (by decide) ?_
      refine lv_iconst (v := 0) hx hb dX10_wordOf_243 (by decide) ?_
      refine lv_iconst (v := 0) hx hb dX10_wordOf_244 (by decide) ?_
      refine lv_iconst (v := 0) hx hb dX10_wordOf_245 (by decide) ?_
      refine tk_lr (va_runS (As := [.int 108, .int 101, .int 97, .int 107, .int 0, .int 0, .int 0]) (rest := []) ⟨hx, hb, hml, hown, hts⟩ (c_X10_spelt__66 l D cy z s.heap.size Ps w0 hw.1 108 101 97 107 0 0 0 rl_108 rl_101 rl_97 rl_107 rl_0 rl_0 rl_0) (va_cwS 7 hts (gS tw_1325 tw_1326 tw_15 tw_1327) rfl rfl rfl (by decide +kernel) ⟨Nat.le_of_ble_eq_true rfl, Nat.le_of_ble_eq_true rfl⟩) (tg_preS hw hK hSD hA) rfl rfl hl.1 rfl (lv_room (Nat.le_of_ble_eq_true rfl)) dX10_wordOf_246 ⟨Nat.le_of_ble_eq_true rfl, Nat.le_of_ble_eq_true rfl⟩) hw hA (fun v_9  H locs hp_v_9 hw => ?_)
      obtain ⟨hfn, hp_v_9⟩ := hp_v_9
      have q_v_9 : (f_X10_spelt__31 (108 : Int32) (101 : Int32) (97 : Int32) (107 : Int32) (0 : Int32) (0 : Int32) (0 : Int32)) = v_9 := hfn.1
      have r_v_9 : RJ v_9 239879 239879 := hp_v_9
      simp only [f_X10_wordOf__7, ↓reduceIte, eq_false cl_1, eq_false n_1_0, eq_false n_1_1, eq_false n_1_2, eq_false n_1_3, eq_false n_1_4, eq_false n_1_5, eq_false n_1_6, eq_true h_1, q_v_9] at hE
      subst hQ
      exact W.lret (v := v_9) hx hb hr (fun t ht hW => ⟨⟨v_9, (), rfl, ⟨⟨(by rw [hR, ← hE]), trivial⟩, r_v_9.to (by decide)⟩, by rw [ht]; exact hw.2.1, va_K.moved hW.alike hK, hw.2.2.1⟩, hw.2.2.2.1.F ht⟩) hw.2.2.2.1.2.2 dX10_wordOf_249
    · refine lv_tableIn (tgt := 250) (off := 249) hx hb dX10_wordOf_1 (by omega) (by omega) (by rw [h_1]; rfl) (by decide) ?_
      have r_p0 : RI p0 8 8 := ⟨by omega, by omega⟩
      have n_1_0 : ¬ (p0.toInt = 0) := by omega
      have n_1_1 : ¬ (p0.toInt = 1) := by omega
      have n_1_2 : ¬ (p0.toInt = 2) := by omega
      have n_1_3 : ¬ (p0.toInt = 3) := by omega
      have n_1_4 : ¬ (p0.toInt = 4) := by omega
      have n_1_5 : ¬ (p0.toInt = 5) := by omega
      have n_1_6 : ¬ (p0.toInt = 6) := by omega
      have n_1_7 : ¬ (p0.toInt = 7) := by omega
      refine lv_bipush (v := 103) hx hb dX10_wordOf_250 (by decide) ?_
      refine lv_bipush (v := 117) hx hb dX10_wordOf_252 (by decide) ?_
      refine lv_bipush (v := 101) hx hb dX10_wordOf_254 (by decide) ?_
      refine lv_bipush (v := 115) hx hb dX10_wordOf_256 (by decide) ?_
      refine lv_bipush (v := 115) hx hb dX10_wordOf_258 (by decide) ?_
      refine lv_iconst (v := 0) hx hb dX10_wordOf_260 (by decide) ?_
      refine lv_iconst (v := 0) hx hb dX10_wordOf_261 (by decide) ?_
      refine tk_lr (va_runS (As := [.int 103, .int 117, .int 101, .int 115, .int 115, .int 0, .int 0]) (rest := []) ⟨hx, hb, hml, hown, hts⟩ (c_X10_spelt__67 l D cy z s.heap.size Ps w0 hw.1 103 117 101 115 115 0 0 rl_103 rl_117 rl_101 rl_115 rl_115 rl_0 rl_0) (va_cwS 7 hts (gS tw_1325 tw_1326 tw_15 tw_1327) rfl rfl rfl (by decide +kernel) ⟨Nat.le_of_ble_eq_true rfl, Nat.le_of_ble_eq_true rfl⟩) (tg_preS hw hK hSD hA) rfl rfl hl.1 rfl (lv_room (Nat.le_of_ble_eq_true rfl)) dX10_wordOf_262 ⟨Nat.le_of_ble_eq_true rfl, Nat.le_of_ble_eq_true rfl⟩) hw hA (fun v_10  H locs hp_v_10 hw => ?_)
      obtain ⟨hfn, hp_v_10⟩ := hp_v_10
      have q_v_10 : (f_X10_spelt__39 (103 : Int32) (117 : Int32) (101 : Int32) (115 : Int32) (115 : Int32) (0 : Int32) (0 : Int32)) = v_10 := hfn.1
      have r_v_10 : RJ v_10 4137607 4137607 := hp_v_10
      simp only [f_X10_wordOf__7, ↓reduceIte, eq_false cl_1, eq_false n_1_0, eq_false n_1_1, eq_false n_1_2, eq_false n_1_3, eq_false n_1_4, eq_false n_1_5, eq_false n_1_6, eq_false n_1_7, eq_true h_1, q_v_10] at hE
      subst hQ
      exact W.lret (v := v_10) hx hb hr (fun t ht hW => ⟨⟨v_10, (), rfl, ⟨⟨(by rw [hR, ← hE]), trivial⟩, r_v_10.to (by decide)⟩, by rw [ht]; exact hw.2.1, va_K.moved hW.alike hK, hw.2.2.1⟩, hw.2.2.2.1.F ht⟩) hw.2.2.2.1.2.2 dX10_wordOf_265
    · refine lv_tableIn (tgt := 266) (off := 265) hx hb dX10_wordOf_1 (by omega) (by omega) (by rw [h_1]; rfl) (by decide) ?_
      have r_p0 : RI p0 9 9 := ⟨by omega, by omega⟩
      have n_1_0 : ¬ (p0.toInt = 0) := by omega
      have n_1_1 : ¬ (p0.toInt = 1) := by omega
      have n_1_2 : ¬ (p0.toInt = 2) := by omega
      have n_1_3 : ¬ (p0.toInt = 3) := by omega
      have n_1_4 : ¬ (p0.toInt = 4) := by omega
      have n_1_5 : ¬ (p0.toInt = 5) := by omega
      have n_1_6 : ¬ (p0.toInt = 6) := by omega
      have n_1_7 : ¬ (p0.toInt = 7) := by omega
      have n_1_8 : ¬ (p0.toInt = 8) := by omega
      refine lv_bipush (v := 106) hx hb dX10_wordOf_266 (by decide) ?_
      refine lv_bipush (v := 111) hx hb dX10_wordOf_268 (by decide) ?_
      refine lv_bipush (v := 105) hx hb dX10_wordOf_270 (by decide) ?_
      refine lv_bipush (v := 110) hx hb dX10_wordOf_272 (by decide) ?_
      refine lv_bipush (v := 115) hx hb dX10_wordOf_274 (by decide) ?_
      refine lv_iconst (v := 0) hx hb dX10_wordOf_276 (by decide) ?_
      refine lv_iconst (v := 0) hx hb dX10_wordOf_277 (by decide) ?_
      refine tk_lr (va_runS (As := [.int 106, .int 111, .int 105, .int 110, .int 115, .int 0, .int 0]) (rest := []) ⟨hx, hb, hml, hown, hts⟩ (c_X10_spelt__68 l D cy z s.heap.size Ps w0 hw.1 106 111 105 110 115 0 0 rl_106 rl_111 rl_105 rl_110 rl_115 rl_0 rl_0) (va_cwS 7 hts (gS tw_1325 tw_1326 tw_15 tw_1327) rfl rfl rfl (by decide +kernel) ⟨Nat.le_of_ble_eq_true rfl, Nat.le_of_ble_eq_true rfl⟩) (tg_preS hw hK hSD hA) rfl rfl hl.1 rfl (lv_room (Nat.le_of_ble_eq_true rfl)) dX10_wordOf_278 ⟨Nat.le_of_ble_eq_true rfl, Nat.le_of_ble_eq_true rfl⟩) hw hA (fun v_11  H locs hp_v_11 hw => ?_)
      obtain ⟨hfn, hp_v_11⟩ := hp_v_11
      have q_v_11 : (f_X10_spelt__39 (106 : Int32) (111 : Int32) (105 : Int32) (110 : Int32) (115 : Int32) (0 : Int32) (0 : Int32)) = v_11 := hfn.1
      have r_v_11 : RJ v_11 5616613 5616613 := hp_v_11
      simp only [f_X10_wordOf__7, ↓reduceIte, eq_false cl_1, eq_false n_1_0, eq_false n_1_1, eq_false n_1_2, eq_false n_1_3, eq_false n_1_4, eq_false n_1_5, eq_false n_1_6, eq_false n_1_7, eq_false n_1_8, eq_true h_1, q_v_11] at hE
      subst hQ
      exact W.lret (v := v_11) hx hb hr (fun t ht hW => ⟨⟨v_11, (), rfl, ⟨⟨(by rw [hR, ← hE]), trivial⟩, r_v_11.to (by decide)⟩, by rw [ht]; exact hw.2.1, va_K.moved hW.alike hK, hw.2.2.1⟩, hw.2.2.2.1.F ht⟩) hw.2.2.2.1.2.2 dX10_wordOf_281
    · refine lv_tableIn (tgt := 282) (off := 281) hx hb dX10_wordOf_1 (by omega) (by omega) (by rw [h_1]; rfl) (by decide) ?_
      have r_p0 : RI p0 10 10 := ⟨by omega, by omega⟩
      have n_1_0 : ¬ (p0.toInt = 0) := by omega
      have n_1_1 : ¬ (p0.toInt = 1) := by omega
      have n_1_2 : ¬ (p0.toInt = 2) := by omega
      have n_1_3 : ¬ (p0.toInt = 3) := by omega
      have n_1_4 : ¬ (p0.toInt = 4) := by omega
      have n_1_5 : ¬ (p0.toInt = 5) := by omega
      have n_1_6 : ¬ (p0.toInt = 6) := by omega
      have n_1_7 : ¬ (p0.toInt = 7) := by omega
      have n_1_8 : ¬ (p0.toInt = 8) := by omega
      have n_1_9 : ¬ (p0.toInt = 9) := by omega
      refine lv_bipush (v := 115) hx hb dX10_wordOf_282 (by decide) ?_
      refine lv_bipush (v := 116) hx hb dX10_wordOf_284 (by decide) ?_
      refine lv_bipush (v := 97) hx hb dX10_wordOf_286 (by decide) ?_
      refine lv_bipush (v := 110) hx hb dX10_wordOf_288 (by decide) ?_
      refine lv_bipush (v := 100) hx hb dX10_wordOf_290 (by decide) ?_
      refine lv_bipush (v := 115) hx hb dX10_wordOf_292 (by decide) ?_
      refine lv_iconst (v := 0) hx hb dX10_wordOf_294 (by decide) ?_
      refine tk_lr (va_runS (As := [.int 115, .int 116, .int 97, .int 110, .int 100, .int 115, .int 0]) (rest := []) ⟨hx, hb, hml, hown, hts⟩ (c_X10_spelt__69 l D cy z s.heap.size Ps w0 hw.1 115 116 97 110 100 115 0 rl_115 rl_116 rl_97 rl_110 rl_100 rl_115 rl_0) (va_cwS 7 hts (gS tw_1325 tw_1326 tw_15 tw_1327) rfl rfl rfl (by decide +kernel) ⟨Nat.le_of_ble_eq_true rfl, Nat.le_of_ble_eq_true rfl⟩) (tg_preS hw hK hSD hA) rfl rfl hl.1 rfl (lv_room (Nat.le_of_ble_eq_true rfl)) dX10_wordOf_295 ⟨Nat.le_of_ble_eq_true rfl, Nat.le_of_ble_eq_true rfl⟩) hw hA (fun v_12  H locs hp_v_12 hw => ?_)
      obtain ⟨hfn, hp_v_12⟩ := hp_v_12
      have q_v_12 : (f_X10_spelt__30 (115 : Int32) (116 : Int32) (97 : Int32) (110 : Int32) (100 : Int32) (115 : Int32) (0 : Int32)) = v_12 := hfn.1
      have r_v_12 : RJ v_12 283288069 283288069 := hp_v_12
      simp only [f_X10_wordOf__7, ↓reduceIte, eq_false cl_1, eq_false n_1_0, eq_false n_1_1, eq_false n_1_2, eq_false n_1_3, eq_false n_1_4, eq_false n_1_5, eq_false n_1_6, eq_false n_1_7, eq_false n_1_8, eq_false n_1_9, eq_true h_1, q_v_12] at hE
      subst hQ
      exact W.lret (v := v_12) hx hb hr (fun t ht hW => ⟨⟨v_12, (), rfl, ⟨⟨(by rw [hR, ← hE]), trivial⟩, r_v_12.to (by decide)⟩, by rw [ht]; exact hw.2.1, va_K.moved hW.alike hK, hw.2.2.1⟩, hw.2.2.2.1.F ht⟩) hw.2.2.2.1.2.2 dX10_wordOf_298
    · refine lv_tableIn (tgt := 299) (off := 298) hx hb dX10_wordOf_1 (by omega) (by omega) (by rw [h_1]; rfl) (by decide) ?_
      have r_p0 : RI p0 11 11 := ⟨by omega, by omega⟩
      have n_1_0 : ¬ (p0.toInt = 0) := by omega
      have n_1_1 : ¬ (p0.toInt = 1) := by omega
      have n_1_2 : ¬ (p0.toInt = 2) := by omega
      have n_1_3 : ¬ (p0.toInt = 3) := by omega
      have n_1_4 : ¬ (p0.toInt = 4) := by omega
      have n_1_5 : ¬ (p0.toInt = 5) := by omega
      have n_1_6 : ¬ (p0.toInt = 6) := by omega
      have n_1_7 : ¬ (p0.toInt = 7) := by omega
      have n_1_8 : ¬ (p0.toInt = 8) := by omega
      have n_1_9 : ¬ (p0.toInt = 9) := by omega
      have n_1_10 : ¬ (p0.toInt = 10) := by omega
      refine lv_bipush (v := 119) hx hb dX10_wordOf_299 (by decide) ?_
      refine lv_bipush (v := 105) hx hb dX10_wordOf_301 (by decide) ?_
      refine lv_bipush (v := 115) hx hb dX10_wordOf_303 (by decide) ?_
      refine lv_bipush (v := 104) hx hb dX10_wordOf_305 (by decide) ?_
      refine lv_bipush (v := 101) hx hb dX10_wordOf_307 (by decide) ?_
      refine lv_bipush (v := 115) hx hb dX10_wordOf_309 (by decide) ?_
      refine lv_iconst (v := 0) hx hb dX10_wordOf_311 (by decide) ?_
      refine tk_lr (va_runS (As := [.int 119, .int 105, .int 115, .int 104, .int 101, .int 115, .int 0]) (rest := []) ⟨hx, hb, hml, hown, hts⟩ (c_X10_spelt__70 l D cy z s.heap.size Ps w0 hw.1 119 105 115 104 101 115 0 rl_119 rl_105 rl_115 rl_104 rl_101 rl_115 rl_0) (va_cwS 7 hts (gS tw_1325 tw_1326 tw_15 tw_1327) rfl rfl rfl (by decide +kernel) ⟨Nat.le_of_ble_eq_true rfl, Nat.le_of_ble_eq_true rfl⟩) (tg_preS hw hK hSD hA) rfl rfl hl.1 rfl (lv_room (Nat.le_of_ble_eq_true rfl)) dX10_wordOf_312 ⟨Nat.le_of_ble_eq_true rfl, Nat.le_of_ble_eq_true rfl⟩) hw hA (fun v_13  H locs hp_v_13 hw => ?_)
      obtain ⟨hfn, hp_v_13⟩ := hp_v_13
      have q_v_13 : (f_X10_spelt__30 (119 : Int32) (105 : Int32) (115 : Int32) (104 : Int32) (101 : Int32) (115 : Int32) (0 : Int32)) = v_13 := hfn.1
      have r_v_13 : RJ v_13 335187793 335187793 := hp_v_13
      simp only [f_X10_wordOf__7, ↓reduceIte, eq_false cl_1, eq_false n_1_0, eq_false n_1_1, eq_false n_1_2, eq_false n_1_3, eq_false n_1_4, eq_false n_1_5, eq_false n_1_6, eq_false n_1_7, eq_false n_1_8, eq_false n_1_9, eq_false n_1_10, eq_true h_1, q_v_13] at hE
      subst hQ
      exact W.lret (v := v_13) hx hb hr (fun t ht hW => ⟨⟨v_13, (), rfl, ⟨⟨(by rw [hR, ← hE]), trivial⟩, r_v_13.to (by decide)⟩, by rw [ht]; exact hw.2.1, va_K.moved hW.alike hK, hw.2.2.1⟩, hw.2.2.2.1.F ht⟩) hw.2.2.2.1.2.2 dX10_wordOf_315
    · refine lv_tableIn (tgt := 316) (off := 315) hx hb dX10_wordOf_1 (by omega) (by omega) (by rw [h_1]; rfl) (by decide) ?_
      have r_p0 : RI p0 12 12 := ⟨by omega, by omega⟩
      have n_1_0 : ¬ (p0.toInt = 0) := by omega
      have n_1_1 : ¬ (p0.toInt = 1) := by omega
      have n_1_2 : ¬ (p0.toInt = 2) := by omega
      have n_1_3 : ¬ (p0.toInt = 3) := by omega
      have n_1_4 : ¬ (p0.toInt = 4) := by omega
      have n_1_5 : ¬ (p0.toInt = 5) := by omega
      have n_1_6 : ¬ (p0.toInt = 6) := by omega
      have n_1_7 : ¬ (p0.toInt = 7) := by omega
      have n_1_8 : ¬ (p0.toInt = 8) := by omega
      have n_1_9 : ¬ (p0.toInt = 9) := by omega
      have n_1_10 : ¬ (p0.toInt = 10) := by omega
      have n_1_11 : ¬ (p0.toInt = 11) := by omega
      refine lv_bipush (v := 103) hx hb dX10_wordOf_316 (by decide) ?_
      refine lv_bipush (v := 117) hx hb dX10_wordOf_318 (by decide) ?_
      refine lv_bipush (v := 101) hx hb dX10_wordOf_320 (by decide) ?_
      refine lv_bipush (v := 115) hx hb dX10_wordOf_322 (by decide) ?_
      refine lv_bipush (v := 115) hx hb dX10_wordOf_324 (by decide) ?_
      refine lv_bipush (v := 101) hx hb dX10_wordOf_326 (by decide) ?_
      refine lv_bipush (v := 115) hx hb dX10_wordOf_328 (by decide) ?_
      refine tk_lr (va_runS (As := [.int 103, .int 117, .int 101, .int 115, .int 115, .int 101, .int 115]) (rest := []) ⟨hx, hb, hml, hown, hts⟩ (c_X10_spelt__71 l D cy z s.heap.size Ps w0 hw.1 103 117 101 115 115 101 115 rl_103 rl_117 rl_101 rl_115 rl_115 rl_101 rl_115) (va_cwS 7 hts (gS tw_1325 tw_1326 tw_15 tw_1327) rfl rfl rfl (by decide +kernel) ⟨Nat.le_of_ble_eq_true rfl, Nat.le_of_ble_eq_true rfl⟩) (tg_preS hw hK hSD hA) rfl rfl hl.1 rfl (lv_room (Nat.le_of_ble_eq_true rfl)) dX10_wordOf_330 ⟨Nat.le_of_ble_eq_true rfl, Nat.le_of_ble_eq_true rfl⟩) hw hA (fun v_14  H locs hp_v_14 hw => ?_)
      obtain ⟨hfn, hp_v_14⟩ := hp_v_14
      have q_v_14 : (f_X10_spelt__37 (103 : Int32) (117 : Int32) (101 : Int32) (115 : Int32) (115 : Int32) (101 : Int32) (115 : Int32)) = v_14 := hfn.1
      have r_v_14 : RJ v_14 3016315657 3016315657 := hp_v_14
      simp only [f_X10_wordOf__7, ↓reduceIte, eq_false cl_1, eq_false n_1_0, eq_false n_1_1, eq_false n_1_2, eq_false n_1_3, eq_false n_1_4, eq_false n_1_5, eq_false n_1_6, eq_false n_1_7, eq_false n_1_8, eq_false n_1_9, eq_false n_1_10, eq_false n_1_11, eq_true h_1, q_v_14] at hE
      subst hQ
      exact W.lret (v := v_14) hx hb hr (fun t ht hW => ⟨⟨v_14, (), rfl, ⟨⟨(by rw [hR, ← hE]), trivial⟩, r_v_14.to (by decide)⟩, by rw [ht]; exact hw.2.1, va_K.moved hW.alike hK, hw.2.2.1⟩, hw.2.2.2.1.F ht⟩) hw.2.2.2.1.2.2 dX10_wordOf_333
    · refine lv_tableIn (tgt := 334) (off := 333) hx hb dX10_wordOf_1 (by omega) (by omega) (by rw [h_1]; rfl) (by decide) ?_
      have r_p0 : RI p0 13 13 := ⟨by omega, by omega⟩
      have n_1_0 : ¬ (p0.toInt = 0) := by omega
      have n_1_1 : ¬ (p0.toInt = 1) := by omega
      have n_1_2 : ¬ (p0.toInt = 2) := by omega
      have n_1_3 : ¬ (p0.toInt = 3) := by omega
      have n_1_4 : ¬ (p0.toInt = 4) := by omega
      have n_1_5 : ¬ (p0.toInt = 5) := by omega
      have n_1_6 : ¬ (p0.toInt = 6) := by omega
      have n_1_7 : ¬ (p0.toInt = 7) := by omega
      have n_1_8 : ¬ (p0.toInt = 8) := by omega
      have n_1_9 : ¬ (p0.toInt = 9) := by omega
      have n_1_10 : ¬ (p0.toInt = 10) := by omega
      have n_1_11 : ¬ (p0.toInt = 11) := by omega
      have n_1_12 : ¬ (p0.toInt = 12) := by omega
      refine lv_bipush (v := 111) hx hb dX10_wordOf_334 (by decide) ?_
      refine lv_bipush (v := 112) hx hb dX10_wordOf_336 (by decide) ?_
      refine lv_bipush (v := 101) hx hb dX10_wordOf_338 (by decide) ?_
      refine lv_bipush (v := 110) hx hb dX10_wordOf_340 (by decide) ?_
      refine lv_iconst (v := 0) hx hb dX10_wordOf_342 (by decide) ?_
      refine lv_iconst (v := 0) hx hb dX10_wordOf_343 (by decide) ?_
      refine lv_iconst (v := 0) hx hb dX10_wordOf_344 (by decide) ?_
      refine tk_lr (va_runS (As := [.int 111, .int 112, .int 101, .int 110, .int 0, .int 0, .int 0]) (rest := []) ⟨hx, hb, hml, hown, hts⟩ (c_X10_spelt__72 l D cy z s.heap.size Ps w0 hw.1 111 112 101 110 0 0 0 rl_111 rl_112 rl_101 rl_110 rl_0 rl_0 rl_0) (va_cwS 7 hts (gS tw_1325 tw_1326 tw_15 tw_1327) rfl rfl rfl (by decide +kernel) ⟨Nat.le_of_ble_eq_true rfl, Nat.le_of_ble_eq_true rfl⟩) (tg_preS hw hK hSD hA) rfl rfl hl.1 rfl (lv_room (Nat.le_of_ble_eq_true rfl)) dX10_wordOf_345 ⟨Nat.le_of_ble_eq_true rfl, Nat.le_of_ble_eq_true rfl⟩) hw hA (fun v_15  H locs hp_v_15 hw => ?_)
      obtain ⟨hfn, hp_v_15⟩ := hp_v_15
      have q_v_15 : (f_X10_spelt__31 (111 : Int32) (112 : Int32) (101 : Int32) (110 : Int32) (0 : Int32) (0 : Int32) (0 : Int32)) = v_15 := hfn.1
      have r_v_15 : RJ v_15 307058 307058 := hp_v_15
      simp only [f_X10_wordOf__7, ↓reduceIte, eq_false cl_1, eq_false n_1_0, eq_false n_1_1, eq_false n_1_2, eq_false n_1_3, eq_false n_1_4, eq_false n_1_5, eq_false n_1_6, eq_false n_1_7, eq_false n_1_8, eq_false n_1_9, eq_false n_1_10, eq_false n_1_11, eq_false n_1_12, eq_true h_1, q_v_15] at hE
      subst hQ
      exact W.lret (v := v_15) hx hb hr (fun t ht hW => ⟨⟨v_15, (), rfl, ⟨⟨(by rw [hR, ← hE]), trivial⟩, r_v_15.to (by decide)⟩, by rw [ht]; exact hw.2.1, va_K.moved hW.alike hK, hw.2.2.1⟩, hw.2.2.2.1.F ht⟩) hw.2.2.2.1.2.2 dX10_wordOf_348
    · refine lv_tableIn (tgt := 349) (off := 348) hx hb dX10_wordOf_1 (by omega) (by omega) (by rw [h_1]; rfl) (by decide) ?_
      have r_p0 : RI p0 14 14 := ⟨by omega, by omega⟩
      have n_1_0 : ¬ (p0.toInt = 0) := by omega
      have n_1_1 : ¬ (p0.toInt = 1) := by omega
      have n_1_2 : ¬ (p0.toInt = 2) := by omega
      have n_1_3 : ¬ (p0.toInt = 3) := by omega
      have n_1_4 : ¬ (p0.toInt = 4) := by omega
      have n_1_5 : ¬ (p0.toInt = 5) := by omega
      have n_1_6 : ¬ (p0.toInt = 6) := by omega
      have n_1_7 : ¬ (p0.toInt = 7) := by omega
      have n_1_8 : ¬ (p0.toInt = 8) := by omega
      have n_1_9 : ¬ (p0.toInt = 9) := by omega
      have n_1_10 : ¬ (p0.toInt = 10) := by omega
      have n_1_11 : ¬ (p0.toInt = 11) := by omega
      have n_1_12 : ¬ (p0.toInt = 12) := by omega
      have n_1_13 : ¬ (p0.toInt = 13) := by omega
      refine lv_bipush (v := 99) hx hb dX10_wordOf_349 (by decide) ?_
      refine lv_bipush (v := 97) hx hb dX10_wordOf_351 (by decide) ?_
      refine lv_bipush (v := 114) hx hb dX10_wordOf_353 (by decide) ?_
      refine lv_bipush (v := 114) hx hb dX10_wordOf_355 (by decide) ?_
      refine lv_bipush (v := 121) hx hb dX10_wordOf_357 (by decide) ?_
      refine lv_iconst (v := 0) hx hb dX10_wordOf_359 (by decide) ?_
      refine lv_iconst (v := 0) hx hb dX10_wordOf_360 (by decide) ?_
      refine tk_lr (va_runS (As := [.int 99, .int 97, .int 114, .int 114, .int 121, .int 0, .int 0]) (rest := []) ⟨hx, hb, hml, hown, hts⟩ (c_X10_spelt__73 l D cy z s.heap.size Ps w0 hw.1 99 97 114 114 121 0 0 rl_99 rl_97 rl_114 rl_114 rl_121 rl_0 rl_0) (va_cwS 7 hts (gS tw_1325 tw_1326 tw_15 tw_1327) rfl rfl rfl (by decide +kernel) ⟨Nat.le_of_ble_eq_true rfl, Nat.le_of_ble_eq_true rfl⟩) (tg_preS hw hK hSD hA) rfl rfl hl.1 rfl (lv_room (Nat.le_of_ble_eq_true rfl)) dX10_wordOf_361 ⟨Nat.le_of_ble_eq_true rfl, Nat.le_of_ble_eq_true rfl⟩) hw hA (fun v_16  H locs hp_v_16 hw => ?_)
      obtain ⟨hfn, hp_v_16⟩ := hp_v_16
      have q_v_16 : (f_X10_spelt__39 (99 : Int32) (97 : Int32) (114 : Int32) (114 : Int32) (121 : Int32) (0 : Int32) (0 : Int32)) = v_16 := hfn.1
      have r_v_16 : RJ v_16 1627639 1627639 := hp_v_16
      simp only [f_X10_wordOf__7, ↓reduceIte, eq_false cl_1, eq_false n_1_0, eq_false n_1_1, eq_false n_1_2, eq_false n_1_3, eq_false n_1_4, eq_false n_1_5, eq_false n_1_6, eq_false n_1_7, eq_false n_1_8, eq_false n_1_9, eq_false n_1_10, eq_false n_1_11, eq_false n_1_12, eq_false n_1_13, eq_true h_1, q_v_16] at hE
      subst hQ
      exact W.lret (v := v_16) hx hb hr (fun t ht hW => ⟨⟨v_16, (), rfl, ⟨⟨(by rw [hR, ← hE]), trivial⟩, r_v_16.to (by decide)⟩, by rw [ht]; exact hw.2.1, va_K.moved hW.alike hK, hw.2.2.1⟩, hw.2.2.2.1.F ht⟩) hw.2.2.2.1.2.2 dX10_wordOf_364
    · refine lv_tableIn (tgt := 365) (off := 364) hx hb dX10_wordOf_1 (by omega) (by omega) (by rw [h_1]; rfl) (by decide) ?_
      have r_p0 : RI p0 15 15 := ⟨by omega, by omega⟩
      have n_1_0 : ¬ (p0.toInt = 0) := by omega
      have n_1_1 : ¬ (p0.toInt = 1) := by omega
      have n_1_2 : ¬ (p0.toInt = 2) := by omega
      have n_1_3 : ¬ (p0.toInt = 3) := by omega
      have n_1_4 : ¬ (p0.toInt = 4) := by omega
      have n_1_5 : ¬ (p0.toInt = 5) := by omega
      have n_1_6 : ¬ (p0.toInt = 6) := by omega
      have n_1_7 : ¬ (p0.toInt = 7) := by omega
      have n_1_8 : ¬ (p0.toInt = 8) := by omega
      have n_1_9 : ¬ (p0.toInt = 9) := by omega
      have n_1_10 : ¬ (p0.toInt = 10) := by omega
      have n_1_11 : ¬ (p0.toInt = 11) := by omega
      have n_1_12 : ¬ (p0.toInt = 12) := by omega
      have n_1_13 : ¬ (p0.toInt = 13) := by omega
      have n_1_14 : ¬ (p0.toInt = 14) := by omega
      refine lv_bipush (v := 100) hx hb dX10_wordOf_365 (by decide) ?_
      refine lv_bipush (v := 97) hx hb dX10_wordOf_367 (by decide) ?_
      refine lv_bipush (v := 121) hx hb dX10_wordOf_369 (by decide) ?_
      refine lv_iconst (v := 0) hx hb dX10_wordOf_371 (by decide) ?_
      refine lv_iconst (v := 0) hx hb dX10_wordOf_372 (by decide) ?_
      refine lv_iconst (v := 0) hx hb dX10_wordOf_373 (by decide) ?_
      refine lv_iconst (v := 0) hx hb dX10_wordOf_374 (by decide) ?_
      refine tk_lr (va_runS (As := [.int 100, .int 97, .int 121, .int 0, .int 0, .int 0, .int 0]) (rest := []) ⟨hx, hb, hml, hown, hts⟩ (c_X10_spelt__74 l D cy z s.heap.size Ps w0 hw.1 100 97 121 0 0 0 0 rl_100 rl_97 rl_121 rl_0 rl_0 rl_0 rl_0) (va_cwS 7 hts (gS tw_1325 tw_1326 tw_15 tw_1327) rfl rfl rfl (by decide +kernel) ⟨Nat.le_of_ble_eq_true rfl, Nat.le_of_ble_eq_true rfl⟩) (tg_preS hw hK hSD hA) rfl rfl hl.1 rfl (lv_room (Nat.le_of_ble_eq_true rfl)) dX10_wordOf_375 ⟨Nat.le_of_ble_eq_true rfl, Nat.le_of_ble_eq_true rfl⟩) hw hA (fun v_17  H locs hp_v_17 hw => ?_)
      obtain ⟨hfn, hp_v_17⟩ := hp_v_17
      have q_v_17 : (f_X10_spelt__36 (100 : Int32) (97 : Int32) (121 : Int32) (0 : Int32) (0 : Int32) (0 : Int32) (0 : Int32)) = v_17 := hfn.1
      have r_v_17 : RJ v_17 2968 2968 := hp_v_17
      simp only [f_X10_wordOf__7, ↓reduceIte, eq_false cl_1, eq_false n_1_0, eq_false n_1_1, eq_false n_1_2, eq_false n_1_3, eq_false n_1_4, eq_false n_1_5, eq_false n_1_6, eq_false n_1_7, eq_false n_1_8, eq_false n_1_9, eq_false n_1_10, eq_false n_1_11, eq_false n_1_12, eq_false n_1_13, eq_false n_1_14, eq_true h_1, q_v_17] at hE
      subst hQ
      exact W.lret (v := v_17) hx hb hr (fun t ht hW => ⟨⟨v_17, (), rfl, ⟨⟨(by rw [hR, ← hE]), trivial⟩, r_v_17.to (by decide)⟩, by rw [ht]; exact hw.2.1, va_K.moved hW.alike hK, hw.2.2.1⟩, hw.2.2.2.1.F ht⟩) hw.2.2.2.1.2.2 dX10_wordOf_378
    · refine lv_tableIn (tgt := 379) (off := 378) hx hb dX10_wordOf_1 (by omega) (by omega) (by rw [h_1]; rfl) (by decide) ?_
      have r_p0 : RI p0 16 16 := ⟨by omega, by omega⟩
      have n_1_0 : ¬ (p0.toInt = 0) := by omega
      have n_1_1 : ¬ (p0.toInt = 1) := by omega
      have n_1_2 : ¬ (p0.toInt = 2) := by omega
      have n_1_3 : ¬ (p0.toInt = 3) := by omega
      have n_1_4 : ¬ (p0.toInt = 4) := by omega
      have n_1_5 : ¬ (p0.toInt = 5) := by omega
      have n_1_6 : ¬ (p0.toInt = 6) := by omega
      have n_1_7 : ¬ (p0.toInt = 7) := by omega
      have n_1_8 : ¬ (p0.toInt = 8) := by omega
      have n_1_9 : ¬ (p0.toInt = 9) := by omega
      have n_1_10 : ¬ (p0.toInt = 10) := by omega
      have n_1_11 : ¬ (p0.toInt = 11) := by omega
      have n_1_12 : ¬ (p0.toInt = 12) := by omega
      have n_1_13 : ¬ (p0.toInt = 13) := by omega
      have n_1_14 : ¬ (p0.toInt = 14) := by omega
      have n_1_15 : ¬ (p0.toInt = 15) := by omega
      refine lv_bipush (v := 111) hx hb dX10_wordOf_379 (by decide) ?_
      refine lv_bipush (v := 114) hx hb dX10_wordOf_381 (by decide) ?_
      refine lv_iconst (v := 0) hx hb dX10_wordOf_383 (by decide) ?_
      refine lv_iconst (v := 0) hx hb dX10_wordOf_384 (by decide) ?_
      refine lv_iconst (v := 0) hx hb dX10_wordOf_385 (by decide) ?_
      refine lv_iconst (v := 0) hx hb dX10_wordOf_386 (by decide) ?_
      refine lv_iconst (v := 0) hx hb dX10_wordOf_387 (by decide) ?_
      refine tk_lr (va_runS (As := [.int 111, .int 114, .int 0, .int 0, .int 0, .int 0, .int 0]) (rest := []) ⟨hx, hb, hml, hown, hts⟩ (c_X10_spelt__75 l D cy z s.heap.size Ps w0 hw.1 111 114 0 0 0 0 0 rl_111 rl_114 rl_0 rl_0 rl_0 rl_0 rl_0) (va_cwS 7 hts (gS tw_1325 tw_1326 tw_15 tw_1327) rfl rfl rfl (by decide +kernel) ⟨Nat.le_of_ble_eq_true rfl, Nat.le_of_ble_eq_true rfl⟩) (tg_preS hw hK hSD hA) rfl rfl hl.1 rfl (lv_room (Nat.le_of_ble_eq_true rfl)) dX10_wordOf_388 ⟨Nat.le_of_ble_eq_true rfl, Nat.le_of_ble_eq_true rfl⟩) hw hA (fun v_18  H locs hp_v_18 hw => ?_)
      obtain ⟨hfn, hp_v_18⟩ := hp_v_18
      have q_v_18 : (f_X10_spelt__47 (111 : Int32) (114 : Int32) (0 : Int32) (0 : Int32) (0 : Int32) (0 : Int32) (0 : Int32)) = v_18 := hfn.1
      have r_v_18 : RJ v_18 423 423 := hp_v_18
      simp only [f_X10_wordOf__7, ↓reduceIte, eq_false cl_1, eq_false n_1_0, eq_false n_1_1, eq_false n_1_2, eq_false n_1_3, eq_false n_1_4, eq_false n_1_5, eq_false n_1_6, eq_false n_1_7, eq_false n_1_8, eq_false n_1_9, eq_false n_1_10, eq_false n_1_11, eq_false n_1_12, eq_false n_1_13, eq_false n_1_14, eq_false n_1_15, eq_true h_1, q_v_18] at hE
      subst hQ
      exact W.lret (v := v_18) hx hb hr (fun t ht hW => ⟨⟨v_18, (), rfl, ⟨⟨(by rw [hR, ← hE]), trivial⟩, r_v_18.to (by decide)⟩, by rw [ht]; exact hw.2.1, va_K.moved hW.alike hK, hw.2.2.1⟩, hw.2.2.2.1.F ht⟩) hw.2.2.2.1.2.2 dX10_wordOf_391
    · refine lv_tableIn (tgt := 392) (off := 391) hx hb dX10_wordOf_1 (by omega) (by omega) (by rw [h_1]; rfl) (by decide) ?_
      have r_p0 : RI p0 17 17 := ⟨by omega, by omega⟩
      have n_1_0 : ¬ (p0.toInt = 0) := by omega
      have n_1_1 : ¬ (p0.toInt = 1) := by omega
      have n_1_2 : ¬ (p0.toInt = 2) := by omega
      have n_1_3 : ¬ (p0.toInt = 3) := by omega
      have n_1_4 : ¬ (p0.toInt = 4) := by omega
      have n_1_5 : ¬ (p0.toInt = 5) := by omega
      have n_1_6 : ¬ (p0.toInt = 6) := by omega
      have n_1_7 : ¬ (p0.toInt = 7) := by omega
      have n_1_8 : ¬ (p0.toInt = 8) := by omega
      have n_1_9 : ¬ (p0.toInt = 9) := by omega
      have n_1_10 : ¬ (p0.toInt = 10) := by omega
      have n_1_11 : ¬ (p0.toInt = 11) := by omega
      have n_1_12 : ¬ (p0.toInt = 12) := by omega
      have n_1_13 : ¬ (p0.toInt = 13) := by omega
      have n_1_14 : ¬ (p0.toInt = 14) := by omega
      have n_1_15 : ¬ (p0.toInt = 15) := by omega
      have n_1_16 : ¬ (p0.toInt = 16) := by omega
      refine lv_bipush (v := 97) hx hb dX10_wordOf_392 (by decide) ?_
      refine lv_bipush (v := 110) hx hb dX10_wordOf_394 (by decide) ?_
      refine lv_bipush (v := 100) hx hb dX10_wordOf_396 (by decide) ?_
      refine lv_iconst (v := 0) hx hb dX10_wordOf_398 (by decide) ?_
      refine lv_iconst (v := 0) hx hb dX10_wordOf_399 (by decide) ?_
      refine lv_iconst (v := 0) hx hb dX10_wordOf_400 (by decide) ?_
      refine lv_iconst (v := 0) hx hb dX10_wordOf_401 (by decide) ?_
      refine tk_lr (va_runS (As := [.int 97, .int 110, .int 100, .int 0, .int 0, .int 0, .int 0]) (rest := []) ⟨hx, hb, hml, hown, hts⟩ (c_X10_spelt__76 l D cy z s.heap.size Ps w0 hw.1 97 110 100 0 0 0 0 rl_97 rl_110 rl_100 rl_0 rl_0 rl_0 rl_0) (va_cwS 7 hts (gS tw_1325 tw_1326 tw_15 tw_1327) rfl rfl rfl (by decide +kernel) ⟨Nat.le_of_ble_eq_true rfl, Nat.le_of_ble_eq_true rfl⟩) (tg_preS hw hK hSD hA) rfl rfl hl.1 rfl (lv_room (Nat.le_of_ble_eq_true rfl)) dX10_wordOf_402 ⟨Nat.le_of_ble_eq_true rfl, Nat.le_of_ble_eq_true rfl⟩) hw hA (fun v_19  H locs hp_v_19 hw => ?_)
      obtain ⟨hfn, hp_v_19⟩ := hp_v_19
      have q_v_19 : (f_X10_spelt__36 (97 : Int32) (110 : Int32) (100 : Int32) (0 : Int32) (0 : Int32) (0 : Int32) (0 : Int32)) = v_19 := hfn.1
      have r_v_19 : RJ v_19 1111 1111 := hp_v_19
      simp only [f_X10_wordOf__7, ↓reduceIte, eq_false cl_1, eq_false n_1_0, eq_false n_1_1, eq_false n_1_2, eq_false n_1_3, eq_false n_1_4, eq_false n_1_5, eq_false n_1_6, eq_false n_1_7, eq_false n_1_8, eq_false n_1_9, eq_false n_1_10, eq_false n_1_11, eq_false n_1_12, eq_false n_1_13, eq_false n_1_14, eq_false n_1_15, eq_false n_1_16, eq_true h_1, q_v_19] at hE
      subst hQ
      exact W.lret (v := v_19) hx hb hr (fun t ht hW => ⟨⟨v_19, (), rfl, ⟨⟨(by rw [hR, ← hE]), trivial⟩, r_v_19.to (by decide)⟩, by rw [ht]; exact hw.2.1, va_K.moved hW.alike hK, hw.2.2.1⟩, hw.2.2.2.1.F ht⟩) hw.2.2.2.1.2.2 dX10_wordOf_405
    · refine lv_tableIn (tgt := 406) (off := 405) hx hb dX10_wordOf_1 (by omega) (by omega) (by rw [h_1]; rfl) (by decide) ?_
      have r_p0 : RI p0 18 18 := ⟨by omega, by omega⟩
      have n_1_0 : ¬ (p0.toInt = 0) := by omega
      have n_1_1 : ¬ (p0.toInt = 1) := by omega
      have n_1_2 : ¬ (p0.toInt = 2) := by omega
      have n_1_3 : ¬ (p0.toInt = 3) := by omega
      have n_1_4 : ¬ (p0.toInt = 4) := by omega
      have n_1_5 : ¬ (p0.toInt = 5) := by omega
      have n_1_6 : ¬ (p0.toInt = 6) := by omega
      have n_1_7 : ¬ (p0.toInt = 7) := by omega
      have n_1_8 : ¬ (p0.toInt = 8) := by omega
      have n_1_9 : ¬ (p0.toInt = 9) := by omega
      have n_1_10 : ¬ (p0.toInt = 10) := by omega
      have n_1_11 : ¬ (p0.toInt = 11) := by omega
      have n_1_12 : ¬ (p0.toInt = 12) := by omega
      have n_1_13 : ¬ (p0.toInt = 13) := by omega
      have n_1_14 : ¬ (p0.toInt = 14) := by omega
      have n_1_15 : ¬ (p0.toInt = 15) := by omega
      have n_1_16 : ¬ (p0.toInt = 16) := by omega
      have n_1_17 : ¬ (p0.toInt = 17) := by omega
      refine lv_bipush (v := 110) hx hb dX10_wordOf_406 (by decide) ?_
      refine lv_bipush (v := 111) hx hb dX10_wordOf_408 (by decide) ?_
      refine lv_bipush (v := 116) hx hb dX10_wordOf_410 (by decide) ?_
      refine lv_iconst (v := 0) hx hb dX10_wordOf_412 (by decide) ?_
      refine lv_iconst (v := 0) hx hb dX10_wordOf_413 (by decide) ?_
      refine lv_iconst (v := 0) hx hb dX10_wordOf_414 (by decide) ?_
      refine lv_iconst (v := 0) hx hb dX10_wordOf_415 (by decide) ?_
      refine tk_lr (va_runS (As := [.int 110, .int 111, .int 116, .int 0, .int 0, .int 0, .int 0]) (rest := []) ⟨hx, hb, hml, hown, hts⟩ (c_X10_spelt__77 l D cy z s.heap.size Ps w0 hw.1 110 111 116 0 0 0 0 rl_110 rl_111 rl_116 rl_0 rl_0 rl_0 rl_0) (va_cwS 7 hts (gS tw_1325 tw_1326 tw_15 tw_1327) rfl rfl rfl (by decide +kernel) ⟨Nat.le_of_ble_eq_true rfl, Nat.le_of_ble_eq_true rfl⟩) (tg_preS hw hK hSD hA) rfl rfl hl.1 rfl (lv_room (Nat.le_of_ble_eq_true rfl)) dX10_wordOf_416 ⟨Nat.le_of_ble_eq_true rfl, Nat.le_of_ble_eq_true rfl⟩) hw hA (fun v_20  H locs hp_v_20 hw => ?_)
      obtain ⟨hfn, hp_v_20⟩ := hp_v_20
      have q_v_20 : (f_X10_spelt__36 (110 : Int32) (111 : Int32) (116 : Int32) (0 : Int32) (0 : Int32) (0 : Int32) (0 : Int32)) = v_20 := hfn.1
      have r_v_20 : RJ v_20 10631 10631 := hp_v_20
      simp only [f_X10_wordOf__7, ↓reduceIte, eq_false cl_1, eq_false n_1_0, eq_false n_1_1, eq_false n_1_2, eq_false n_1_3, eq_false n_1_4, eq_false n_1_5, eq_false n_1_6, eq_false n_1_7, eq_false n_1_8, eq_false n_1_9, eq_false n_1_10, eq_false n_1_11, eq_false n_1_12, eq_false n_1_13, eq_false n_1_14, eq_false n_1_15, eq_false n_1_16, eq_false n_1_17, eq_true h_1, q_v_20] at hE
      subst hQ
      exact W.lret (v := v_20) hx hb hr (fun t ht hW => ⟨⟨v_20, (), rfl, ⟨⟨(by rw [hR, ← hE]), trivial⟩, r_v_20.to (by decide)⟩, by rw [ht]; exact hw.2.1, va_K.moved hW.alike hK, hw.2.2.1⟩, hw.2.2.2.1.F ht⟩) hw.2.2.2.1.2.2 dX10_wordOf_419
    · refine lv_tableIn (tgt := 420) (off := 419) hx hb dX10_wordOf_1 (by omega) (by omega) (by rw [h_1]; rfl) (by decide) ?_
      have r_p0 : RI p0 19 19 := ⟨by omega, by omega⟩
      have n_1_0 : ¬ (p0.toInt = 0) := by omega
      have n_1_1 : ¬ (p0.toInt = 1) := by omega
      have n_1_2 : ¬ (p0.toInt = 2) := by omega
      have n_1_3 : ¬ (p0.toInt = 3) := by omega
      have n_1_4 : ¬ (p0.toInt = 4) := by omega
      have n_1_5 : ¬ (p0.toInt = 5) := by omega
      have n_1_6 : ¬ (p0.toInt = 6) := by omega
      have n_1_7 : ¬ (p0.toInt = 7) := by omega
      have n_1_8 : ¬ (p0.toInt = 8) := by omega
      have n_1_9 : ¬ (p0.toInt = 9) := by omega
      have n_1_10 : ¬ (p0.toInt = 10) := by omega
      have n_1_11 : ¬ (p0.toInt = 11) := by omega
      have n_1_12 : ¬ (p0.toInt = 12) := by omega
      have n_1_13 : ¬ (p0.toInt = 13) := by omega
      have n_1_14 : ¬ (p0.toInt = 14) := by omega
      have n_1_15 : ¬ (p0.toInt = 15) := by omega
      have n_1_16 : ¬ (p0.toInt = 16) := by omega
      have n_1_17 : ¬ (p0.toInt = 17) := by omega
      have n_1_18 : ¬ (p0.toInt = 18) := by omega
      refine lv_bipush (v := 111) hx hb dX10_wordOf_420 (by decide) ?_
      refine lv_bipush (v := 112) hx hb dX10_wordOf_422 (by decide) ?_
      refine lv_bipush (v := 101) hx hb dX10_wordOf_424 (by decide) ?_
      refine lv_bipush (v := 110) hx hb dX10_wordOf_426 (by decide) ?_
      refine lv_bipush (v := 101) hx hb dX10_wordOf_428 (by decide) ?_
      refine lv_bipush (v := 100) hx hb dX10_wordOf_430 (by decide) ?_
      refine lv_iconst (v := 0) hx hb dX10_wordOf_432 (by decide) ?_
      refine tk_lr (va_runS (As := [.int 111, .int 112, .int 101, .int 110, .int 101, .int 100, .int 0]) (rest := []) ⟨hx, hb, hml, hown, hts⟩ (c_X10_spelt__78 l D cy z s.heap.size Ps w0 hw.1 111 112 101 110 101 100 0 rl_111 rl_112 rl_101 rl_110 rl_101 rl_100 rl_0) (va_cwS 7 hts (gS tw_1325 tw_1326 tw_15 tw_1327) rfl rfl rfl (by decide +kernel) ⟨Nat.le_of_ble_eq_true rfl, Nat.le_of_ble_eq_true rfl⟩) (tg_preS hw hK hSD hA) rfl rfl hl.1 rfl (lv_room (Nat.le_of_ble_eq_true rfl)) dX10_wordOf_433 ⟨Nat.le_of_ble_eq_true rfl, Nat.le_of_ble_eq_true rfl⟩) hw hA (fun v_21  H locs hp_v_21 hw => ?_)
      obtain ⟨hfn, hp_v_21⟩ := hp_v_21
      have q_v_21 : (f_X10_spelt__30 (111 : Int32) (112 : Int32) (101 : Int32) (110 : Int32) (101 : Int32) (100 : Int32) (0 : Int32)) = v_21 := hfn.1
      have r_v_21 : RJ v_21 223845421 223845421 := hp_v_21
      simp only [f_X10_wordOf__7, ↓reduceIte, eq_false cl_1, eq_false n_1_0, eq_false n_1_1, eq_false n_1_2, eq_false n_1_3, eq_false n_1_4, eq_false n_1_5, eq_false n_1_6, eq_false n_1_7, eq_false n_1_8, eq_false n_1_9, eq_false n_1_10, eq_false n_1_11, eq_false n_1_12, eq_false n_1_13, eq_false n_1_14, eq_false n_1_15, eq_false n_1_16, eq_false n_1_17, eq_false n_1_18, eq_true h_1, q_v_21] at hE
      subst hQ
      exact W.lret (v := v_21) hx hb hr (fun t ht hW => ⟨⟨v_21, (), rfl, ⟨⟨(by rw [hR, ← hE]), trivial⟩, r_v_21.to (by decide)⟩, by rw [ht]; exact hw.2.1, va_K.moved hW.alike hK, hw.2.2.1⟩, hw.2.2.2.1.F ht⟩) hw.2.2.2.1.2.2 dX10_wordOf_436
    · refine lv_tableIn (tgt := 437) (off := 436) hx hb dX10_wordOf_1 (by omega) (by omega) (by rw [h_1]; rfl) (by decide) ?_
      have r_p0 : RI p0 20 20 := ⟨by omega, by omega⟩
      have n_1_0 : ¬ (p0.toInt = 0) := by omega
      have n_1_1 : ¬ (p0.toInt = 1) := by omega
      have n_1_2 : ¬ (p0.toInt = 2) := by omega
      have n_1_3 : ¬ (p0.toInt = 3) := by omega
      have n_1_4 : ¬ (p0.toInt = 4) := by omega
      have n_1_5 : ¬ (p0.toInt = 5) := by omega
      have n_1_6 : ¬ (p0.toInt = 6) := by omega
      have n_1_7 : ¬ (p0.toInt = 7) := by omega
      have n_1_8 : ¬ (p0.toInt = 8) := by omega
      have n_1_9 : ¬ (p0.toInt = 9) := by omega
      have n_1_10 : ¬ (p0.toInt = 10) := by omega
      have n_1_11 : ¬ (p0.toInt = 11) := by omega
      have n_1_12 : ¬ (p0.toInt = 12) := by omega
      have n_1_13 : ¬ (p0.toInt = 13) := by omega
      have n_1_14 : ¬ (p0.toInt = 14) := by omega
      have n_1_15 : ¬ (p0.toInt = 15) := by omega
      have n_1_16 : ¬ (p0.toInt = 16) := by omega
      have n_1_17 : ¬ (p0.toInt = 17) := by omega
      have n_1_18 : ¬ (p0.toInt = 18) := by omega
      have n_1_19 : ¬ (p0.toInt = 19) := by omega
      refine lv_bipush (v := 110) hx hb dX10_wordOf_437 (by decide) ?_
      refine lv_bipush (v := 111) hx hb dX10_wordOf_439 (by decide) ?_
      refine lv_bipush (v := 116) hx hb dX10_wordOf_441 (by decide) ?_
      refine lv_bipush (v := 104) hx hb dX10_wordOf_443 (by decide) ?_
      refine lv_bipush (v := 105) hx hb dX10_wordOf_445 (by decide) ?_
      refine lv_bipush (v := 110) hx hb dX10_wordOf_447 (by decide) ?_
      refine lv_bipush (v := 103) hx hb dX10_wordOf_449 (by decide) ?_
      refine tk_lr (va_runS (As := [.int 110, .int 111, .int 116, .int 104, .int 105, .int 110, .int 103]) (rest := []) ⟨hx, hb, hml, hown, hts⟩ (c_X10_spelt__79 l D cy z s.heap.size Ps w0 hw.1 110 111 116 104 105 110 103 rl_110 rl_111 rl_116 rl_104 rl_105 rl_110 rl_103) (va_cwS 7 hts (gS tw_1325 tw_1326 tw_15 tw_1327) rfl rfl rfl (by decide +kernel) ⟨Nat.le_of_ble_eq_true rfl, Nat.le_of_ble_eq_true rfl⟩) (tg_preS hw hK hSD hA) rfl rfl hl.1 rfl (lv_room (Nat.le_of_ble_eq_true rfl)) dX10_wordOf_451 ⟨Nat.le_of_ble_eq_true rfl, Nat.le_of_ble_eq_true rfl⟩) hw hA (fun v_22  H locs hp_v_22 hw => ?_)
      obtain ⟨hfn, hp_v_22⟩ := hp_v_22
      have q_v_22 : (f_X10_spelt__37 (110 : Int32) (111 : Int32) (116 : Int32) (104 : Int32) (105 : Int32) (110 : Int32) (103 : Int32)) = v_22 := hfn.1
      have r_v_22 : RJ v_22 5649913681 5649913681 := hp_v_22
      simp only [f_X10_wordOf__7, ↓reduceIte, eq_false cl_1, eq_false n_1_0, eq_false n_1_1, eq_false n_1_2, eq_false n_1_3, eq_false n_1_4, eq_false n_1_5, eq_false n_1_6, eq_false n_1_7, eq_false n_1_8, eq_false n_1_9, eq_false n_1_10, eq_false n_1_11, eq_false n_1_12, eq_false n_1_13, eq_false n_1_14, eq_false n_1_15, eq_false n_1_16, eq_false n_1_17, eq_false n_1_18, eq_false n_1_19, eq_true h_1, q_v_22] at hE
      subst hQ
      exact W.lret (v := v_22) hx hb hr (fun t ht hW => ⟨⟨v_22, (), rfl, ⟨⟨(by rw [hR, ← hE]), trivial⟩, r_v_22.to (by decide)⟩, by rw [ht]; exact hw.2.1, va_K.moved hW.alike hK, hw.2.2.1⟩, hw.2.2.2.1.F ht⟩) hw.2.2.2.1.2.2 dX10_wordOf_454
    · refine lv_tableIn (tgt := 455) (off := 454) hx hb dX10_wordOf_1 (by omega) (by omega) (by rw [h_1]; rfl) (by decide) ?_
      have r_p0 : RI p0 21 21 := ⟨by omega, by omega⟩
      have n_1_0 : ¬ (p0.toInt = 0) := by omega
      have n_1_1 : ¬ (p0.toInt = 1) := by omega
      have n_1_2 : ¬ (p0.toInt = 2) := by omega
      have n_1_3 : ¬ (p0.toInt = 3) := by omega
      have n_1_4 : ¬ (p0.toInt = 4) := by omega
      have n_1_5 : ¬ (p0.toInt = 5) := by omega
      have n_1_6 : ¬ (p0.toInt = 6) := by omega
      have n_1_7 : ¬ (p0.toInt = 7) := by omega
      have n_1_8 : ¬ (p0.toInt = 8) := by omega
      have n_1_9 : ¬ (p0.toInt = 9) := by omega
      have n_1_10 : ¬ (p0.toInt = 10) := by omega
      have n_1_11 : ¬ (p0.toInt = 11) := by omega
      have n_1_12 : ¬ (p0.toInt = 12) := by omega
      have n_1_13 : ¬ (p0.toInt = 13) := by omega
      have n_1_14 : ¬ (p0.toInt = 14) := by omega
      have n_1_15 : ¬ (p0.toInt = 15) := by omega
      have n_1_16 : ¬ (p0.toInt = 16) := by omega
      have n_1_17 : ¬ (p0.toInt = 17) := by omega
      have n_1_18 : ¬ (p0.toInt = 18) := by omega
      have n_1_19 : ¬ (p0.toInt = 19) := by omega
      have n_1_20 : ¬ (p0.toInt = 20) := by omega
      refine lv_bipush (v := 119) hx hb dX10_wordOf_455 (by decide) ?_
      refine lv_bipush (v := 97) hx hb dX10_wordOf_457 (by decide) ?_
      refine lv_bipush (v := 116) hx hb dX10_wordOf_459 (by decide) ?_
      refine lv_bipush (v := 99) hx hb dX10_wordOf_461 (by decide) ?_
      refine lv_bipush (v := 104) hx hb dX10_wordOf_463 (by decide) ?_
      refine lv_bipush (v := 101) hx hb dX10_wordOf_465 (by decide) ?_
      refine lv_bipush (v := 100) hx hb dX10_wordOf_467 (by decide) ?_
      refine tk_lr (va_runS (As := [.int 119, .int 97, .int 116, .int 99, .int 104, .int 101, .int 100]) (rest := []) ⟨hx, hb, hml, hown, hts⟩ (c_X10_spelt__80 l D cy z s.heap.size Ps w0 hw.1 119 97 116 99 104 101 100 rl_119 rl_97 rl_116 rl_99 rl_104 rl_101 rl_100) (va_cwS 7 hts (gS tw_1325 tw_1326 tw_15 tw_1327) rfl rfl rfl (by decide +kernel) ⟨Nat.le_of_ble_eq_true rfl, Nat.le_of_ble_eq_true rfl⟩) (tg_preS hw hK hSD hA) rfl rfl hl.1 rfl (lv_room (Nat.le_of_ble_eq_true rfl)) dX10_wordOf_469 ⟨Nat.le_of_ble_eq_true rfl, Nat.le_of_ble_eq_true rfl⟩) hw hA (fun v_23  H locs hp_v_23 hw => ?_)
      obtain ⟨hfn, hp_v_23⟩ := hp_v_23
      have q_v_23 : (f_X10_spelt__37 (119 : Int32) (97 : Int32) (116 : Int32) (99 : Int32) (104 : Int32) (101 : Int32) (100 : Int32)) = v_23 := hfn.1
      have r_v_23 : RJ v_23 8935713994 8935713994 := hp_v_23
      simp only [f_X10_wordOf__7, ↓reduceIte, eq_false cl_1, eq_false n_1_0, eq_false n_1_1, eq_false n_1_2, eq_false n_1_3, eq_false n_1_4, eq_false n_1_5, eq_false n_1_6, eq_false n_1_7, eq_false n_1_8, eq_false n_1_9, eq_false n_1_10, eq_false n_1_11, eq_false n_1_12, eq_false n_1_13, eq_false n_1_14, eq_false n_1_15, eq_false n_1_16, eq_false n_1_17, eq_false n_1_18, eq_false n_1_19, eq_false n_1_20, eq_true h_1, q_v_23] at hE
      subst hQ
      exact W.lret (v := v_23) hx hb hr (fun t ht hW => ⟨⟨v_23, (), rfl, ⟨⟨(by rw [hR, ← hE]), trivial⟩, r_v_23.to (by decide)⟩, by rw [ht]; exact hw.2.1, va_K.moved hW.alike hK, hw.2.2.1⟩, hw.2.2.2.1.F ht⟩) hw.2.2.2.1.2.2 dX10_wordOf_472
    · refine lv_tableIn (tgt := 473) (off := 472) hx hb dX10_wordOf_1 (by omega) (by omega) (by rw [h_1]; rfl) (by decide) ?_
      have r_p0 : RI p0 22 22 := ⟨by omega, by omega⟩
      have n_1_0 : ¬ (p0.toInt = 0) := by omega
      have n_1_1 : ¬ (p0.toInt = 1) := by omega
      have n_1_2 : ¬ (p0.toInt = 2) := by omega
      have n_1_3 : ¬ (p0.toInt = 3) := by omega
      have n_1_4 : ¬ (p0.toInt = 4) := by omega
      have n_1_5 : ¬ (p0.toInt = 5) := by omega
      have n_1_6 : ¬ (p0.toInt = 6) := by omega
      have n_1_7 : ¬ (p0.toInt = 7) := by omega
      have n_1_8 : ¬ (p0.toInt = 8) := by omega
      have n_1_9 : ¬ (p0.toInt = 9) := by omega
      have n_1_10 : ¬ (p0.toInt = 10) := by omega
      have n_1_11 : ¬ (p0.toInt = 11) := by omega
      have n_1_12 : ¬ (p0.toInt = 12) := by omega
      have n_1_13 : ¬ (p0.toInt = 13) := by omega
      have n_1_14 : ¬ (p0.toInt = 14) := by omega
      have n_1_15 : ¬ (p0.toInt = 15) := by omega
      have n_1_16 : ¬ (p0.toInt = 16) := by omega
      have n_1_17 : ¬ (p0.toInt = 17) := by omega
      have n_1_18 : ¬ (p0.toInt = 18) := by omega
      have n_1_19 : ¬ (p0.toInt = 19) := by omega
      have n_1_20 : ¬ (p0.toInt = 20) := by omega
      have n_1_21 : ¬ (p0.toInt = 21) := by omega
      refine lv_bipush (v := 105) hx hb dX10_wordOf_473 (by decide) ?_
      refine lv_bipush (v := 115) hx hb dX10_wordOf_475 (by decide) ?_
      refine lv_iconst (v := 0) hx hb dX10_wordOf_477 (by decide) ?_
      refine lv_iconst (v := 0) hx hb dX10_wordOf_478 (by decide) ?_
      refine lv_iconst (v := 0) hx hb dX10_wordOf_479 (by decide) ?_
      refine lv_iconst (v := 0) hx hb dX10_wordOf_480 (by decide) ?_
      refine lv_iconst (v := 0) hx hb dX10_wordOf_481 (by decide) ?_
      refine tk_lr (va_runS (As := [.int 105, .int 115, .int 0, .int 0, .int 0, .int 0, .int 0]) (rest := []) ⟨hx, hb, hml, hown, hts⟩ (c_X10_spelt__81 l D cy z s.heap.size Ps w0 hw.1 105 115 0 0 0 0 0 rl_105 rl_115 rl_0 rl_0 rl_0 rl_0 rl_0) (va_cwS 7 hts (gS tw_1325 tw_1326 tw_15 tw_1327) rfl rfl rfl (by decide +kernel) ⟨Nat.le_of_ble_eq_true rfl, Nat.le_of_ble_eq_true rfl⟩) (tg_preS hw hK hSD hA) rfl rfl hl.1 rfl (lv_room (Nat.le_of_ble_eq_true rfl)) dX10_wordOf_482 ⟨Nat.le_of_ble_eq_true rfl, Nat.le_of_ble_eq_true rfl⟩) hw hA (fun v_24  H locs hp_v_24 hw => ?_)
      obtain ⟨hfn, hp_v_24⟩ := hp_v_24
      have q_v_24 : (f_X10_spelt__47 (105 : Int32) (115 : Int32) (0 : Int32) (0 : Int32) (0 : Int32) (0 : Int32) (0 : Int32)) = v_24 := hfn.1
      have r_v_24 : RJ v_24 262 262 := hp_v_24
      simp only [f_X10_wordOf__7, ↓reduceIte, eq_false cl_1, eq_false n_1_0, eq_false n_1_1, eq_false n_1_2, eq_false n_1_3, eq_false n_1_4, eq_false n_1_5, eq_false n_1_6, eq_false n_1_7, eq_false n_1_8, eq_false n_1_9, eq_false n_1_10, eq_false n_1_11, eq_false n_1_12, eq_false n_1_13, eq_false n_1_14, eq_false n_1_15, eq_false n_1_16, eq_false n_1_17, eq_false n_1_18, eq_false n_1_19, eq_false n_1_20, eq_false n_1_21, eq_true h_1, q_v_24] at hE
      subst hQ
      exact W.lret (v := v_24) hx hb hr (fun t ht hW => ⟨⟨v_24, (), rfl, ⟨⟨(by rw [hR, ← hE]), trivial⟩, r_v_24.to (by decide)⟩, by rw [ht]; exact hw.2.1, va_K.moved hW.alike hK, hw.2.2.1⟩, hw.2.2.2.1.F ht⟩) hw.2.2.2.1.2.2 dX10_wordOf_485
    · refine lv_tableIn (tgt := 486) (off := 485) hx hb dX10_wordOf_1 (by omega) (by omega) (by rw [h_1]; rfl) (by decide) ?_
      have r_p0 : RI p0 23 23 := ⟨by omega, by omega⟩
      have n_1_0 : ¬ (p0.toInt = 0) := by omega
      have n_1_1 : ¬ (p0.toInt = 1) := by omega
      have n_1_2 : ¬ (p0.toInt = 2) := by omega
      have n_1_3 : ¬ (p0.toInt = 3) := by omega
      have n_1_4 : ¬ (p0.toInt = 4) := by omega
      have n_1_5 : ¬ (p0.toInt = 5) := by omega
      have n_1_6 : ¬ (p0.toInt = 6) := by omega
      have n_1_7 : ¬ (p0.toInt = 7) := by omega
      have n_1_8 : ¬ (p0.toInt = 8) := by omega
      have n_1_9 : ¬ (p0.toInt = 9) := by omega
      have n_1_10 : ¬ (p0.toInt = 10) := by omega
      have n_1_11 : ¬ (p0.toInt = 11) := by omega
      have n_1_12 : ¬ (p0.toInt = 12) := by omega
      have n_1_13 : ¬ (p0.toInt = 13) := by omega
      have n_1_14 : ¬ (p0.toInt = 14) := by omega
      have n_1_15 : ¬ (p0.toInt = 15) := by omega
      have n_1_16 : ¬ (p0.toInt = 16) := by omega
      have n_1_17 : ¬ (p0.toInt = 17) := by omega
      have n_1_18 : ¬ (p0.toInt = 18) := by omega
      have n_1_19 : ¬ (p0.toInt = 19) := by omega
      have n_1_20 : ¬ (p0.toInt = 20) := by omega
      have n_1_21 : ¬ (p0.toInt = 21) := by omega
      have n_1_22 : ¬ (p0.toInt = 22) := by omega
      refine lv_bipush (v := 105) hx hb dX10_wordOf_486 (by decide) ?_
      refine lv_bipush (v := 110) hx hb dX10_wordOf_488 (by decide) ?_
      refine lv_iconst (v := 0) hx hb dX10_wordOf_490 (by decide) ?_
      refine lv_iconst (v := 0) hx hb dX10_wordOf_491 (by decide) ?_
      refine lv_iconst (v := 0) hx hb dX10_wordOf_492 (by decide) ?_
      refine lv_iconst (v := 0) hx hb dX10_wordOf_493 (by decide) ?_
      refine lv_iconst (v := 0) hx hb dX10_wordOf_494 (by decide) ?_
      refine tk_lr (va_runS (As := [.int 105, .int 110, .int 0, .int 0, .int 0, .int 0, .int 0]) (rest := []) ⟨hx, hb, hml, hown, hts⟩ (c_X10_spelt__82 l D cy z s.heap.size Ps w0 hw.1 105 110 0 0 0 0 0 rl_105 rl_110 rl_0 rl_0 rl_0 rl_0 rl_0) (va_cwS 7 hts (gS tw_1325 tw_1326 tw_15 tw_1327) rfl rfl rfl (by decide +kernel) ⟨Nat.le_of_ble_eq_true rfl, Nat.le_of_ble_eq_true rfl⟩) (tg_preS hw hK hSD hA) rfl rfl hl.1 rfl (lv_room (Nat.le_of_ble_eq_true rfl)) dX10_wordOf_495 ⟨Nat.le_of_ble_eq_true rfl, Nat.le_of_ble_eq_true rfl⟩) hw hA (fun v_25  H locs hp_v_25 hw => ?_)
      obtain ⟨hfn, hp_v_25⟩ := hp_v_25
      have q_v_25 : (f_X10_spelt__47 (105 : Int32) (110 : Int32) (0 : Int32) (0 : Int32) (0 : Int32) (0 : Int32) (0 : Int32)) = v_25 := hfn.1
      have r_v_25 : RJ v_25 257 257 := hp_v_25
      simp only [f_X10_wordOf__7, ↓reduceIte, eq_false cl_1, eq_false n_1_0, eq_false n_1_1, eq_false n_1_2, eq_false n_1_3, eq_false n_1_4, eq_false n_1_5, eq_false n_1_6, eq_false n_1_7, eq_false n_1_8, eq_false n_1_9, eq_false n_1_10, eq_false n_1_11, eq_false n_1_12, eq_false n_1_13, eq_false n_1_14, eq_false n_1_15, eq_false n_1_16, eq_false n_1_17, eq_false n_1_18, eq_false n_1_19, eq_false n_1_20, eq_false n_1_21, eq_false n_1_22, eq_true h_1, q_v_25] at hE
      subst hQ
      exact W.lret (v := v_25) hx hb hr (fun t ht hW => ⟨⟨v_25, (), rfl, ⟨⟨(by rw [hR, ← hE]), trivial⟩, r_v_25.to (by decide)⟩, by rw [ht]; exact hw.2.1, va_K.moved hW.alike hK, hw.2.2.1⟩, hw.2.2.2.1.F ht⟩) hw.2.2.2.1.2.2 dX10_wordOf_498
    · refine lv_tableIn (tgt := 499) (off := 498) hx hb dX10_wordOf_1 (by omega) (by omega) (by rw [h_1]; rfl) (by decide) ?_
      have r_p0 : RI p0 24 24 := ⟨by omega, by omega⟩
      have n_1_0 : ¬ (p0.toInt = 0) := by omega
      have n_1_1 : ¬ (p0.toInt = 1) := by omega
      have n_1_2 : ¬ (p0.toInt = 2) := by omega
      have n_1_3 : ¬ (p0.toInt = 3) := by omega
      have n_1_4 : ¬ (p0.toInt = 4) := by omega
      have n_1_5 : ¬ (p0.toInt = 5) := by omega
      have n_1_6 : ¬ (p0.toInt = 6) := by omega
      have n_1_7 : ¬ (p0.toInt = 7) := by omega
      have n_1_8 : ¬ (p0.toInt = 8) := by omega
      have n_1_9 : ¬ (p0.toInt = 9) := by omega
      have n_1_10 : ¬ (p0.toInt = 10) := by omega
      have n_1_11 : ¬ (p0.toInt = 11) := by omega
      have n_1_12 : ¬ (p0.toInt = 12) := by omega
      have n_1_13 : ¬ (p0.toInt = 13) := by omega
      have n_1_14 : ¬ (p0.toInt = 14) := by omega
      have n_1_15 : ¬ (p0.toInt = 15) := by omega
      have n_1_16 : ¬ (p0.toInt = 16) := by omega
      have n_1_17 : ¬ (p0.toInt = 17) := by omega
      have n_1_18 : ¬ (p0.toInt = 18) := by omega
      have n_1_19 : ¬ (p0.toInt = 19) := by omega
      have n_1_20 : ¬ (p0.toInt = 20) := by omega
      have n_1_21 : ¬ (p0.toInt = 21) := by omega
      have n_1_22 : ¬ (p0.toInt = 22) := by omega
      have n_1_23 : ¬ (p0.toInt = 23) := by omega
      refine lv_bipush (v := 115) hx hb dX10_wordOf_499 (by decide) ?_
      refine lv_bipush (v := 105) hx hb dX10_wordOf_501 (by decide) ?_
      refine lv_bipush (v := 122) hx hb dX10_wordOf_503 (by decide) ?_
      refine lv_bipush (v := 101) hx hb dX10_wordOf_505 (by decide) ?_
      refine lv_iconst (v := 0) hx hb dX10_wordOf_507 (by decide) ?_
      refine lv_iconst (v := 0) hx hb dX10_wordOf_508 (by decide) ?_
      refine lv_iconst (v := 0) hx hb dX10_wordOf_509 (by decide) ?_
      refine tk_lr (va_runS (As := [.int 115, .int 105, .int 122, .int 101, .int 0, .int 0, .int 0]) (rest := []) ⟨hx, hb, hml, hown, hts⟩ (c_X10_spelt__83 l D cy z s.heap.size Ps w0 hw.1 115 105 122 101 0 0 0 rl_115 rl_105 rl_122 rl_101 rl_0 rl_0 rl_0) (va_cwS 7 hts (gS tw_1325 tw_1326 tw_15 tw_1327) rfl rfl rfl (by decide +kernel) ⟨Nat.le_of_ble_eq_true rfl, Nat.le_of_ble_eq_true rfl⟩) (tg_preS hw hK hSD hA) rfl rfl hl.1 rfl (lv_room (Nat.le_of_ble_eq_true rfl)) dX10_wordOf_510 ⟨Nat.le_of_ble_eq_true rfl, Nat.le_of_ble_eq_true rfl⟩) hw hA (fun v_26  H locs hp_v_26 hw => ?_)
      obtain ⟨hfn, hp_v_26⟩ := hp_v_26
      have q_v_26 : (f_X10_spelt__31 (115 : Int32) (105 : Int32) (122 : Int32) (101 : Int32) (0 : Int32) (0 : Int32) (0 : Int32)) = v_26 := hfn.1
      have r_v_26 : RJ v_26 381245 381245 := hp_v_26
      simp only [f_X10_wordOf__7, ↓reduceIte, eq_false cl_1, eq_false n_1_0, eq_false n_1_1, eq_false n_1_2, eq_false n_1_3, eq_false n_1_4, eq_false n_1_5, eq_false n_1_6, eq_false n_1_7, eq_false n_1_8, eq_false n_1_9, eq_false n_1_10, eq_false n_1_11, eq_false n_1_12, eq_false n_1_13, eq_false n_1_14, eq_false n_1_15, eq_false n_1_16, eq_false n_1_17, eq_false n_1_18, eq_false n_1_19, eq_false n_1_20, eq_false n_1_21, eq_false n_1_22, eq_false n_1_23, eq_true h_1, q_v_26] at hE
      subst hQ
      exact W.lret (v := v_26) hx hb hr (fun t ht hW => ⟨⟨v_26, (), rfl, ⟨⟨(by rw [hR, ← hE]), trivial⟩, r_v_26.to (by decide)⟩, by rw [ht]; exact hw.2.1, va_K.moved hW.alike hK, hw.2.2.1⟩, hw.2.2.2.1.F ht⟩) hw.2.2.2.1.2.2 dX10_wordOf_513
    · refine lv_tableIn (tgt := 514) (off := 513) hx hb dX10_wordOf_1 (by omega) (by omega) (by rw [h_1]; rfl) (by decide) ?_
      have r_p0 : RI p0 25 25 := ⟨by omega, by omega⟩
      have n_1_0 : ¬ (p0.toInt = 0) := by omega
      have n_1_1 : ¬ (p0.toInt = 1) := by omega
      have n_1_2 : ¬ (p0.toInt = 2) := by omega
      have n_1_3 : ¬ (p0.toInt = 3) := by omega
      have n_1_4 : ¬ (p0.toInt = 4) := by omega
      have n_1_5 : ¬ (p0.toInt = 5) := by omega
      have n_1_6 : ¬ (p0.toInt = 6) := by omega
      have n_1_7 : ¬ (p0.toInt = 7) := by omega
      have n_1_8 : ¬ (p0.toInt = 8) := by omega
      have n_1_9 : ¬ (p0.toInt = 9) := by omega
      have n_1_10 : ¬ (p0.toInt = 10) := by omega
      have n_1_11 : ¬ (p0.toInt = 11) := by omega
      have n_1_12 : ¬ (p0.toInt = 12) := by omega
      have n_1_13 : ¬ (p0.toInt = 13) := by omega
      have n_1_14 : ¬ (p0.toInt = 14) := by omega
      have n_1_15 : ¬ (p0.toInt = 15) := by omega
      have n_1_16 : ¬ (p0.toInt = 16) := by omega
      have n_1_17 : ¬ (p0.toInt = 17) := by omega
      have n_1_18 : ¬ (p0.toInt = 18) := by omega
      have n_1_19 : ¬ (p0.toInt = 19) := by omega
      have n_1_20 : ¬ (p0.toInt = 20) := by omega
      have n_1_21 : ¬ (p0.toInt = 21) := by omega
      have n_1_22 : ¬ (p0.toInt = 22) := by omega
      have n_1_23 : ¬ (p0.toInt = 23) := by omega
      have n_1_24 : ¬ (p0.toInt = 24) := by omega
      refine lv_bipush (v := 98) hx hb dX10_wordOf_514 (by decide) ?_
      refine lv_bipush (v := 117) hx hb dX10_wordOf_516 (by decide) ?_
      refine lv_bipush (v := 108) hx hb dX10_wordOf_518 (by decide) ?_
      refine lv_bipush (v := 103) hx hb dX10_wordOf_520 (by decide) ?_
      refine lv_bipush (v := 101) hx hb dX10_wordOf_522 (by decide) ?_
      refine lv_iconst (v := 0) hx hb dX10_wordOf_524 (by decide) ?_
      refine lv_iconst (v := 0) hx hb dX10_wordOf_525 (by decide) ?_
      refine tk_lr (va_runS (As := [.int 98, .int 117, .int 108, .int 103, .int 101, .int 0, .int 0]) (rest := []) ⟨hx, hb, hml, hown, hts⟩ (c_X10_spelt__84 l D cy z s.heap.size Ps w0 hw.1 98 117 108 103 101 0 0 rl_98 rl_117 rl_108 rl_103 rl_101 rl_0 rl_0) (va_cwS 7 hts (gS tw_1325 tw_1326 tw_15 tw_1327) rfl rfl rfl (by decide +kernel) ⟨Nat.le_of_ble_eq_true rfl, Nat.le_of_ble_eq_true rfl⟩) (tg_preS hw hK hSD hA) rfl rfl hl.1 rfl (lv_room (Nat.le_of_ble_eq_true rfl)) dX10_wordOf_526 ⟨Nat.le_of_ble_eq_true rfl, Nat.le_of_ble_eq_true rfl⟩) hw hA (fun v_27  H locs hp_v_27 hw => ?_)
      obtain ⟨hfn, hp_v_27⟩ := hp_v_27
      have q_v_27 : (f_X10_spelt__39 (98 : Int32) (117 : Int32) (108 : Int32) (103 : Int32) (101 : Int32) (0 : Int32) (0 : Int32)) = v_27 := hfn.1
      have r_v_27 : RJ v_27 1485167 1485167 := hp_v_27
      simp only [f_X10_wordOf__7, ↓reduceIte, eq_false cl_1, eq_false n_1_0, eq_false n_1_1, eq_false n_1_2, eq_false n_1_3, eq_false n_1_4, eq_false n_1_5, eq_false n_1_6, eq_false n_1_7, eq_false n_1_8, eq_false n_1_9, eq_false n_1_10, eq_false n_1_11, eq_false n_1_12, eq_false n_1_13, eq_false n_1_14, eq_false n_1_15, eq_false n_1_16, eq_false n_1_17, eq_false n_1_18, eq_false n_1_19, eq_false n_1_20, eq_false n_1_21, eq_false n_1_22, eq_false n_1_23, eq_false n_1_24, eq_true h_1, q_v_27] at hE
      subst hQ
      exact W.lret (v := v_27) hx hb hr (fun t ht hW => ⟨⟨v_27, (), rfl, ⟨⟨(by rw [hR, ← hE]), trivial⟩, r_v_27.to (by decide)⟩, by rw [ht]; exact hw.2.1, va_K.moved hW.alike hK, hw.2.2.1⟩, hw.2.2.2.1.F ht⟩) hw.2.2.2.1.2.2 dX10_wordOf_529
    · refine lv_tableIn (tgt := 530) (off := 529) hx hb dX10_wordOf_1 (by omega) (by omega) (by rw [h_1]; rfl) (by decide) ?_
      have r_p0 : RI p0 26 26 := ⟨by omega, by omega⟩
      have n_1_0 : ¬ (p0.toInt = 0) := by omega
      have n_1_1 : ¬ (p0.toInt = 1) := by omega
      have n_1_2 : ¬ (p0.toInt = 2) := by omega
      have n_1_3 : ¬ (p0.toInt = 3) := by omega
      have n_1_4 : ¬ (p0.toInt = 4) := by omega
      have n_1_5 : ¬ (p0.toInt = 5) := by omega
      have n_1_6 : ¬ (p0.toInt = 6) := by omega
      have n_1_7 : ¬ (p0.toInt = 7) := by omega
      have n_1_8 : ¬ (p0.toInt = 8) := by omega
      have n_1_9 : ¬ (p0.toInt = 9) := by omega
      have n_1_10 : ¬ (p0.toInt = 10) := by omega
      have n_1_11 : ¬ (p0.toInt = 11) := by omega
      have n_1_12 : ¬ (p0.toInt = 12) := by omega
      have n_1_13 : ¬ (p0.toInt = 13) := by omega
      have n_1_14 : ¬ (p0.toInt = 14) := by omega
      have n_1_15 : ¬ (p0.toInt = 15) := by omega
      have n_1_16 : ¬ (p0.toInt = 16) := by omega
      have n_1_17 : ¬ (p0.toInt = 17) := by omega
      have n_1_18 : ¬ (p0.toInt = 18) := by omega
      have n_1_19 : ¬ (p0.toInt = 19) := by omega
      have n_1_20 : ¬ (p0.toInt = 20) := by omega
      have n_1_21 : ¬ (p0.toInt = 21) := by omega
      have n_1_22 : ¬ (p0.toInt = 22) := by omega
      have n_1_23 : ¬ (p0.toInt = 23) := by omega
      have n_1_24 : ¬ (p0.toInt = 24) := by omega
      have n_1_25 : ¬ (p0.toInt = 25) := by omega
      refine lv_bipush (v := 116) hx hb dX10_wordOf_530 (by decide) ?_
      refine lv_bipush (v := 117) hx hb dX10_wordOf_532 (by decide) ?_
      refine lv_bipush (v := 114) hx hb dX10_wordOf_534 (by decide) ?_
      refine lv_bipush (v := 110) hx hb dX10_wordOf_536 (by decide) ?_
      refine lv_bipush (v := 101) hx hb dX10_wordOf_538 (by decide) ?_
      refine lv_bipush (v := 100) hx hb dX10_wordOf_540 (by decide) ?_
      refine lv_iconst (v := 0) hx hb dX10_wordOf_542 (by decide) ?_
      refine tk_lr (va_runS (As := [.int 116, .int 117, .int 114, .int 110, .int 101, .int 100, .int 0]) (rest := []) ⟨hx, hb, hml, hown, hts⟩ (c_X10_spelt__85 l D cy z s.heap.size Ps w0 hw.1 116 117 114 110 101 100 0 rl_116 rl_117 rl_114 rl_110 rl_101 rl_100 rl_0) (va_cwS 7 hts (gS tw_1325 tw_1326 tw_15 tw_1327) rfl rfl rfl (by decide +kernel) ⟨Nat.le_of_ble_eq_true rfl, Nat.le_of_ble_eq_true rfl⟩) (tg_preS hw hK hSD hA) rfl rfl hl.1 rfl (lv_room (Nat.le_of_ble_eq_true rfl)) dX10_wordOf_543 ⟨Nat.le_of_ble_eq_true rfl, Nat.le_of_ble_eq_true rfl⟩) hw hA (fun v_28  H locs hp_v_28 hw => ?_)
      obtain ⟨hfn, hp_v_28⟩ := hp_v_28
      have q_v_28 : (f_X10_spelt__30 (116 : Int32) (117 : Int32) (114 : Int32) (110 : Int32) (101 : Int32) (100 : Int32) (0 : Int32)) = v_28 := hfn.1
      have r_v_28 : RJ v_28 298503040 298503040 := hp_v_28
      simp only [f_X10_wordOf__7, ↓reduceIte, eq_false cl_1, eq_false n_1_0, eq_false n_1_1, eq_false n_1_2, eq_false n_1_3, eq_false n_1_4, eq_false n_1_5, eq_false n_1_6, eq_false n_1_7, eq_false n_1_8, eq_false n_1_9, eq_false n_1_10, eq_false n_1_11, eq_false n_1_12, eq_false n_1_13, eq_false n_1_14, eq_false n_1_15, eq_false n_1_16, eq_false n_1_17, eq_false n_1_18, eq_false n_1_19, eq_false n_1_20, eq_false n_1_21, eq_false n_1_22, eq_false n_1_23, eq_false n_1_24, eq_false n_1_25, q_v_28] at hE
      subst hQ
      exact W.lret (v := v_28) hx hb hr (fun t ht hW => ⟨⟨v_28, (), rfl, ⟨⟨(by rw [hR, ← hE]), trivial⟩, r_v_28.to (by decide)⟩, by rw [ht]; exact hw.2.1, va_K.moved hW.alike hK, hw.2.2.1⟩, hw.2.2.2.1.F ht⟩) hw.2.2.2.1.2.2 dX10_wordOf_546
abbrev wr_X10_isName__2 : List (Nat × Nat) := []
abbrev wa_X10_isName__2 : List Nat := []
set_option maxHeartbeats 4000000 in
set_option maxRecDepth 100000 in
theorem c_X10_isName__2 (l : Launch) (D : va_G) (cy : Nat → ClassId) (z : Nat → Nat) (sz : Nat) (Ps : PSI) (w0 : va_W) (hT : HT cy GG Ps w0) (p0 : Nat) (s0 : OS) (h_p0 : (p0, 55) ∈ Ps) (o_p0 : OV vw_M2 Ps w0 p0 s0) : Met l yX10_isName (Cond.code yX10_isName cX10_isName 2 (some .boolean) :: gT) ({ frames := 3, cells := 0, slots := 0, locals := 600 } : Room) (va_Pc [.ref p0] (PRE D cy z w0 sz)) (va_Qi (fun (r : Int32) (u : Unit) => ((f_X10_isName__1 s0) = r ∧ True) ∧ (RI r 0 1 ∧ (r = 0 → True) ∧ (¬ r = 0 → True))) (BB D cy (va_A w0 sz) (fun (u : Unit) => w0)) (va_A w0 sz)) 0 0 (va_A w0 sz) := by
  refine Met.ofW (cc := cX10_isName) (maxL := 2) (ret := (some .boolean)) (by decide) rfl ?_
  intro p e s m args below meth c s₁ B hml hv
  obtain ⟨rfl, hsz, hP, hK, hD0, hSD⟩ := hv
  have hx := B.exec
  have hb := B.bytes
  have hr := B.returns
  have hlocks := B.notSynchronized
  have hts : ∀ w ∈ gT, w.before _ s = true := fun w h => atoms_spec (ws := Cond.code yX10_isName cX10_isName 2 (some .boolean) :: gT) B.pre w (List.mem_cons_of_mem _ h)
  have hown : s.vm.findClass RX10 = some m.cls := findClass_of_methodNamed B.named
  subst hsz
  have hD := hD0.self (sz := s.heap.size)
  generalize hAe : va_A w0 s.heap.size = A at hD hSD ⊢
  have hA : ∀ q : Nat, s.heap.size ≤ q → A q := fun q h => by rw [← hAe]; exact Or.inr h
  have hl := lv_entry ([.ref p0]) (n := 2) (Nat.le_of_ble_eq_true rfl)
  rw [lg_entry_eq]
  generalize (lg_sl ([.ref p0]) ++ List.replicate (2 - (lg_sl ([.ref p0])).length) Slot.unset).toArray = ls at hl ⊢
  have hl : lv_has ls 2 [(0, .ref p0)] := hl
  refine nameQ (fun Q hQ => ?_)
  have hw : WD D cy GG A s wr_X10_isName__2 wa_X10_isName__2 Ps w0 Ps w0 s.heap [] := ⟨hT, hP, hD, va_S.rf, FR.rf, hT.1, [], (List.append_nil _).symm⟩
  obtain ⟨R9, hR⟩ : ∃ q9 : Int32, f_X10_isName__1 s0 = q9 := ⟨_, rfl⟩
  have hE := hR
  have B12 : ∀ (nf : Nat) (x1 : Int32) (z0_7 : Int32) (s0 : OS) (H : Heap) (locs : List Loc) (ls : Array Slot), 28 - x1.toInt < (nf : Int) → RI x1 0 28 → RI z0_7 2 2 → FLD w0 p0 10 7 (.int z0_7) → OV vw_M2 Ps w0 p0 s0 → f_X10_isName__1_12 nf x1 s0 = R9 → WD D cy GG A s wr_X10_isName__2 wa_X10_isName__2 Ps w0 Ps w0 H locs → lv_has ls 2 [(0, .ref p0), (1, .int x1)] → W p l e (headSpec (Cond.code yX10_isName cX10_isName 2 (some .boolean) :: gT) ({ frames := 3, cells := 0, slots := 0, locals := 600 } : Room)).room s m ([.ref p0] : List Value).toArray below meth c H locs 0 0 Q (F0 m 12 ls []) := by
    intro nf12
    induction nf12 with
    | zero =>
      intro x1 z0_7 s0 H locs ls hn12 r_x1 r_z0_7 m_z0_7 o_p0 hE hw hl
      exact absurd hn12 (by have q0 := r_x1.1; have u0 := r_x1.2; omega)
    | succ nf12 ih12 =>
      intro x1 z0_7 s0 H locs ls hn12 r_x1 r_z0_7 m_z0_7 o_p0 hE hw hl
      have q_z0_7 : s0.1 7 = z0_7 := OV.eqI (V := vw_M2) hw.2.2.1 o_p0 m_z0_7 (by decide)
      refine lv_iload_n hx hb dX10_isName_12 rfl (lv_at hl 1 rfl) ?_
      refine lv_bipush (v := 27) hx hb dX10_isName_13 (by decide) ?_
      refine lv_icmp_gt (tgt := 38) hx hb dX10_isName_15 (by decide) (fun c_15 => ?_) (fun c_15 => ?_)
      · have r_x1 : RI x1 28 28 := rc_lt2 rl_27 r_x1 (ti_lt c_15) (by decide)
        refine lv_iconst (v := 1) hx hb dX10_isName_38 (by decide) ?_
        simp only [f_X10_isName__1_12, ↓reduceIte, q_z0_7, eq_true c_15] at hE
        subst hQ
        exact W.zret (v := 1) hx hb hr (rfl) (fun t ht hW => ⟨⟨1, (), rfl, ⟨⟨(by rw [hR, ← hE]), trivial⟩, rl_1.to (by decide), (fun _ => trivial), (fun h0 => trivial)⟩, by rw [ht]; exact hw.2.1, va_K.moved hW.alike hK, hw.2.2.1⟩, hw.2.2.2.1.F ht⟩) hw.2.2.2.1.2.2 dX10_isName_39
      · have r_x1 : RI x1 0 27 := rc_le1 r_x1 rl_27 (ti_nlt c_15) (by decide)
        refine lv_aload_n hx hb dX10_isName_18 rfl (lv_at hl 0 rfl) ?_
        refine tg_get (ci := 10) (ts := ty_MODEL) (C := RX10) (T := TX10) (N := 49) hx hb hts inX10 hown hK hw h_p0 rfl rfl 12 (by decide) (hts _ tw_1149) (fun _ h9 => h9) (ft := vJ (-9223372036854775808) 9223372036854775807) rfl dX10_isName_19 (fun u_1 hv_u_1 m_u_1 => ?_)
        obtain ⟨vu_1, rfl, r_vu_1⟩ := hv_u_1
        have q_vu_1 : s0.2.1 12 = vu_1 := OV.eqL (V := vw_M2) hw.2.2.1 o_p0 m_u_1 (by decide)
        refine lv_iload_n hx hb dX10_isName_22 rfl (lv_at hl 1 rfl) ?_
        refine tk_lr (va_runS (As := [.int x1]) (rest := [.long vu_1]) ⟨hx, hb, hml, hown, hts⟩ (c_X10_wordOf__10 l D cy z H.size Ps w0 hw.1 x1 r_x1) (va_cwS 1 hts (gS tw_1322 tw_1323 tw_15 tw_1324) rfl rfl rfl (by decide +kernel) ⟨Nat.le_of_ble_eq_true rfl, Nat.le_of_ble_eq_true rfl⟩) (tg_preS hw hK hSD hA) rfl rfl hl.1 rfl (lv_room (Nat.le_of_ble_eq_true rfl)) dX10_isName_23 ⟨Nat.le_of_ble_eq_true rfl, Nat.le_of_ble_eq_true rfl⟩) hw hA (fun v_2  H locs hp_v_2 hw => ?_)
        obtain ⟨hfn, hp_v_2⟩ := hp_v_2
        have q_v_2 : (f_X10_wordOf__7 x1) = v_2 := hfn.1
        have r_v_2 : RJ v_2 257 8935713994 := hp_v_2
        refine W.lcmp hx hb dX10_isName_26 (lv_topi (fun v_3 e_v_3 => ?_))
        have r_v_3 := ri_any v_3
        have q_v_3 : lg_cmp vu_1 v_2 = v_3 := e_v_3.symm
        refine lv_if_ne (tgt := 32) hx hb dX10_isName_27 (by decide) (fun c_27 => ?_) (fun c_27 => ?_)
        · obtain ⟨v_4, e_v_4⟩ : ∃ q9 : Int32, q9 = x1 + Int32.ofInt 1 := ⟨_, rfl⟩
          obtain ⟨t_v_4, r_v_4⟩ := tq_add (lo := 1) (hi := 28) r_x1 (show RI (Int32.ofInt 1) 1 1 by unfold RI; decide +kernel) (by decide +kernel) e_v_4
          have t_v_4 : v_4.toInt = x1.toInt + 1 := t_v_4
          refine lv_iinc (v := v_4) (lv' := [(1, .int v_4), (0, .ref p0)]) hx hb dX10_isName_32 hl (k := 1) rfl e_v_4.symm (by decide) rfl (fun ls hl => ?_)
          have q_v_4 : x1 + (1 : Int32) = v_4 := by rw [e_v_4, show Int32.ofInt 1 = (1 : Int32) by decide]
          refine lv_goto (tgt := 12) hx hb dX10_isName_35 (by decide) ?_
          simp only [f_X10_isName__1_12, ↓reduceIte, q_z0_7, eq_false c_15, q_vu_1, q_v_2, q_v_3, eq_false c_27, q_v_4] at hE
          exact ih12 v_4 z0_7 s0 _ _ ls (by have q0 := r_v_4.1; have u0 := r_v_4.2; have o0 := r_x1.1; have p0 := r_x1.2; omega) (r_v_4.to (by decide)) r_z0_7 m_z0_7 o_p0 hE hw (lv_sub hl [1, 0] rfl)
        · have r_v_3 : RI v_3 0 0 := rc_eq1 r_v_3 rl_0 (ti_eq c_27) (by decide)
          refine lv_iconst (v := 0) hx hb dX10_isName_30 (by decide) ?_
          simp only [f_X10_isName__1_12, ↓reduceIte, q_z0_7, eq_false c_15, q_vu_1, q_v_2, q_v_3, eq_true c_27] at hE
          subst hQ
          exact W.zret (v := 0) hx hb hr (rfl) (fun t ht hW => ⟨⟨0, (), rfl, ⟨⟨(by rw [hR, ← hE]), trivial⟩, rl_0.to (by decide), (fun h0 => trivial), (fun _ => trivial)⟩, by rw [ht]; exact hw.2.1, va_K.moved hW.alike hK, hw.2.2.1⟩, hw.2.2.2.1.F ht⟩) hw.2.2.2.1.2.2 dX10_isName_31
  refine lv_aload_n hx hb dX10_isName_0 rfl (lv_at hl 0 rfl) ?_
  refine tg_get (ci := 10) (ts := ty_MODEL) (C := RX10) (T := TX10) (N := 49) hx hb hts inX10 hown hK hw h_p0 rfl rfl 7 (by decide) (hts _ tw_1144) (fun _ h9 => h9) (ft := vI (-2147483648) 2147483647) rfl dX10_isName_1 (fun u_5 hv_u_5 m_u_5 => ?_)
  obtain ⟨vu_5, rfl, r_vu_5⟩ := hv_u_5
  have q_vu_5 : s0.1 7 = vu_5 := OV.eqI (V := vw_M2) hw.2.2.1 o_p0 m_u_5 (by decide)
  refine lv_iconst (v := 2) hx hb dX10_isName_4 (by decide) ?_
  refine lv_icmp_eq (tgt := 10) hx hb dX10_isName_5 (by decide) (fun c_5 => ?_) (fun c_5 => ?_)
  · have r_vu_5 : RI vu_5 2 2 := rc_eq1 r_vu_5 rl_2 (ti_eq c_5) (by decide)
    refine lv_iconst (v := 0) hx hb dX10_isName_10 (by decide) ?_
    refine lv_istore_n (lv' := [(1, .int 0), (0, .ref p0)]) hx hb dX10_isName_11 rfl hl (by decide) rfl (fun ls hl => ?_)
    simp only [f_X10_isName__1, ↓reduceIte, q_vu_5, eq_true c_5] at hE
    exact B12 4294967298 0 vu_5 s0 _ _ ls (by have q0 := rl_0.1; have u0 := rl_0.2; omega) (rl_0.to (by decide)) r_vu_5 m_u_5 o_p0 hE hw (lv_sub hl [1, 0] rfl)
  · refine lv_iconst (v := 0) hx hb dX10_isName_8 (by decide) ?_
    simp only [f_X10_isName__1, ↓reduceIte, q_vu_5, eq_false c_5] at hE
    subst hQ
    exact W.zret (v := 0) hx hb hr (rfl) (fun t ht hW => ⟨⟨0, (), rfl, ⟨⟨(by rw [hR, ← hE]), trivial⟩, rl_0.to (by decide), (fun h0 => trivial), (fun _ => trivial)⟩, by rw [ht]; exact hw.2.1, va_K.moved hW.alike hK, hw.2.2.1⟩, hw.2.2.2.1.F ht⟩) hw.2.2.2.1.2.2 dX10_isName_9
abbrev wr_X10_findIn__13 : List (Nat × Nat) := []
abbrev wa_X10_findIn__13 : List Nat := []
set_option maxHeartbeats 4000000 in
set_option maxRecDepth 100000 in
theorem c_X10_findIn__13 (l : Launch) (D : va_G) (cy : Nat → ClassId) (z : Nat → Nat) (sz : Nat) (Ps : PSI) (w0 : va_W) (hT : HT cy GG Ps w0) (p0 : Nat) (p1 : Int32) (p2 : Int32) (p3 : Int64) (s0 : Nat → Int64) (h_p0 : (p0, 41) ∈ Ps) (r_p1 : RI p1 6 6) (r_p2 : RI p2 0 4) (r_p3 : RJ p3 (-9223372036854775808) 9223372036854775807) (o_p0 : ARL Ps w0 p0 41 s0) : Met l yX10_findIn (Cond.code yX10_findIn cX10_findIn 6 (some .int) :: gT) ({ frames := 0, cells := 0, slots := 0, locals := 200 } : Room) (va_Pc [.ref p0, .int p1, .int p2, .long p3] (PRE D cy z w0 sz)) (va_Qi (fun (r : Int32) (u : Unit) => ((f_X10_findIn__9 p1 p2 p3 s0) = r ∧ True) ∧ (RI r (-1) 3 ∧ (r = 0 → True) ∧ (¬ r = 0 → True) ∧ (True) ∧ (r.toInt < 0 → NFD w0 p0 p1 p2 p3 ∧ True) ∧ (0 ≤ r.toInt → FDD w0 p0 p1 p2 p3 ∧ 1 ≤ Int32.toInt p2 ∧ True))) (BB D cy (va_A w0 sz) (fun (u : Unit) => w0)) (va_A w0 sz)) 0 0 (va_A w0 sz) := by
  refine Met.ofW (cc := cX10_findIn) (maxL := 6) (ret := (some .int)) (by decide) rfl ?_
  intro p e s m args below meth c s₁ B hml hv
  obtain ⟨rfl, hsz, hP, hK, hD0, hSD⟩ := hv
  have hx := B.exec
  have hb := B.bytes
  have hr := B.returns
  have hlocks := B.notSynchronized
  have hts : ∀ w ∈ gT, w.before _ s = true := fun w h => atoms_spec (ws := Cond.code yX10_findIn cX10_findIn 6 (some .int) :: gT) B.pre w (List.mem_cons_of_mem _ h)
  have hown : s.vm.findClass RX10 = some m.cls := findClass_of_methodNamed B.named
  subst hsz
  have hD := hD0.self (sz := s.heap.size)
  generalize hAe : va_A w0 s.heap.size = A at hD hSD ⊢
  have hA : ∀ q : Nat, s.heap.size ≤ q → A q := fun q h => by rw [← hAe]; exact Or.inr h
  have hl := lv_entry ([.ref p0, .int p1, .int p2, .long p3]) (n := 6) (Nat.le_of_ble_eq_true rfl)
  rw [lg_entry_eq]
  generalize (lg_sl ([.ref p0, .int p1, .int p2, .long p3]) ++ List.replicate (6 - (lg_sl ([.ref p0, .int p1, .int p2, .long p3])).length) Slot.unset).toArray = ls at hl ⊢
  have hl : lv_has ls 6 [(0, .ref p0), (1, .int p1), (2, .int p2), (3, .long p3)] := hl
  refine nameQ (fun Q hQ => ?_)
  have hw : WD D cy GG A s wr_X10_findIn__13 wa_X10_findIn__13 Ps w0 Ps w0 s.heap [] := ⟨hT, hP, hD, va_S.rf, FR.rf, hT.1, [], (List.append_nil _).symm⟩
  obtain ⟨R9, hR⟩ : ∃ q9 : Int32, f_X10_findIn__9 p1 p2 p3 s0 = q9 := ⟨_, rfl⟩
  have hE := hR
  have B3 : ∀ (nf : Nat) (x5 : Int32) (s0 : Nat → Int64) (H : Heap) (locs : List Loc) (ls : Array Slot), 4 - x5.toInt < (nf : Int) → RI p1 6 6 → RI p2 0 4 → RJ p3 (-9223372036854775808) 9223372036854775807 → RI x5 0 4 → NFD w0 p0 p1 x5 p3 → ARL Ps w0 p0 41 s0 → f_X10_findIn__9_3 p1 p2 p3 nf x5 s0 = R9 → WD D cy GG A s wr_X10_findIn__13 wa_X10_findIn__13 Ps w0 Ps w0 H locs → lv_has ls 6 [(0, .ref p0), (1, .int p1), (2, .int p2), (3, .long p3), (5, .int x5)] → W p l e (headSpec (Cond.code yX10_findIn cX10_findIn 6 (some .int) :: gT) ({ frames := 0, cells := 0, slots := 0, locals := 200 } : Room)).room s m ([.ref p0, .int p1, .int p2, .long p3] : List Value).toArray below meth c H locs 0 0 Q (F0 m 3 ls []) := by
    intro nf3
    induction nf3 with
    | zero =>
      intro x5 s0 H locs ls hn3 r_p1 r_p2 r_p3 r_x5 x_NF_p0_p1__5_p3 o_p0 hE hw hl
      exact absurd hn3 (by have q0 := r_x5.1; have u0 := r_x5.2; omega)
    | succ nf3 ih3 =>
      intro x5 s0 H locs ls hn3 r_p1 r_p2 r_p3 r_x5 x_NF_p0_p1__5_p3 o_p0 hE hw hl
      refine lv_iload hx hb dX10_findIn_3 (lv_at hl 4 rfl) ?_
      refine lv_iload_n hx hb dX10_findIn_5 rfl (lv_at hl 2 rfl) ?_
      refine lv_icmp_ge (tgt := 29) hx hb dX10_findIn_6 (by decide) (fun c_6 => ?_) (fun c_6 => ?_)
      · have x_NF_p0_p1_p2_p3 : NFD w0 p0 p1 p2 p3 := NFD.mono x_NF_p0_p1__5_p3 c_6
        refine lv_iconst (v := (-1)) hx hb dX10_findIn_29 (by decide) ?_
        simp only [f_X10_findIn__9_3, ↓reduceIte, eq_true c_6] at hE
        subst hQ
        exact W.iret (v := (-1)) hx hb hr (fun t ht hW => ⟨⟨(-1), (), rfl, ⟨⟨(by rw [hR, ← hE]), trivial⟩, rl_m1.to (by decide), (fun _ => trivial), (fun h0 => trivial), trivial, (fun h0 => ⟨x_NF_p0_p1_p2_p3, trivial⟩), (fun h0 => absurd h0 (by have h8 := rl_m1; unfold RI at h8; omega))⟩, by rw [ht]; exact hw.2.1, va_K.moved hW.alike hK, hw.2.2.1⟩, hw.2.2.2.1.F ht⟩) hw.2.2.2.1.2.2 dX10_findIn_30
      · have r_x5 : RI x5 0 3 := rc_lt1 r_x5 r_p2 (ti_nle c_6) (by decide)
        have r_p2 : RI p2 1 4 := rc_lt2 r_x5 r_p2 (ti_nle c_6) (by decide)
        refine lv_aload_n hx hb dX10_findIn_9 rfl (lv_at hl 0 rfl) ?_
        refine lv_iload_n hx hb dX10_findIn_10 rfl (lv_at hl 1 rfl) ?_
        refine lv_iload hx hb dX10_findIn_11 (lv_at hl 4 rfl) ?_
        refine lv_iadd hx hb dX10_findIn_13 (lv_topi (fun v_1 e_v_1 => ?_))
        obtain ⟨t_v_1, r_v_1⟩ := tq_add (lo := 6) (hi := 9) r_p1 r_x5 (by decide +kernel) e_v_1
        have q_v_1 : p1 + x5 = v_1 := e_v_1.symm
        refine tg_laldE hx hb hK hw h_p0 rfl r_v_1 (by decide) dX10_findIn_14 (fun w_2 r_w_2 l_w_2 => ?_)
        have q_w_2 : s0 (Int32.toNatClampNeg v_1) = w_2 := ARL.lel hw.2.2.1 o_p0 l_w_2
        refine lv_lload_n hx hb dX10_findIn_15 rfl (lv_at hl 3 rfl) ?_
        refine W.lcmp hx hb dX10_findIn_16 (lv_topi (fun v_3 e_v_3 => ?_))
        have r_v_3 := ri_any v_3
        have q_v_3 : lg_cmp w_2 p3 = v_3 := e_v_3.symm
        refine lv_if_ne (tgt := 23) hx hb dX10_findIn_17 (by decide) (fun c_17 => ?_) (fun c_17 => ?_)
        · obtain ⟨v_4, e_v_4⟩ : ∃ q9 : Int32, q9 = x5 + Int32.ofInt 1 := ⟨_, rfl⟩
          obtain ⟨t_v_4, r_v_4⟩ := tq_add (lo := 1) (hi := 4) r_x5 (show RI (Int32.ofInt 1) 1 1 by unfold RI; decide +kernel) (by decide +kernel) e_v_4
          have t_v_4 : v_4.toInt = x5.toInt + 1 := t_v_4
          refine lv_iinc (v := v_4) (lv' := [(5, .int v_4), (0, .ref p0), (1, .int p1), (2, .int p2), (3, .long p3)]) hx hb dX10_findIn_23 hl (k := 4) rfl e_v_4.symm (by decide) rfl (fun ls hl => ?_)
          have q_v_4 : x5 + (1 : Int32) = v_4 := by rw [e_v_4, show Int32.ofInt 1 = (1 : Int32) by decide]
          refine lv_goto (tgt := 3) hx hb dX10_findIn_26 (by decide) ?_
          simp only [f_X10_findIn__9_3, ↓reduceIte, eq_false c_6, q_v_1, q_w_2, q_v_3, eq_false c_17, q_v_4] at hE
          have x_NF_p0_p1_v_4_p3 : NFD w0 p0 p1 v_4 p3 := NFD.step hw x_NF_p0_p1__5_p3 l_w_2 (by have k1 := r_v_1.cl (by decide); have k2 := r_p1.cl (by decide); have k3 := r_x5.cl (by decide); omega) (lcmp_ne e_v_3 c_17) t_v_4 r_x5.1
          exact ih3 v_4 s0 _ _ ls (by have q0 := r_v_4.1; have u0 := r_v_4.2; have o0 := r_x5.1; have p0 := r_x5.2; omega) r_p1 (r_p2.to (by decide)) r_p3 (r_v_4.to (by decide)) x_NF_p0_p1_v_4_p3 o_p0 hE hw (lv_sub hl [1, 2, 3, 4, 0] rfl)
        · have r_v_3 : RI v_3 0 0 := rc_eq1 r_v_3 rl_0 (ti_eq c_17) (by decide)
          have x_FD_p0_p1_p2_p3 : FDD w0 p0 p1 p2 p3 := FDD.mk l_w_2 (by have k1 := r_v_1.cl (by decide); have k2 := r_p1.cl (by decide); have k3 := r_x5.cl (by decide); omega) (lcmp_eq e_v_3 c_17) (ti_nle c_6) r_x5.1
          have x_POS_p2 : 1 ≤ Int32.toInt p2 := by have k1 := ti_nle c_6; have k2 := r_x5.1; omega
          refine lv_iload hx hb dX10_findIn_20 (lv_at hl 4 rfl) ?_
          simp only [f_X10_findIn__9_3, ↓reduceIte, eq_false c_6, q_v_1, q_w_2, q_v_3, eq_true c_17] at hE
          subst hQ
          exact W.iret (v := x5) hx hb hr (fun t ht hW => ⟨⟨x5, (), rfl, ⟨⟨(by rw [hR, ← hE]), trivial⟩, r_x5.to (by decide), (fun h0 => trivial), (fun h0 => trivial), trivial, (fun h0 => absurd h0 (by have h8 := r_x5; unfold RI at h8; omega)), (fun h0 => ⟨x_FD_p0_p1_p2_p3, x_POS_p2, trivial⟩)⟩, by rw [ht]; exact hw.2.1, va_K.moved hW.alike hK, hw.2.2.1⟩, hw.2.2.2.1.F ht⟩) hw.2.2.2.1.2.2 dX10_findIn_22
  refine lv_iconst (v := 0) hx hb dX10_findIn_0 (by decide) ?_
  refine lv_istore (lv' := [(5, .int 0), (0, .ref p0), (1, .int p1), (2, .int p2), (3, .long p3)]) hx hb dX10_findIn_1 hl (by decide) rfl (fun ls hl => ?_)
  simp only [f_X10_findIn__9, ↓reduceIte] at hE
  have x_NF_p0_p1_0_p3 : NFD w0 p0 p1 0 p3 := NFD.zero hw h_p0 rfl
  exact B3 4294967298 0 s0 _ _ ls (by have q0 := rl_0.1; have u0 := rl_0.2; omega) r_p1 r_p2 r_p3 (rl_0.to (by decide)) x_NF_p0_p1_0_p3 o_p0 hE hw (lv_sub hl [1, 2, 3, 4, 0] rfl)
abbrev wr_X10_readNamed__3 : List (Nat × Nat) := [(10, 5), (10, 6), (10, 7), (10, 8), (10, 9), (10, 10), (10, 11), (10, 12), (10, 13)]
abbrev wa_X10_readNamed__3 : List Nat := []
set_option maxHeartbeats 4000000 in
set_option maxRecDepth 100000 in
theorem c_X10_readNamed__3 (l : Launch) (D : va_G) (cy : Nat → ClassId) (z : Nat → Nat) (sz : Nat) (Ps : PSI) (w0 : va_W) (hT : HT cy GG Ps w0) (p0 : Nat) (p1 : Int32) (p2 : Int32) (s0 : OS) (h_p0 : (p0, 55) ∈ Ps) (r_p1 : RI p1 6 6) (r_p2 : RI p2 0 4) (o_p0 : OV vw_M2 Ps w0 p0 s0) : Met l yX10_readNamed (Cond.code yX10_readNamed cX10_readNamed 3 (some .boolean) :: gT) ({ frames := 4, cells := 0, slots := 0, locals := 800 } : Room) (va_Pc [.ref p0, .int p1, .int p2] (PRE D cy z w0 sz)) (va_Qi (fun (r : Int32) (u : va_W) => ((OV vw_M2 Ps u p0 ((f_X10_readNamed__3 p1 p2 s0).1) ∧ (f_X10_readNamed__3 p1 p2 s0).2 = r ∧ True) ∧ (RI r 0 1 ∧ (r = 0 → True) ∧ (¬ r = 0 → RI p2 1 4 ∧ (∃ v9 : Int32, FLD u p0 10 13 (.int v9) ∧ RI v9 0 3) ∧ True))) ∧ HT cy GG Ps u ∧ FR wr_X10_readNamed__3 wa_X10_readNamed__3 Ps w0 u) (BB D cy (va_A w0 sz) (fun (u : va_W) => u)) (va_A w0 sz)) 0 0 (va_A w0 sz) := by
  refine Met.ofW (cc := cX10_readNamed) (maxL := 3) (ret := (some .boolean)) (by decide) rfl ?_
  intro p e s m args below meth c s₁ B hml hv
  obtain ⟨rfl, hsz, hP, hK, hD0, hSD⟩ := hv
  have hx := B.exec
  have hb := B.bytes
  have hr := B.returns
  have hlocks := B.notSynchronized
  have hts : ∀ w ∈ gT, w.before _ s = true := fun w h => atoms_spec (ws := Cond.code yX10_readNamed cX10_readNamed 3 (some .boolean) :: gT) B.pre w (List.mem_cons_of_mem _ h)
  have hown : s.vm.findClass RX10 = some m.cls := findClass_of_methodNamed B.named
  subst hsz
  have hD := hD0.self (sz := s.heap.size)
  generalize hAe : va_A w0 s.heap.size = A at hD hSD ⊢
  have hA : ∀ q : Nat, s.heap.size ≤ q → A q := fun q h => by rw [← hAe]; exact Or.inr h
  have hl := lv_entry ([.ref p0, .int p1, .int p2]) (n := 3) (Nat.le_of_ble_eq_true rfl)
  rw [lg_entry_eq]
  generalize (lg_sl ([.ref p0, .int p1, .int p2]) ++ List.replicate (3 - (lg_sl ([.ref p0, .int p1, .int p2])).length) Slot.unset).toArray = ls at hl ⊢
  have hl : lv_has ls 3 [(0, .ref p0), (1, .int p1), (2, .int p2)] := hl
  refine nameQ (fun Q hQ => ?_)
  have hw : WD D cy GG A s wr_X10_readNamed__3 wa_X10_readNamed__3 Ps w0 Ps w0 s.heap [] := ⟨hT, hP, hD, va_S.rf, FR.rf, hT.1, [], (List.append_nil _).symm⟩
  obtain ⟨R9, hR⟩ : ∃ q9 : OS × Int32, f_X10_readNamed__3 p1 p2 s0 = q9 := ⟨_, rfl⟩
  have hE := hR
  refine lv_aload_n hx hb dX10_readNamed_0 rfl (lv_at hl 0 rfl) ?_
  refine tk_ir (va_runV (As := []) (rest := []) ⟨hx, hb, hml, hown, hts⟩ (c_X10_isName__2 l D cy z s.heap.size Ps w0 hw.1 p0 s0 h_p0 o_p0) (cwV 0 hts (gV tw_1344 tw_1346 ts_48 tw_15 tw_1347) rfl rfl rfl (by decide +kernel) ⟨Nat.le_of_ble_eq_true rfl, Nat.le_of_ble_eq_true rfl⟩) (tg_preV hw hK hSD hA (ci := 10) (q := (RX10, TX10, 49)) rfl h_p0 rfl) rfl rfl hl.1 rfl (lv_room (Nat.le_of_ble_eq_true rfl)) dX10_readNamed_1 ⟨Nat.le_of_ble_eq_true rfl, Nat.le_of_ble_eq_true rfl⟩) hw hA (fun v_1  H locs hp_v_1 hw => ?_)
  obtain ⟨hfn, hp_v_1⟩ := hp_v_1
  have q_v_1 : (f_X10_isName__1 s0) = v_1 := hfn.1
  have r_v_1 : RI v_1 0 1 := hp_v_1.1
  refine lv_if_ne (tgt := 13) hx hb dX10_readNamed_4 (by decide) (fun c_4 => ?_) (fun c_4 => ?_)
  · have r_v_1 : RI v_1 1 1 := rc_neL r_v_1 rl_0 (ti_ne c_4) (by decide)
    refine lv_aload_n hx hb dX10_readNamed_13 rfl (lv_at hl 0 rfl) ?_
    refine lv_aload_n hx hb dX10_readNamed_14 rfl (lv_at hl 0 rfl) ?_
    refine tg_get (ci := 10) (ts := ty_MODEL) (C := RX10) (T := TX10) (N := 49) hx hb hts inX10 hown hK hw h_p0 rfl rfl 20 (by decide) (hts _ tw_1157) (fun _ h9 => h9) (ft := vR 41) rfl dX10_readNamed_15 (fun u_2 hv_u_2 m_u_2 => ?_)
    obtain ⟨vu_2, rfl, h_vu_2⟩ := hv_u_2
    refine lv_iload_n hx hb dX10_readNamed_18 rfl (lv_at hl 1 rfl) ?_
    refine lv_iload_n hx hb dX10_readNamed_19 rfl (lv_at hl 2 rfl) ?_
    refine lv_aload_n hx hb dX10_readNamed_20 rfl (lv_at hl 0 rfl) ?_
    refine tg_get (ci := 10) (ts := ty_MODEL) (C := RX10) (T := TX10) (N := 49) hx hb hts inX10 hown hK hw h_p0 rfl rfl 12 (by decide) (hts _ tw_1149) (fun _ h9 => h9) (ft := vJ (-9223372036854775808) 9223372036854775807) rfl dX10_readNamed_21 (fun u_3 hv_u_3 m_u_3 => ?_)
    obtain ⟨vu_3, rfl, r_vu_3⟩ := hv_u_3
    have q_vu_3 : s0.2.1 12 = vu_3 := OV.eqL (V := vw_M2) hw.2.2.1 o_p0 m_u_3 (by decide)
    have oa_vu_2 := OV.arrB (V := vw_M2) (t := 41) hw.2.2.1 o_p0 m_u_2 (by decide)
    have mo9_vu_2 := And.intro hw.2.2.1 m_u_2
    refine tk_ir (va_runS (As := [.ref vu_2, .int p1, .int p2, .long vu_3]) (rest := [.ref p0]) ⟨hx, hb, hml, hown, hts⟩ (c_X10_findIn__13 l D cy z H.size Ps w0 hw.1 vu_2 p1 p2 vu_3 (s0.2.2.2 20) h_vu_2 r_p1 r_p2 r_vu_3 oa_vu_2) (va_cwS 4 hts (gS tw_1352 tw_1353 tw_15 tw_1354) rfl rfl rfl (by decide +kernel) ⟨Nat.le_of_ble_eq_true rfl, Nat.le_of_ble_eq_true rfl⟩) (tg_preS hw hK hSD hA) rfl rfl hl.1 rfl (lv_room (Nat.le_of_ble_eq_true rfl)) dX10_readNamed_24 ⟨Nat.le_of_ble_eq_true rfl, Nat.le_of_ble_eq_true rfl⟩) hw hA (fun v_4  H locs hp_v_4 hw => ?_)
    obtain ⟨hfn, hp_v_4⟩ := hp_v_4
    have q_v_4 : (f_X10_findIn__9 p1 p2 vu_3 (s0.2.2.2 20)) = v_4 := hfn.1
    have r_v_4 : RI v_4 (-1) 3 := hp_v_4.1
    by_cases c9_v_4 : v_4.toInt < 0
    · have r_v_4 : RI v_4 (-1) (-1) := by unfold RI at r_v_4 ⊢; omega
      have x_NF_vu_2_p1_p2_vu_3 := (hp_v_4.2.2.2.2.1 (by omega)).1
      have hw8 := hw
      refine tg_put (ci := 10) (ts := ty_MODEL) (v := .int v_4) (ty := .int) (C := RX10) (T := TX10) (N := 49) hx hb hts inX10 tyX10 tyX10_ok nmX10 hown hK hw h_p0 rfl rfl 13 (by decide) (hts _ tw_1150) (fun _ h9 => h9) rfl (by decide +kernel) rfl rfl (ft := vI (-2147483648) 2147483647) rfl ⟨_, rfl, (r_v_4.to (by decide))⟩ (by decide) dX10_readNamed_27 (fun ws H locs hw n_k_5 hF9 => ?_)
      have m_u_2 := FLD.over hF9 m_u_2 (by decide)
      have m_u_3 := FLD.over hF9 m_u_3 (by decide)
      have x_NF_vu_2_p1_p2_vu_3 := NFD.over hw8 hF9 h_vu_2 x_NF_vu_2_p1_p2_vu_3 (by decide)
      obtain ⟨sg_6, q_sg_6⟩ : ∃ q9 : OS, sI s0 13 v_4 = q9 := ⟨_, rfl⟩
      have o_p0 : OV vw_M2 Ps ws p0 sg_6 := by rw [← q_sg_6]; exact OV.putI (V := vw_M2) hF9 n_k_5 o_p0 (by decide)
      refine lv_aload_n hx hb dX10_readNamed_30 rfl (lv_at hl 0 rfl) ?_
      refine tg_mem (ci := 10) (C := RX10) (T := TX10) (N := 49) hx hb hts inX10 hown hK hw 13 n_k_5 rfl (by decide) (hts _ tw_1150) (fun _ h9 => h9) dX10_readNamed_31 ?_
      refine lv_iconst (v := (-1)) hx hb dX10_readNamed_34 (by decide) ?_
      refine lv_icmp_ne (tgt := 44) hx hb dX10_readNamed_35 (by decide) (fun c_35 => ?_) (fun c_35 => ?_)
      · exact absurd (r_v_4.eq.trans rl_m1.eq.symm) ((ti_ne c_35))
      · refine lv_aload_n hx hb dX10_readNamed_38 rfl (lv_at hl 0 rfl) ?_
        refine lv_iconst (v := 3) hx hb dX10_readNamed_39 (by decide) ?_
        have hw8 := hw
        refine tk_i (va_runV (As := [.int 3]) (rest := []) ⟨hx, hb, hml, hown, hts⟩ (c_X10_bad__2 l D cy z H.size Ps ws hw.1 p0 3 sg_6 h_p0 (rl_3.to (by decide)) o_p0) (cwV 1 hts (gV tw_1336 tw_1338 ts_46 tw_15 tw_1339) rfl rfl rfl (by decide +kernel) ⟨Nat.le_of_ble_eq_true rfl, Nat.le_of_ble_eq_true rfl⟩) (tg_preV hw hK hSD hA (ci := 10) (q := (RX10, TX10, 49)) rfl h_p0 rfl) rfl rfl hl.1 rfl (lv_room (Nat.le_of_ble_eq_true rfl)) dX10_readNamed_40 ⟨Nat.le_of_ble_eq_true rfl, Nat.le_of_ble_eq_true rfl⟩) hw hA ⟨by decide, by decide⟩ (fun v_7 ws H locs hp_v_7 hw hF9 => ?_)
        have m_u_2 := FLD.over hF9 m_u_2 (by decide)
        have m_u_3 := FLD.over hF9 m_u_3 (by decide)
        have n_k_5 := FLD.over hF9 n_k_5 (by decide)
        have x_NF_vu_2_p1_p2_vu_3 := NFD.over hw8 hF9 h_vu_2 x_NF_vu_2_p1_p2_vu_3 (by decide)
        obtain ⟨hfn, hp_v_7⟩ := hp_v_7
        obtain ⟨sg_8, q_sg_8⟩ : ∃ q9 : OS, (f_X10_bad__1 (3 : Int32) sg_6).1 = q9 := ⟨_, rfl⟩
        have o_p0 : OV vw_M2 Ps ws p0 sg_8 := by rw [← q_sg_8]; exact hfn.1
        have q_v_7 : (f_X10_bad__1 (3 : Int32) sg_6).2 = v_7 := hfn.2.1
        have r_v_7 : RI v_7 0 0 := hp_v_7.1
        simp only [f_X10_readNamed__3, ↓reduceIte, q_v_1, eq_false c_4, q_vu_3, q_v_4, eq_true c9_v_4, q_sg_6, eq_true c_35, q_sg_8, q_v_7] at hE
        subst hQ
        exact W.zret (v := v_7) hx hb hr (tq_nz (r_v_7.to (by decide))) (fun t ht hW => ⟨⟨v_7, ws, rfl, ⟨⟨⟨(by rw [hR, ← hE]; exact o_p0), (by rw [hR, ← hE]), trivial⟩, r_v_7.to (by decide), (fun h0 => trivial), (fun h0 => absurd (Int32.toInt_inj.mp (by have h8 := r_v_7; unfold RI at h8; rw [Int32.toInt_zero]; omega)) h0)⟩, hw.1, hw.2.2.2.2.1⟩, by rw [ht]; exact hw.2.1, va_K.moved hW.alike hK, hw.2.2.1⟩, hw.2.2.2.1.F ht⟩) hw.2.2.2.1.2.2 dX10_readNamed_43
    · have r_v_4 : RI v_4 0 3 := by unfold RI at r_v_4 ⊢; omega
      have x_FD_vu_2_p1_p2_vu_3 := (hp_v_4.2.2.2.2.2 (by omega)).1
      have x_POS_p2 := (hp_v_4.2.2.2.2.2 (by omega)).2.1
      have r_p2 : RI p2 1 4 := ⟨x_POS_p2, r_p2.2⟩
      have hw8 := hw
      refine tg_put (ci := 10) (ts := ty_MODEL) (v := .int v_4) (ty := .int) (C := RX10) (T := TX10) (N := 49) hx hb hts inX10 tyX10 tyX10_ok nmX10 hown hK hw h_p0 rfl rfl 13 (by decide) (hts _ tw_1150) (fun _ h9 => h9) rfl (by decide +kernel) rfl rfl (ft := vI (-2147483648) 2147483647) rfl ⟨_, rfl, (r_v_4.to (by decide))⟩ (by decide) dX10_readNamed_27 (fun ws H locs hw n_k_9 hF9 => ?_)
      have m_u_2 := FLD.over hF9 m_u_2 (by decide)
      have m_u_3 := FLD.over hF9 m_u_3 (by decide)
      have x_FD_vu_2_p1_p2_vu_3 := FDD.over hw8 hF9 h_vu_2 x_FD_vu_2_p1_p2_vu_3 (by decide)
      obtain ⟨sg_10, q_sg_10⟩ : ∃ q9 : OS, sI s0 13 v_4 = q9 := ⟨_, rfl⟩
      have o_p0 : OV vw_M2 Ps ws p0 sg_10 := by rw [← q_sg_10]; exact OV.putI (V := vw_M2) hF9 n_k_9 o_p0 (by decide)
      refine lv_aload_n hx hb dX10_readNamed_30 rfl (lv_at hl 0 rfl) ?_
      refine tg_mem (ci := 10) (C := RX10) (T := TX10) (N := 49) hx hb hts inX10 hown hK hw 13 n_k_9 rfl (by decide) (hts _ tw_1150) (fun _ h9 => h9) dX10_readNamed_31 ?_
      refine lv_iconst (v := (-1)) hx hb dX10_readNamed_34 (by decide) ?_
      refine lv_icmp_ne (tgt := 44) hx hb dX10_readNamed_35 (by decide) (fun c_35 => ?_) (fun c_35 => ?_)
      · refine lv_aload_n hx hb dX10_readNamed_44 rfl (lv_at hl 0 rfl) ?_
        have hw8 := hw
        refine tk_v (va_runV (As := []) (rest := []) ⟨hx, hb, hml, hown, hts⟩ (c_X10_go__4 l D cy z H.size Ps ws hw.1 p0 sg_10 h_p0 o_p0) (cwV 0 hts (gV tw_1298 tw_1300 ts_40 tw_15 tw_1301) rfl rfl rfl (by decide +kernel) ⟨Nat.le_of_ble_eq_true rfl, Nat.le_of_ble_eq_true rfl⟩) (tg_preV hw hK hSD hA (ci := 10) (q := (RX10, TX10, 49)) rfl h_p0 rfl) rfl rfl hl.1 rfl (lv_room (Nat.le_of_ble_eq_true rfl)) dX10_readNamed_45 ⟨Nat.le_of_ble_eq_true rfl, Nat.le_of_ble_eq_true rfl⟩) hw hA ⟨by decide, by decide⟩ (fun ws H locs hp_v_11 hw hF9 => ?_)
        have m_u_2 := FLD.over hF9 m_u_2 (by decide)
        have n_k_9 := FLD.over hF9 n_k_9 (by decide)
        have x_FD_vu_2_p1_p2_vu_3 := FDD.over hw8 hF9 h_vu_2 x_FD_vu_2_p1_p2_vu_3 (by decide)
        obtain ⟨hfn, hp_v_11⟩ := hp_v_11
        obtain ⟨sg_12, q_sg_12⟩ : ∃ q9 : OS, (f_X10_go__2 sg_10) = q9 := ⟨_, rfl⟩
        have o_p0 : OV vw_M2 Ps ws p0 sg_12 := by rw [← q_sg_12]; exact hfn.1
        refine lv_iconst (v := 1) hx hb dX10_readNamed_48 (by decide) ?_
        simp only [f_X10_readNamed__3, ↓reduceIte, q_v_1, eq_false c_4, q_vu_3, q_v_4, eq_false c9_v_4, q_sg_10, eq_false c_35, q_sg_12] at hE
        subst hQ
        exact W.zret (v := 1) hx hb hr (rfl) (fun t ht hW => ⟨⟨1, ws, rfl, ⟨⟨⟨(by rw [hR, ← hE]; exact o_p0), (by rw [hR, ← hE]), trivial⟩, rl_1.to (by decide), (fun _ => trivial), (fun h0 => ⟨r_p2, ⟨_, n_k_9, r_v_4⟩, trivial⟩)⟩, hw.1, hw.2.2.2.2.1⟩, by rw [ht]; exact hw.2.1, va_K.moved hW.alike hK, hw.2.2.1⟩, hw.2.2.2.1.F ht⟩) hw.2.2.2.1.2.2 dX10_readNamed_49
      · have r_v_4 : RI v_4 0 (-1) := rc_eq1 r_v_4 rl_m1 (ti_eq c_35) (by decide)
        exact (r_v_4.no (by decide)).elim
  · have r_v_1 : RI v_1 0 0 := rc_eq1 r_v_1 rl_0 (ti_eq c_4) (by decide)
    refine lv_aload_n hx hb dX10_readNamed_7 rfl (lv_at hl 0 rfl) ?_
    refine lv_iconst (v := 1) hx hb dX10_readNamed_8 (by decide) ?_
    refine tk_i (va_runV (As := [.int 1]) (rest := []) ⟨hx, hb, hml, hown, hts⟩ (c_X10_bad__2 l D cy z H.size Ps w0 hw.1 p0 1 s0 h_p0 (rl_1.to (by decide)) o_p0) (cwV 1 hts (gV tw_1336 tw_1338 ts_46 tw_15 tw_1339) rfl rfl rfl (by decide +kernel) ⟨Nat.le_of_ble_eq_true rfl, Nat.le_of_ble_eq_true rfl⟩) (tg_preV hw hK hSD hA (ci := 10) (q := (RX10, TX10, 49)) rfl h_p0 rfl) rfl rfl hl.1 rfl (lv_room (Nat.le_of_ble_eq_true rfl)) dX10_readNamed_9 ⟨Nat.le_of_ble_eq_true rfl, Nat.le_of_ble_eq_true rfl⟩) hw hA ⟨by decide, by decide⟩ (fun v_13 ws H locs hp_v_13 hw hF9 => ?_)
    obtain ⟨hfn, hp_v_13⟩ := hp_v_13
    obtain ⟨sg_14, q_sg_14⟩ : ∃ q9 : OS, (f_X10_bad__1 (1 : Int32) s0).1 = q9 := ⟨_, rfl⟩
    have o_p0 : OV vw_M2 Ps ws p0 sg_14 := by rw [← q_sg_14]; exact hfn.1
    have q_v_13 : (f_X10_bad__1 (1 : Int32) s0).2 = v_13 := hfn.2.1
    have r_v_13 : RI v_13 0 0 := hp_v_13.1
    simp only [f_X10_readNamed__3, ↓reduceIte, q_v_1, eq_true c_4, q_sg_14, q_v_13] at hE
    subst hQ
    exact W.zret (v := v_13) hx hb hr (tq_nz (r_v_13.to (by decide))) (fun t ht hW => ⟨⟨v_13, ws, rfl, ⟨⟨⟨(by rw [hR, ← hE]; exact o_p0), (by rw [hR, ← hE]), trivial⟩, r_v_13.to (by decide), (fun h0 => trivial), (fun h0 => absurd (Int32.toInt_inj.mp (by have h8 := r_v_13; unfold RI at h8; rw [Int32.toInt_zero]; omega)) h0)⟩, hw.1, hw.2.2.2.2.1⟩, by rw [ht]; exact hw.2.1, va_K.moved hW.alike hK, hw.2.2.1⟩, hw.2.2.2.1.F ht⟩) hw.2.2.2.1.2.2 dX10_readNamed_12
abbrev wr_X10_findIn__14 : List (Nat × Nat) := []
abbrev wa_X10_findIn__14 : List Nat := []
set_option maxHeartbeats 4000000 in
set_option maxRecDepth 100000 in
theorem c_X10_findIn__14 (l : Launch) (D : va_G) (cy : Nat → ClassId) (z : Nat → Nat) (sz : Nat) (Ps : PSI) (w0 : va_W) (hT : HT cy GG Ps w0) (p0 : Nat) (p1 : Int32) (p2 : Int32) (p3 : Int64) (s0 : Nat → Int64) (h_p0 : (p0, 41) ∈ Ps) (r_p1 : RI p1 0 0) (r_p2 : RI p2 0 6) (r_p3 : RJ p3 (-9223372036854775808) 9223372036854775807) (o_p0 : ARL Ps w0 p0 41 s0) : Met l yX10_findIn (Cond.code yX10_findIn cX10_findIn 6 (some .int) :: gT) ({ frames := 0, cells := 0, slots := 0, locals := 200 } : Room) (va_Pc [.ref p0, .int p1, .int p2, .long p3] (PRE D cy z w0 sz)) (va_Qi (fun (r : Int32) (u : Unit) => ((f_X10_findIn__9 p1 p2 p3 s0) = r ∧ True) ∧ (RI r (-1) 5 ∧ (r = 0 → True) ∧ (¬ r = 0 → True) ∧ (True) ∧ (r.toInt < 0 → NFD w0 p0 p1 p2 p3 ∧ True) ∧ (0 ≤ r.toInt → FDD w0 p0 p1 p2 p3 ∧ 1 ≤ Int32.toInt p2 ∧ True))) (BB D cy (va_A w0 sz) (fun (u : Unit) => w0)) (va_A w0 sz)) 0 0 (va_A w0 sz) := by
  refine Met.ofW (cc := cX10_findIn) (maxL := 6) (ret := (some .int)) (by decide) rfl ?_
  intro p e s m args below meth c s₁ B hml hv
  obtain ⟨rfl, hsz, hP, hK, hD0, hSD⟩ := hv
  have hx := B.exec
  have hb := B.bytes
  have hr := B.returns
  have hlocks := B.notSynchronized
  have hts : ∀ w ∈ gT, w.before _ s = true := fun w h => atoms_spec (ws := Cond.code yX10_findIn cX10_findIn 6 (some .int) :: gT) B.pre w (List.mem_cons_of_mem _ h)
  have hown : s.vm.findClass RX10 = some m.cls := findClass_of_methodNamed B.named
  subst hsz
  have hD := hD0.self (sz := s.heap.size)
  generalize hAe : va_A w0 s.heap.size = A at hD hSD ⊢
  have hA : ∀ q : Nat, s.heap.size ≤ q → A q := fun q h => by rw [← hAe]; exact Or.inr h
  have hl := lv_entry ([.ref p0, .int p1, .int p2, .long p3]) (n := 6) (Nat.le_of_ble_eq_true rfl)
  rw [lg_entry_eq]
  generalize (lg_sl ([.ref p0, .int p1, .int p2, .long p3]) ++ List.replicate (6 - (lg_sl ([.ref p0, .int p1, .int p2, .long p3])).length) Slot.unset).toArray = ls at hl ⊢
  have hl : lv_has ls 6 [(0, .ref p0), (1, .int p1), (2, .int p2), (3, .long p3)] := hl
  refine nameQ (fun Q hQ => ?_)
  have hw : WD D cy GG A s wr_X10_findIn__14 wa_X10_findIn__14 Ps w0 Ps w0 s.heap [] := ⟨hT, hP, hD, va_S.rf, FR.rf, hT.1, [], (List.append_nil _).symm⟩
  obtain ⟨R9, hR⟩ : ∃ q9 : Int32, f_X10_findIn__9 p1 p2 p3 s0 = q9 := ⟨_, rfl⟩
  have hE := hR
  have B3 : ∀ (nf : Nat) (x5 : Int32) (s0 : Nat → Int64) (H : Heap) (locs : List Loc) (ls : Array Slot), 6 - x5.toInt < (nf : Int) → RI p1 0 0 → RI p2 0 6 → RJ p3 (-9223372036854775808) 9223372036854775807 → RI x5 0 6 → NFD w0 p0 p1 x5 p3 → ARL Ps w0 p0 41 s0 → f_X10_findIn__9_3 p1 p2 p3 nf x5 s0 = R9 → WD D cy GG A s wr_X10_findIn__14 wa_X10_findIn__14 Ps w0 Ps w0 H locs → lv_has ls 6 [(0, .ref p0), (1, .int p1), (2, .int p2), (3, .long p3), (5, .int x5)] → W p l e (headSpec (Cond.code yX10_findIn cX10_findIn 6 (some .int) :: gT) ({ frames := 0, cells := 0, slots := 0, locals := 200 } : Room)).room s m ([.ref p0, .int p1, .int p2, .long p3] : List Value).toArray below meth c H locs 0 0 Q (F0 m 3 ls []) := by
    intro nf3
    induction nf3 with
    | zero =>
      intro x5 s0 H locs ls hn3 r_p1 r_p2 r_p3 r_x5 x_NF_p0_p1__5_p3 o_p0 hE hw hl
      exact absurd hn3 (by have q0 := r_x5.1; have u0 := r_x5.2; omega)
    | succ nf3 ih3 =>
      intro x5 s0 H locs ls hn3 r_p1 r_p2 r_p3 r_x5 x_NF_p0_p1__5_p3 o_p0 hE hw hl
      refine lv_iload hx hb dX10_findIn_3 (lv_at hl 4 rfl) ?_
      refine lv_iload_n hx hb dX10_findIn_5 rfl (lv_at hl 2 rfl) ?_
      refine lv_icmp_ge (tgt := 29) hx hb dX10_findIn_6 (by decide) (fun c_6 => ?_) (fun c_6 => ?_)
      · have x_NF_p0_p1_p2_p3 : NFD w0 p0 p1 p2 p3 := NFD.mono x_NF_p0_p1__5_p3 c_6
        refine lv_iconst (v := (-1)) hx hb dX10_findIn_29 (by decide) ?_
        simp only [f_X10_findIn__9_3, ↓reduceIte, eq_true c_6] at hE
        subst hQ
        exact W.iret (v := (-1)) hx hb hr (fun t ht hW => ⟨⟨(-1), (), rfl, ⟨⟨(by rw [hR, ← hE]), trivial⟩, rl_m1.to (by decide), (fun _ => trivial), (fun h0 => trivial), trivial, (fun h0 => ⟨x_NF_p0_p1_p2_p3, trivial⟩), (fun h0 => absurd h0 (by have h8 := rl_m1; unfold RI at h8; omega))⟩, by rw [ht]; exact hw.2.1, va_K.moved hW.alike hK, hw.2.2.1⟩, hw.2.2.2.1.F ht⟩) hw.2.2.2.1.2.2 dX10_findIn_30
      · have r_x5 : RI x5 0 5 := rc_lt1 r_x5 r_p2 (ti_nle c_6) (by decide)
        have r_p2 : RI p2 1 6 := rc_lt2 r_x5 r_p2 (ti_nle c_6) (by decide)
        refine lv_aload_n hx hb dX10_findIn_9 rfl (lv_at hl 0 rfl) ?_
        refine lv_iload_n hx hb dX10_findIn_10 rfl (lv_at hl 1 rfl) ?_
        refine lv_iload hx hb dX10_findIn_11 (lv_at hl 4 rfl) ?_
        refine lv_iadd hx hb dX10_findIn_13 (lv_topi (fun v_1 e_v_1 => ?_))
        obtain ⟨t_v_1, r_v_1⟩ := tq_add (lo := 0) (hi := 5) r_p1 r_x5 (by decide +kernel) e_v_1
        have q_v_1 : p1 + x5 = v_1 := e_v_1.symm
        refine tg_laldE hx hb hK hw h_p0 rfl r_v_1 (by decide) dX10_findIn_14 (fun w_2 r_w_2 l_w_2 => ?_)
        have q_w_2 : s0 (Int32.toNatClampNeg v_1) = w_2 := ARL.lel hw.2.2.1 o_p0 l_w_2
        refine lv_lload_n hx hb dX10_findIn_15 rfl (lv_at hl 3 rfl) ?_
        refine W.lcmp hx hb dX10_findIn_16 (lv_topi (fun v_3 e_v_3 => ?_))
        have r_v_3 := ri_any v_3
        have q_v_3 : lg_cmp w_2 p3 = v_3 := e_v_3.symm
        refine lv_if_ne (tgt := 23) hx hb dX10_findIn_17 (by decide) (fun c_17 => ?_) (fun c_17 => ?_)
        · obtain ⟨v_4, e_v_4⟩ : ∃ q9 : Int32, q9 = x5 + Int32.ofInt 1 := ⟨_, rfl⟩
          obtain ⟨t_v_4, r_v_4⟩ := tq_add (lo := 1) (hi := 6) r_x5 (show RI (Int32.ofInt 1) 1 1 by unfold RI; decide +kernel) (by decide +kernel) e_v_4
          have t_v_4 : v_4.toInt = x5.toInt + 1 := t_v_4
          refine lv_iinc (v := v_4) (lv' := [(5, .int v_4), (0, .ref p0), (1, .int p1), (2, .int p2), (3, .long p3)]) hx hb dX10_findIn_23 hl (k := 4) rfl e_v_4.symm (by decide) rfl (fun ls hl => ?_)
          have q_v_4 : x5 + (1 : Int32) = v_4 := by rw [e_v_4, show Int32.ofInt 1 = (1 : Int32) by decide]
          refine lv_goto (tgt := 3) hx hb dX10_findIn_26 (by decide) ?_
          simp only [f_X10_findIn__9_3, ↓reduceIte, eq_false c_6, q_v_1, q_w_2, q_v_3, eq_false c_17, q_v_4] at hE
          have x_NF_p0_p1_v_4_p3 : NFD w0 p0 p1 v_4 p3 := NFD.step hw x_NF_p0_p1__5_p3 l_w_2 (by have k1 := r_v_1.cl (by decide); have k2 := r_p1.cl (by decide); have k3 := r_x5.cl (by decide); omega) (lcmp_ne e_v_3 c_17) t_v_4 r_x5.1
          exact ih3 v_4 s0 _ _ ls (by have q0 := r_v_4.1; have u0 := r_v_4.2; have o0 := r_x5.1; have p0 := r_x5.2; omega) r_p1 (r_p2.to (by decide)) r_p3 (r_v_4.to (by decide)) x_NF_p0_p1_v_4_p3 o_p0 hE hw (lv_sub hl [1, 2, 3, 4, 0] rfl)
        · have r_v_3 : RI v_3 0 0 := rc_eq1 r_v_3 rl_0 (ti_eq c_17) (by decide)
          have x_FD_p0_p1_p2_p3 : FDD w0 p0 p1 p2 p3 := FDD.mk l_w_2 (by have k1 := r_v_1.cl (by decide); have k2 := r_p1.cl (by decide); have k3 := r_x5.cl (by decide); omega) (lcmp_eq e_v_3 c_17) (ti_nle c_6) r_x5.1
          have x_POS_p2 : 1 ≤ Int32.toInt p2 := by have k1 := ti_nle c_6; have k2 := r_x5.1; omega
          refine lv_iload hx hb dX10_findIn_20 (lv_at hl 4 rfl) ?_
          simp only [f_X10_findIn__9_3, ↓reduceIte, eq_false c_6, q_v_1, q_w_2, q_v_3, eq_true c_17] at hE
          subst hQ
          exact W.iret (v := x5) hx hb hr (fun t ht hW => ⟨⟨x5, (), rfl, ⟨⟨(by rw [hR, ← hE]), trivial⟩, r_x5.to (by decide), (fun h0 => trivial), (fun h0 => trivial), trivial, (fun h0 => absurd h0 (by have h8 := r_x5; unfold RI at h8; omega)), (fun h0 => ⟨x_FD_p0_p1_p2_p3, x_POS_p2, trivial⟩)⟩, by rw [ht]; exact hw.2.1, va_K.moved hW.alike hK, hw.2.2.1⟩, hw.2.2.2.1.F ht⟩) hw.2.2.2.1.2.2 dX10_findIn_22
  refine lv_iconst (v := 0) hx hb dX10_findIn_0 (by decide) ?_
  refine lv_istore (lv' := [(5, .int 0), (0, .ref p0), (1, .int p1), (2, .int p2), (3, .long p3)]) hx hb dX10_findIn_1 hl (by decide) rfl (fun ls hl => ?_)
  simp only [f_X10_findIn__9, ↓reduceIte] at hE
  have x_NF_p0_p1_0_p3 : NFD w0 p0 p1 0 p3 := NFD.zero hw h_p0 rfl
  exact B3 4294967298 0 s0 _ _ ls (by have q0 := rl_0.1; have u0 := rl_0.2; omega) r_p1 r_p2 r_p3 (rl_0.to (by decide)) x_NF_p0_p1_0_p3 o_p0 hE hw (lv_sub hl [1, 2, 3, 4, 0] rfl)
abbrev wr_X10_readNamed__4 : List (Nat × Nat) := [(10, 5), (10, 6), (10, 7), (10, 8), (10, 9), (10, 10), (10, 11), (10, 12), (10, 13)]
abbrev wa_X10_readNamed__4 : List Nat := []
set_option maxHeartbeats 4000000 in
set_option maxRecDepth 100000 in
theorem c_X10_readNamed__4 (l : Launch) (D : va_G) (cy : Nat → ClassId) (z : Nat → Nat) (sz : Nat) (Ps : PSI) (w0 : va_W) (hT : HT cy GG Ps w0) (p0 : Nat) (p1 : Int32) (p2 : Int32) (s0 : OS) (h_p0 : (p0, 55) ∈ Ps) (r_p1 : RI p1 0 0) (r_p2 : RI p2 0 6) (o_p0 : OV vw_M2 Ps w0 p0 s0) : Met l yX10_readNamed (Cond.code yX10_readNamed cX10_readNamed 3 (some .boolean) :: gT) ({ frames := 4, cells := 0, slots := 0, locals := 800 } : Room) (va_Pc [.ref p0, .int p1, .int p2] (PRE D cy z w0 sz)) (va_Qi (fun (r : Int32) (u : va_W) => ((OV vw_M2 Ps u p0 ((f_X10_readNamed__3 p1 p2 s0).1) ∧ (f_X10_readNamed__3 p1 p2 s0).2 = r ∧ True) ∧ (RI r 0 1 ∧ (r = 0 → True) ∧ (¬ r = 0 → RI p2 1 6 ∧ (∃ v9 : Int32, FLD u p0 10 13 (.int v9) ∧ RI v9 0 5) ∧ True))) ∧ HT cy GG Ps u ∧ FR wr_X10_readNamed__4 wa_X10_readNamed__4 Ps w0 u) (BB D cy (va_A w0 sz) (fun (u : va_W) => u)) (va_A w0 sz)) 0 0 (va_A w0 sz) := by
  refine Met.ofW (cc := cX10_readNamed) (maxL := 3) (ret := (some .boolean)) (by decide) rfl ?_
  intro p e s m args below meth c s₁ B hml hv
  obtain ⟨rfl, hsz, hP, hK, hD0, hSD⟩ := hv
  have hx := B.exec
  have hb := B.bytes
  have hr := B.returns
  have hlocks := B.notSynchronized
  have hts : ∀ w ∈ gT, w.before _ s = true := fun w h => atoms_spec (ws := Cond.code yX10_readNamed cX10_readNamed 3 (some .boolean) :: gT) B.pre w (List.mem_cons_of_mem _ h)
  have hown : s.vm.findClass RX10 = some m.cls := findClass_of_methodNamed B.named
  subst hsz
  have hD := hD0.self (sz := s.heap.size)
  generalize hAe : va_A w0 s.heap.size = A at hD hSD ⊢
  have hA : ∀ q : Nat, s.heap.size ≤ q → A q := fun q h => by rw [← hAe]; exact Or.inr h
  have hl := lv_entry ([.ref p0, .int p1, .int p2]) (n := 3) (Nat.le_of_ble_eq_true rfl)
  rw [lg_entry_eq]
  generalize (lg_sl ([.ref p0, .int p1, .int p2]) ++ List.replicate (3 - (lg_sl ([.ref p0, .int p1, .int p2])).length) Slot.unset).toArray = ls at hl ⊢
  have hl : lv_has ls 3 [(0, .ref p0), (1, .int p1), (2, .int p2)] := hl
  refine nameQ (fun Q hQ => ?_)
  have hw : WD D cy GG A s wr_X10_readNamed__4 wa_X10_readNamed__4 Ps w0 Ps w0 s.heap [] := ⟨hT, hP, hD, va_S.rf, FR.rf, hT.1, [], (List.append_nil _).symm⟩
  obtain ⟨R9, hR⟩ : ∃ q9 : OS × Int32, f_X10_readNamed__3 p1 p2 s0 = q9 := ⟨_, rfl⟩
  have hE := hR
  refine lv_aload_n hx hb dX10_readNamed_0 rfl (lv_at hl 0 rfl) ?_
  refine tk_ir (va_runV (As := []) (rest := []) ⟨hx, hb, hml, hown, hts⟩ (c_X10_isName__2 l D cy z s.heap.size Ps w0 hw.1 p0 s0 h_p0 o_p0) (cwV 0 hts (gV tw_1344 tw_1346 ts_48 tw_15 tw_1347) rfl rfl rfl (by decide +kernel) ⟨Nat.le_of_ble_eq_true rfl, Nat.le_of_ble_eq_true rfl⟩) (tg_preV hw hK hSD hA (ci := 10) (q := (RX10, TX10, 49)) rfl h_p0 rfl) rfl rfl hl.1 rfl (lv_room (Nat.le_of_ble_eq_true rfl)) dX10_readNamed_1 ⟨Nat.le_of_ble_eq_true rfl, Nat.le_of_ble_eq_true rfl⟩) hw hA (fun v_1  H locs hp_v_1 hw => ?_)
  obtain ⟨hfn, hp_v_1⟩ := hp_v_1
  have q_v_1 : (f_X10_isName__1 s0) = v_1 := hfn.1
  have r_v_1 : RI v_1 0 1 := hp_v_1.1
  refine lv_if_ne (tgt := 13) hx hb dX10_readNamed_4 (by decide) (fun c_4 => ?_) (fun c_4 => ?_)
  · have r_v_1 : RI v_1 1 1 := rc_neL r_v_1 rl_0 (ti_ne c_4) (by decide)
    refine lv_aload_n hx hb dX10_readNamed_13 rfl (lv_at hl 0 rfl) ?_
    refine lv_aload_n hx hb dX10_readNamed_14 rfl (lv_at hl 0 rfl) ?_
    refine tg_get (ci := 10) (ts := ty_MODEL) (C := RX10) (T := TX10) (N := 49) hx hb hts inX10 hown hK hw h_p0 rfl rfl 20 (by decide) (hts _ tw_1157) (fun _ h9 => h9) (ft := vR 41) rfl dX10_readNamed_15 (fun u_2 hv_u_2 m_u_2 => ?_)
    obtain ⟨vu_2, rfl, h_vu_2⟩ := hv_u_2
    refine lv_iload_n hx hb dX10_readNamed_18 rfl (lv_at hl 1 rfl) ?_
    refine lv_iload_n hx hb dX10_readNamed_19 rfl (lv_at hl 2 rfl) ?_
    refine lv_aload_n hx hb dX10_readNamed_20 rfl (lv_at hl 0 rfl) ?_
    refine tg_get (ci := 10) (ts := ty_MODEL) (C := RX10) (T := TX10) (N := 49) hx hb hts inX10 hown hK hw h_p0 rfl rfl 12 (by decide) (hts _ tw_1149) (fun _ h9 => h9) (ft := vJ (-9223372036854775808) 9223372036854775807) rfl dX10_readNamed_21 (fun u_3 hv_u_3 m_u_3 => ?_)
    obtain ⟨vu_3, rfl, r_vu_3⟩ := hv_u_3
    have q_vu_3 : s0.2.1 12 = vu_3 := OV.eqL (V := vw_M2) hw.2.2.1 o_p0 m_u_3 (by decide)
    have oa_vu_2 := OV.arrB (V := vw_M2) (t := 41) hw.2.2.1 o_p0 m_u_2 (by decide)
    have mo9_vu_2 := And.intro hw.2.2.1 m_u_2
    refine tk_ir (va_runS (As := [.ref vu_2, .int p1, .int p2, .long vu_3]) (rest := [.ref p0]) ⟨hx, hb, hml, hown, hts⟩ (c_X10_findIn__14 l D cy z H.size Ps w0 hw.1 vu_2 p1 p2 vu_3 (s0.2.2.2 20) h_vu_2 r_p1 r_p2 r_vu_3 oa_vu_2) (va_cwS 4 hts (gS tw_1352 tw_1353 tw_15 tw_1354) rfl rfl rfl (by decide +kernel) ⟨Nat.le_of_ble_eq_true rfl, Nat.le_of_ble_eq_true rfl⟩) (tg_preS hw hK hSD hA) rfl rfl hl.1 rfl (lv_room (Nat.le_of_ble_eq_true rfl)) dX10_readNamed_24 ⟨Nat.le_of_ble_eq_true rfl, Nat.le_of_ble_eq_true rfl⟩) hw hA (fun v_4  H locs hp_v_4 hw => ?_)
    obtain ⟨hfn, hp_v_4⟩ := hp_v_4
    have q_v_4 : (f_X10_findIn__9 p1 p2 vu_3 (s0.2.2.2 20)) = v_4 := hfn.1
    have r_v_4 : RI v_4 (-1) 5 := hp_v_4.1
    by_cases c9_v_4 : v_4.toInt < 0
    · have r_v_4 : RI v_4 (-1) (-1) := by unfold RI at r_v_4 ⊢; omega
      have x_NF_vu_2_p1_p2_vu_3 := (hp_v_4.2.2.2.2.1 (by omega)).1
      have hw8 := hw
      refine tg_put (ci := 10) (ts := ty_MODEL) (v := .int v_4) (ty := .int) (C := RX10) (T := TX10) (N := 49) hx hb hts inX10 tyX10 tyX10_ok nmX10 hown hK hw h_p0 rfl rfl 13 (by decide) (hts _ tw_1150) (fun _ h9 => h9) rfl (by decide +kernel) rfl rfl (ft := vI (-2147483648) 2147483647) rfl ⟨_, rfl, (r_v_4.to (by decide))⟩ (by decide) dX10_readNamed_27 (fun ws H locs hw n_k_5 hF9 => ?_)
      have m_u_2 := FLD.over hF9 m_u_2 (by decide)
      have m_u_3 := FLD.over hF9 m_u_3 (by decide)
      have x_NF_vu_2_p1_p2_vu_3 := NFD.over hw8 hF9 h_vu_2 x_NF_vu_2_p1_p2_vu_3 (by decide)
      obtain ⟨sg_6, q_sg_6⟩ : ∃ q9 : OS, sI s0 13 v_4 = q9 := ⟨_, rfl⟩
      have o_p0 : OV vw_M2 Ps ws p0 sg_6 := by rw [← q_sg_6]; exact OV.putI (V := vw_M2) hF9 n_k_5 o_p0 (by decide)
      refine lv_aload_n hx hb dX10_readNamed_30 rfl (lv_at hl 0 rfl) ?_
      refine tg_mem (ci := 10) (C := RX10) (T := TX10) (N := 49) hx hb hts inX10 hown hK hw 13 n_k_5 rfl (by decide) (hts _ tw_1150) (fun _ h9 => h9) dX10_readNamed_31 ?_
      refine lv_iconst (v := (-1)) hx hb dX10_readNamed_34 (by decide) ?_
      refine lv_icmp_ne (tgt := 44) hx hb dX10_readNamed_35 (by decide) (fun c_35 => ?_) (fun c_35 => ?_)
      · exact absurd (r_v_4.eq.trans rl_m1.eq.symm) ((ti_ne c_35))
      · refine lv_aload_n hx hb dX10_readNamed_38 rfl (lv_at hl 0 rfl) ?_
        refine lv_iconst (v := 3) hx hb dX10_readNamed_39 (by decide) ?_
        have hw8 := hw
        refine tk_i (va_runV (As := [.int 3]) (rest := []) ⟨hx, hb, hml, hown, hts⟩ (c_X10_bad__2 l D cy z H.size Ps ws hw.1 p0 3 sg_6 h_p0 (rl_3.to (by decide)) o_p0) (cwV 1 hts (gV tw_1336 tw_1338 ts_46 tw_15 tw_1339) rfl rfl rfl (by decide +kernel) ⟨Nat.le_of_ble_eq_true rfl, Nat.le_of_ble_eq_true rfl⟩) (tg_preV hw hK hSD hA (ci := 10) (q := (RX10, TX10, 49)) rfl h_p0 rfl) rfl rfl hl.1 rfl (lv_room (Nat.le_of_ble_eq_true rfl)) dX10_readNamed_40 ⟨Nat.le_of_ble_eq_true rfl, Nat.le_of_ble_eq_true rfl⟩) hw hA ⟨by decide, by decide⟩ (fun v_7 ws H locs hp_v_7 hw hF9 => ?_)
        have m_u_2 := FLD.over hF9 m_u_2 (by decide)
        have m_u_3 := FLD.over hF9 m_u_3 (by decide)
        have n_k_5 := FLD.over hF9 n_k_5 (by decide)
        have x_NF_vu_2_p1_p2_vu_3 := NFD.over hw8 hF9 h_vu_2 x_NF_vu_2_p1_p2_vu_3 (by decide)
        obtain ⟨hfn, hp_v_7⟩ := hp_v_7
        obtain ⟨sg_8, q_sg_8⟩ : ∃ q9 : OS, (f_X10_bad__1 (3 : Int32) sg_6).1 = q9 := ⟨_, rfl⟩
        have o_p0 : OV vw_M2 Ps ws p0 sg_8 := by rw [← q_sg_8]; exact hfn.1
        have q_v_7 : (f_X10_bad__1 (3 : Int32) sg_6).2 = v_7 := hfn.2.1
        have r_v_7 : RI v_7 0 0 := hp_v_7.1
        simp only [f_X10_readNamed__3, ↓reduceIte, q_v_1, eq_false c_4, q_vu_3, q_v_4, eq_true c9_v_4, q_sg_6, eq_true c_35, q_sg_8, q_v_7] at hE
        subst hQ
        exact W.zret (v := v_7) hx hb hr (tq_nz (r_v_7.to (by decide))) (fun t ht hW => ⟨⟨v_7, ws, rfl, ⟨⟨⟨(by rw [hR, ← hE]; exact o_p0), (by rw [hR, ← hE]), trivial⟩, r_v_7.to (by decide), (fun h0 => trivial), (fun h0 => absurd (Int32.toInt_inj.mp (by have h8 := r_v_7; unfold RI at h8; rw [Int32.toInt_zero]; omega)) h0)⟩, hw.1, hw.2.2.2.2.1⟩, by rw [ht]; exact hw.2.1, va_K.moved hW.alike hK, hw.2.2.1⟩, hw.2.2.2.1.F ht⟩) hw.2.2.2.1.2.2 dX10_readNamed_43
    · have r_v_4 : RI v_4 0 5 := by unfold RI at r_v_4 ⊢; omega
      have x_FD_vu_2_p1_p2_vu_3 := (hp_v_4.2.2.2.2.2 (by omega)).1
      have x_POS_p2 := (hp_v_4.2.2.2.2.2 (by omega)).2.1
      have r_p2 : RI p2 1 6 := ⟨x_POS_p2, r_p2.2⟩
      have hw8 := hw
      refine tg_put (ci := 10) (ts := ty_MODEL) (v := .int v_4) (ty := .int) (C := RX10) (T := TX10) (N := 49) hx hb hts inX10 tyX10 tyX10_ok nmX10 hown hK hw h_p0 rfl rfl 13 (by decide) (hts _ tw_1150) (fun _ h9 => h9) rfl (by decide +kernel) rfl rfl (ft := vI (-2147483648) 2147483647) rfl ⟨_, rfl, (r_v_4.to (by decide))⟩ (by decide) dX10_readNamed_27 (fun ws H locs hw n_k_9 hF9 => ?_)
      have m_u_2 := FLD.over hF9 m_u_2 (by decide)
      have m_u_3 := FLD.over hF9 m_u_3 (by decide)
      have x_FD_vu_2_p1_p2_vu_3 := FDD.over hw8 hF9 h_vu_2 x_FD_vu_2_p1_p2_vu_3 (by decide)
      obtain ⟨sg_10, q_sg_10⟩ : ∃ q9 : OS, sI s0 13 v_4 = q9 := ⟨_, rfl⟩
      have o_p0 : OV vw_M2 Ps ws p0 sg_10 := by rw [← q_sg_10]; exact OV.putI (V := vw_M2) hF9 n_k_9 o_p0 (by decide)
      refine lv_aload_n hx hb dX10_readNamed_30 rfl (lv_at hl 0 rfl) ?_
      refine tg_mem (ci := 10) (C := RX10) (T := TX10) (N := 49) hx hb hts inX10 hown hK hw 13 n_k_9 rfl (by decide) (hts _ tw_1150) (fun _ h9 => h9) dX10_readNamed_31 ?_
      refine lv_iconst (v := (-1)) hx hb dX10_readNamed_34 (by decide) ?_
      refine lv_icmp_ne (tgt := 44) hx hb dX10_readNamed_35 (by decide) (fun c_35 => ?_) (fun c_35 => ?_)
      · refine lv_aload_n hx hb dX10_readNamed_44 rfl (lv_at hl 0 rfl) ?_
        have hw8 := hw
        refine tk_v (va_runV (As := []) (rest := []) ⟨hx, hb, hml, hown, hts⟩ (c_X10_go__4 l D cy z H.size Ps ws hw.1 p0 sg_10 h_p0 o_p0) (cwV 0 hts (gV tw_1298 tw_1300 ts_40 tw_15 tw_1301) rfl rfl rfl (by decide +kernel) ⟨Nat.le_of_ble_eq_true rfl, Nat.le_of_ble_eq_true rfl⟩) (tg_preV hw hK hSD hA (ci := 10) (q := (RX10, TX10, 49)) rfl h_p0 rfl) rfl rfl hl.1 rfl (lv_room (Nat.le_of_ble_eq_true rfl)) dX10_readNamed_45 ⟨Nat.le_of_ble_eq_true rfl, Nat.le_of_ble_eq_true rfl⟩) hw hA ⟨by decide, by decide⟩ (fun ws H locs hp_v_11 hw hF9 => ?_)
        have m_u_2 := FLD.over hF9 m_u_2 (by decide)
        have n_k_9 := FLD.over hF9 n_k_9 (by decide)
        have x_FD_vu_2_p1_p2_vu_3 := FDD.over hw8 hF9 h_vu_2 x_FD_vu_2_p1_p2_vu_3 (by decide)
        obtain ⟨hfn, hp_v_11⟩ := hp_v_11
        obtain ⟨sg_12, q_sg_12⟩ : ∃ q9 : OS, (f_X10_go__2 sg_10) = q9 := ⟨_, rfl⟩
        have o_p0 : OV vw_M2 Ps ws p0 sg_12 := by rw [← q_sg_12]; exact hfn.1
        refine lv_iconst (v := 1) hx hb dX10_readNamed_48 (by decide) ?_
        simp only [f_X10_readNamed__3, ↓reduceIte, q_v_1, eq_false c_4, q_vu_3, q_v_4, eq_false c9_v_4, q_sg_10, eq_false c_35, q_sg_12] at hE
        subst hQ
        exact W.zret (v := 1) hx hb hr (rfl) (fun t ht hW => ⟨⟨1, ws, rfl, ⟨⟨⟨(by rw [hR, ← hE]; exact o_p0), (by rw [hR, ← hE]), trivial⟩, rl_1.to (by decide), (fun _ => trivial), (fun h0 => ⟨r_p2, ⟨_, n_k_9, r_v_4⟩, trivial⟩)⟩, hw.1, hw.2.2.2.2.1⟩, by rw [ht]; exact hw.2.1, va_K.moved hW.alike hK, hw.2.2.1⟩, hw.2.2.2.1.F ht⟩) hw.2.2.2.1.2.2 dX10_readNamed_49
      · have r_v_4 : RI v_4 0 (-1) := rc_eq1 r_v_4 rl_m1 (ti_eq c_35) (by decide)
        exact (r_v_4.no (by decide)).elim
  · have r_v_1 : RI v_1 0 0 := rc_eq1 r_v_1 rl_0 (ti_eq c_4) (by decide)
    refine lv_aload_n hx hb dX10_readNamed_7 rfl (lv_at hl 0 rfl) ?_
    refine lv_iconst (v := 1) hx hb dX10_readNamed_8 (by decide) ?_
    refine tk_i (va_runV (As := [.int 1]) (rest := []) ⟨hx, hb, hml, hown, hts⟩ (c_X10_bad__2 l D cy z H.size Ps w0 hw.1 p0 1 s0 h_p0 (rl_1.to (by decide)) o_p0) (cwV 1 hts (gV tw_1336 tw_1338 ts_46 tw_15 tw_1339) rfl rfl rfl (by decide +kernel) ⟨Nat.le_of_ble_eq_true rfl, Nat.le_of_ble_eq_true rfl⟩) (tg_preV hw hK hSD hA (ci := 10) (q := (RX10, TX10, 49)) rfl h_p0 rfl) rfl rfl hl.1 rfl (lv_room (Nat.le_of_ble_eq_true rfl)) dX10_readNamed_9 ⟨Nat.le_of_ble_eq_true rfl, Nat.le_of_ble_eq_true rfl⟩) hw hA ⟨by decide, by decide⟩ (fun v_13 ws H locs hp_v_13 hw hF9 => ?_)
    obtain ⟨hfn, hp_v_13⟩ := hp_v_13
    obtain ⟨sg_14, q_sg_14⟩ : ∃ q9 : OS, (f_X10_bad__1 (1 : Int32) s0).1 = q9 := ⟨_, rfl⟩
    have o_p0 : OV vw_M2 Ps ws p0 sg_14 := by rw [← q_sg_14]; exact hfn.1
    have q_v_13 : (f_X10_bad__1 (1 : Int32) s0).2 = v_13 := hfn.2.1
    have r_v_13 : RI v_13 0 0 := hp_v_13.1
    simp only [f_X10_readNamed__3, ↓reduceIte, q_v_1, eq_true c_4, q_sg_14, q_v_13] at hE
    subst hQ
    exact W.zret (v := v_13) hx hb hr (tq_nz (r_v_13.to (by decide))) (fun t ht hW => ⟨⟨v_13, ws, rfl, ⟨⟨⟨(by rw [hR, ← hE]; exact o_p0), (by rw [hR, ← hE]), trivial⟩, r_v_13.to (by decide), (fun h0 => trivial), (fun h0 => absurd (Int32.toInt_inj.mp (by have h8 := r_v_13; unfold RI at h8; rw [Int32.toInt_zero]; omega)) h0)⟩, hw.1, hw.2.2.2.2.1⟩, by rw [ht]; exact hw.2.1, va_K.moved hW.alike hK, hw.2.2.1⟩, hw.2.2.2.1.F ht⟩) hw.2.2.2.1.2.2 dX10_readNamed_12
abbrev wr_X10_readOf__1 : List (Nat × Nat) := [(10, 5), (10, 6), (10, 7), (10, 8), (10, 9), (10, 10), (10, 11), (10, 12), (10, 13), (10, 45), (10, 48)]
abbrev wa_X10_readOf__1 : List Nat := [54]
set_option maxHeartbeats 4000000 in
set_option maxRecDepth 100000 in
theorem c_X10_readOf__1 (l : Launch) (D : va_G) (cy : Nat → ClassId) (z : Nat → Nat) (sz : Nat) (Ps : PSI) (w0 : va_W) (hT : HT cy GG Ps w0) (p0 : Nat) (p1 : Int32) (gd : Int) (gh : Int) (gg : Int) (s0 : OS) (h_p0 : (p0, 55) ∈ Ps) (r_p1 : RI p1 22 23) (x_SNI_p0_gd_gh_gg : SNI w0 p0 (gd) (gh) (gg)) (o_p0 : OV vw_M2 Ps w0 p0 s0) : Met l yX10_readOf (Cond.code yX10_readOf cX10_readOf 2 (some .boolean) :: gT) ({ frames := 5, cells := 0, slots := 0, locals := 1000 } : Room) (va_Pc [.ref p0, .int p1] (PRE D cy z w0 sz)) (va_Qi (fun (r : Int32) (u : va_W) => ((OV vw_M2 Ps u p0 ((f_X10_readOf__1 p1 s0).1) ∧ (f_X10_readOf__1 p1 s0).2 = r ∧ True) ∧ (RI r 0 1 ∧ (r = 0 → True) ∧ (¬ r = 0 → (∃ v9 : Int32, FLD u p0 10 13 (.int v9) ∧ RI v9 0 5) ∧ (∃ v9 : Int32, FLD u p0 10 48 (.int v9) ∧ RI v9 0 39) ∧ SNT u p0 (gd) (gh) (gg) ∧ True))) ∧ HT cy GG Ps u ∧ FR wr_X10_readOf__1 wa_X10_readOf__1 Ps w0 u) (BB D cy (va_A w0 sz) (fun (u : va_W) => u)) (va_A w0 sz)) 0 0 (va_A w0 sz) := by
  refine Met.ofW (cc := cX10_readOf) (maxL := 2) (ret := (some .boolean)) (by decide) rfl ?_
  intro p e s m args below meth c s₁ B hml hv
  obtain ⟨rfl, hsz, hP, hK, hD0, hSD⟩ := hv
  have hx := B.exec
  have hb := B.bytes
  have hr := B.returns
  have hlocks := B.notSynchronized
  have hts : ∀ w ∈ gT, w.before _ s = true := fun w h => atoms_spec (ws := Cond.code yX10_readOf cX10_readOf 2 (some .boolean) :: gT) B.pre w (List.mem_cons_of_mem _ h)
  have hown : s.vm.findClass RX10 = some m.cls := findClass_of_methodNamed B.named
  subst hsz
  have hD := hD0.self (sz := s.heap.size)
  generalize hAe : va_A w0 s.heap.size = A at hD hSD ⊢
  have hA : ∀ q : Nat, s.heap.size ≤ q → A q := fun q h => by rw [← hAe]; exact Or.inr h
  have hl := lv_entry ([.ref p0, .int p1]) (n := 2) (Nat.le_of_ble_eq_true rfl)
  rw [lg_entry_eq]
  generalize (lg_sl ([.ref p0, .int p1]) ++ List.replicate (2 - (lg_sl ([.ref p0, .int p1])).length) Slot.unset).toArray = ls at hl ⊢
  have hl : lv_has ls 2 [(0, .ref p0), (1, .int p1)] := hl
  refine nameQ (fun Q hQ => ?_)
  have hw : WD D cy GG A s wr_X10_readOf__1 wa_X10_readOf__1 Ps w0 Ps w0 s.heap [] := ⟨hT, hP, hD, va_S.rf, FR.rf, hT.1, [], (List.append_nil _).symm⟩
  obtain ⟨R9, hR⟩ : ∃ q9 : OS × Int32, f_X10_readOf__1 p1 s0 = q9 := ⟨_, rfl⟩
  have hE := hR
  refine lv_aload_n hx hb dX10_readOf_0 rfl (lv_at hl 0 rfl) ?_
  refine lv_iload_n hx hb dX10_readOf_1 rfl (lv_at hl 1 rfl) ?_
  refine lv_bipush (v := 22) hx hb dX10_readOf_2 (by decide) ?_
  refine lv_icmp_ne (tgt := 11) hx hb dX10_readOf_4 (by decide) (fun c_4 => ?_) (fun c_4 => ?_)
  · have r_p1 : RI p1 23 23 := rc_neL r_p1 rl_22 (ti_ne c_4) (by decide)
    refine lv_bipush (v := 6) hx hb dX10_readOf_11 (by decide) ?_
    refine lv_aload_n hx hb dX10_readOf_13 rfl (lv_at hl 0 rfl) ?_
    refine tg_get (ci := 10) (ts := ty_MODEL) (C := RX10) (T := TX10) (N := 49) hx hb hts inX10 hown hK hw h_p0 rfl rfl 14 (by decide) (hts _ tw_1151) (fun _ h9 => h9) (ft := vR 34) rfl dX10_readOf_14 (fun u_1 hv_u_1 m_u_1 => ?_)
    obtain ⟨vu_1, rfl, h_vu_1⟩ := hv_u_1
    refine lv_iload_n hx hb dX10_readOf_17 rfl (lv_at hl 1 rfl) ?_
    refine lv_bipush (v := 22) hx hb dX10_readOf_18 (by decide) ?_
    refine lv_icmp_ne (tgt := 27) hx hb dX10_readOf_20 (by decide) (fun c_20 => ?_) (fun c_20 => ?_)
    · refine lv_iconst (v := 1) hx hb dX10_readOf_27 (by decide) ?_
      refine tg_iald (lo := 0) (hi := 4) hx hb hK hw h_vu_1 rfl 1 1 rl_1 (by decide) (by decide +kernel) dX10_readOf_28 (fun v_2 r_v_2 m_v_2 o_v_2 => ?_)
      have q_v_2 : s0.2.2.1 14 (Int32.toNatClampNeg (1 : Int32)) = v_2 := OV.eqA (V := vw_M2) (t := 34) hw.2.2.1 o_p0 m_u_1 m_v_2 (by decide)
      have hw8 := hw
      refine tk_i (va_runV (As := [.int 6, .int v_2]) (rest := []) ⟨hx, hb, hml, hown, hts⟩ (c_X10_readNamed__3 l D cy z s.heap.size Ps w0 hw.1 p0 6 v_2 s0 h_p0 rl_6 r_v_2 o_p0) (cwV 2 hts (gV tw_1723 tw_1725 ts_106 tw_15 tw_1726) rfl rfl rfl (by decide +kernel) ⟨Nat.le_of_ble_eq_true rfl, Nat.le_of_ble_eq_true rfl⟩) (tg_preV hw hK hSD hA (ci := 10) (q := (RX10, TX10, 49)) rfl h_p0 rfl) rfl rfl hl.1 rfl (lv_room (Nat.le_of_ble_eq_true rfl)) dX10_readOf_29 ⟨Nat.le_of_ble_eq_true rfl, Nat.le_of_ble_eq_true rfl⟩) hw hA ⟨by decide, by decide⟩ (fun v_3 ws H locs hp_v_3 hw hF9 => ?_)
      have m_v_2 := AEL.over hw8 hF9 h_vu_1 m_v_2 (by decide)
      have m_u_1 := FLD.over hF9 m_u_1 (by decide)
      have x_SNI_p0_gd_gh_gg := SNI.over hF9 x_SNI_p0_gd_gh_gg (by decide)
      obtain ⟨hfn, hp_v_3⟩ := hp_v_3
      obtain ⟨sg_4, q_sg_4⟩ : ∃ q9 : OS, (f_X10_readNamed__3 (6 : Int32) v_2 s0).1 = q9 := ⟨_, rfl⟩
      have o_p0 : OV vw_M2 Ps ws p0 sg_4 := by rw [← q_sg_4]; exact hfn.1
      have q_v_3 : (f_X10_readNamed__3 (6 : Int32) v_2 s0).2 = v_3 := hfn.2.1
      have r_v_3 : RI v_3 0 1 := hp_v_3.1
      by_cases c9_v_3 : v_3 = 0
      · have r_v_3 : RI v_3 0 0 := by rw [c9_v_3]; exact rl_0
        refine lv_if_ne (tgt := 37) hx hb dX10_readOf_32 (by decide) (fun c_32 => ?_) (fun c_32 => ?_)
        · exact absurd (r_v_3.eq.trans rl_0.eq.symm) ((ti_ne c_32))
        · refine lv_iconst (v := 0) hx hb dX10_readOf_35 (by decide) ?_
          simp only [f_X10_readOf__1, ↓reduceIte, eq_false c_4, eq_false c_20, q_v_2, q_sg_4, q_v_3, eq_true c9_v_3, eq_true c_32] at hE
          subst hQ
          exact W.zret (v := 0) hx hb hr (rfl) (fun t ht hW => ⟨⟨0, ws, rfl, ⟨⟨⟨(by rw [hR, ← hE]; exact o_p0), (by rw [hR, ← hE]), trivial⟩, rl_0.to (by decide), (fun h0 => trivial), (fun h0 => absurd rfl h0)⟩, hw.1, hw.2.2.2.2.1⟩, by rw [ht]; exact hw.2.1, va_K.moved hW.alike hK, hw.2.2.1⟩, hw.2.2.2.1.F ht⟩) hw.2.2.2.1.2.2 dX10_readOf_36
      · have r_v_3 : RI v_3 1 1 := rc_neL r_v_3 rl_0 (ti_ne c9_v_3) (by decide)
        have r_v_2 : RI v_2 1 4 := ((hp_v_3.2.2 c9_v_3).1)
        obtain ⟨v_5, m_v_5, r_v_5⟩ := ((hp_v_3.2.2 c9_v_3).2.1)
        refine lv_if_ne (tgt := 37) hx hb dX10_readOf_32 (by decide) (fun c_32 => ?_) (fun c_32 => ?_)
        · refine lv_aload_n hx hb dX10_readOf_37 rfl (lv_at hl 0 rfl) ?_
          refine lv_aload_n hx hb dX10_readOf_38 rfl (lv_at hl 0 rfl) ?_
          refine lv_bipush (v := 50) hx hb dX10_readOf_39 (by decide) ?_
          refine lv_iload_n hx hb dX10_readOf_41 rfl (lv_at hl 1 rfl) ?_
          refine lv_iadd hx hb dX10_readOf_42 (lv_topi (fun v_6 e_v_6 => ?_))
          obtain ⟨t_v_6, r_v_6⟩ := tq_add (lo := 73) (hi := 73) rl_50 r_p1 (by decide +kernel) e_v_6
          have t_v_6 : v_6.toInt = 50 + p1.toInt := t_v_6
          have q_v_6 : (50 : Int32) + p1 = v_6 := e_v_6.symm
          refine lv_aload_n hx hb dX10_readOf_43 rfl (lv_at hl 0 rfl) ?_
          refine tg_mem (ci := 10) (C := RX10) (T := TX10) (N := 49) hx hb hts inX10 hown hK hw 13 m_v_5 rfl (by decide) (hts _ tw_1150) (fun _ h9 => h9) dX10_readOf_44 ?_
          have q_v_5 : sg_4.1 13 = v_5 := OV.eqI (V := vw_M2) hw.2.2.1 o_p0 m_v_5 (by decide)
          refine lv_iconst (v := 0) hx hb dX10_readOf_47 (by decide) ?_
          refine lv_iconst (v := 0) hx hb dX10_readOf_48 (by decide) ?_
          have hw8 := hw
          refine tk_i (va_runV (As := [.int v_6, .int v_5, .int 0, .int 0]) (rest := [.ref p0]) ⟨hx, hb, hml, hown, hts⟩ (c_X10_saysOne__3 l D cy z H.size Ps ws hw.1 p0 v_6 v_5 0 0 (gd) (gh) (gg) sg_4 h_p0 (r_v_6.to (by decide)) (r_v_5.to (by decide)) (rl_0.to (by decide)) (rl_0.to (by decide)) x_SNI_p0_gd_gh_gg o_p0) (cwV 4 hts (gV tw_1771 tw_1773 ts_116 tw_15 tw_1774) rfl rfl rfl (by decide +kernel) ⟨Nat.le_of_ble_eq_true rfl, Nat.le_of_ble_eq_true rfl⟩) (tg_preV hw hK hSD hA (ci := 10) (q := (RX10, TX10, 49)) rfl h_p0 rfl) rfl rfl hl.1 rfl (lv_room (Nat.le_of_ble_eq_true rfl)) dX10_readOf_49 ⟨Nat.le_of_ble_eq_true rfl, Nat.le_of_ble_eq_true rfl⟩) hw hA ⟨by decide, by decide⟩ (fun v_7 ws H locs hp_v_7 hw hF9 => ?_)
          have m_v_2 := AEL.over hw8 hF9 h_vu_1 m_v_2 (by decide)
          have m_u_1 := FLD.over hF9 m_u_1 (by decide)
          have m_v_5 := FLD.over hF9 m_v_5 (by decide)
          obtain ⟨hfn, hp_v_7⟩ := hp_v_7
          obtain ⟨sg_8, q_sg_8⟩ : ∃ q9 : OS, (f_X10_saysOne__3 v_6 v_5 (0 : Int32) (0 : Int32) sg_4).1 = q9 := ⟨_, rfl⟩
          have o_p0 : OV vw_M2 Ps ws p0 sg_8 := by rw [← q_sg_8]; exact hfn.1
          have q_v_7 : (f_X10_saysOne__3 v_6 v_5 (0 : Int32) (0 : Int32) sg_4).2 = v_7 := hfn.2.1
          have r_v_7 : RI v_7 0 39 := hp_v_7.1
          have x_SNL_p0_gd_gh_gg_v_7 := hp_v_7.2.2.2.1.1
          have hw8 := hw
          refine tg_put (ci := 10) (ts := ty_MODEL) (v := .int v_7) (ty := .int) (C := RX10) (T := TX10) (N := 49) hx hb hts inX10 tyX10 tyX10_ok nmX10 hown hK hw h_p0 rfl rfl 48 (by decide) (hts _ tw_1185) (fun _ h9 => h9) rfl (by decide +kernel) rfl rfl (ft := vI (-2147483648) 2147483647) rfl ⟨_, rfl, (r_v_7.to (by decide))⟩ (by decide) dX10_readOf_52 (fun ws H locs hw n_k_9 hF9 => ?_)
          have m_v_2 := AEL.over hw8 hF9 h_vu_1 m_v_2 (by decide)
          have m_u_1 := FLD.over hF9 m_u_1 (by decide)
          have m_v_5 := FLD.over hF9 m_v_5 (by decide)
          have x_SNL_p0_gd_gh_gg_v_7 := SNL.over hF9 x_SNL_p0_gd_gh_gg_v_7 (by decide)
          obtain ⟨sg_10, q_sg_10⟩ : ∃ q9 : OS, sI sg_8 48 v_7 = q9 := ⟨_, rfl⟩
          have o_p0 : OV vw_M2 Ps ws p0 sg_10 := by rw [← q_sg_10]; exact OV.putI (V := vw_M2) hF9 n_k_9 o_p0 (by decide)
          have x_SNT_p0_gd_gh_gg : SNT ws p0 (gd) (gh) (gg) := (x_SNL_p0_gd_gh_gg_v_7.weak (d' := gd) (h' := gh) (g' := gg) (by have k1 := x_SNL_p0_gd_gh_gg_v_7.le; have d_8 := SNp.le x_SNI_p0_gd_gh_gg.2; have d_7 := x_SNI_p0_gd_gh_gg.1; omega)).snt n_k_9
          refine lv_iconst (v := 1) hx hb dX10_readOf_55 (by decide) ?_
          simp only [f_X10_readOf__1, ↓reduceIte, eq_false c_4, eq_false c_20, q_v_2, q_sg_4, q_v_3, eq_false c9_v_3, eq_false c_32, q_v_6, q_v_5, q_sg_8, q_v_7, q_sg_10] at hE
          subst hQ
          exact W.zret (v := 1) hx hb hr (rfl) (fun t ht hW => ⟨⟨1, ws, rfl, ⟨⟨⟨(by rw [hR, ← hE]; exact o_p0), (by rw [hR, ← hE]), trivial⟩, rl_1.to (by decide), (fun _ => trivial), (fun h0 => ⟨⟨_, m_v_5, (r_v_5.to (by decide))⟩, ⟨_, n_k_9, r_v_7⟩, x_SNT_p0_gd_gh_gg, trivial⟩)⟩, hw.1, hw.2.2.2.2.1⟩, by rw [ht]; exact hw.2.1, va_K.moved hW.alike hK, hw.2.2.1⟩, hw.2.2.2.1.F ht⟩) hw.2.2.2.1.2.2 dX10_readOf_56
        · have r_v_3 : RI v_3 1 0 := rc_eq1 r_v_3 rl_0 (ti_eq c_32) (by decide)
          exact (r_v_3.no (by decide)).elim
    · have r_p1 : RI p1 23 22 := rc_eq1 r_p1 rl_22 (ti_eq c_20) (by decide)
      exact (r_p1.no (by decide)).elim
  · have r_p1 : RI p1 22 22 := rc_eq1 r_p1 rl_22 (ti_eq c_4) (by decide)
    refine lv_iconst (v := 0) hx hb dX10_readOf_7 (by decide) ?_
    refine lv_goto (tgt := 13) hx hb dX10_readOf_8 (by decide) ?_
    refine lv_aload_n hx hb dX10_readOf_13 rfl (lv_at hl 0 rfl) ?_
    refine tg_get (ci := 10) (ts := ty_MODEL) (C := RX10) (T := TX10) (N := 49) hx hb hts inX10 hown hK hw h_p0 rfl rfl 14 (by decide) (hts _ tw_1151) (fun _ h9 => h9) (ft := vR 34) rfl dX10_readOf_14 (fun u_11 hv_u_11 m_u_11 => ?_)
    obtain ⟨vu_11, rfl, h_vu_11⟩ := hv_u_11
    refine lv_iload_n hx hb dX10_readOf_17 rfl (lv_at hl 1 rfl) ?_
    refine lv_bipush (v := 22) hx hb dX10_readOf_18 (by decide) ?_
    refine lv_icmp_ne (tgt := 27) hx hb dX10_readOf_20 (by decide) (fun c_20 => ?_) (fun c_20 => ?_)
    · exact absurd (r_p1.eq.trans rl_22.eq.symm) ((ti_ne c_20))
    · refine lv_iconst (v := 0) hx hb dX10_readOf_23 (by decide) ?_
      refine lv_goto (tgt := 28) hx hb dX10_readOf_24 (by decide) ?_
      refine tg_iald (lo := 0) (hi := 6) hx hb hK hw h_vu_11 rfl 0 0 rl_0 (by decide) (by decide +kernel) dX10_readOf_28 (fun v_12 r_v_12 m_v_12 o_v_12 => ?_)
      have q_v_12 : s0.2.2.1 14 (Int32.toNatClampNeg (0 : Int32)) = v_12 := OV.eqA (V := vw_M2) (t := 34) hw.2.2.1 o_p0 m_u_11 m_v_12 (by decide)
      have hw8 := hw
      refine tk_i (va_runV (As := [.int 0, .int v_12]) (rest := []) ⟨hx, hb, hml, hown, hts⟩ (c_X10_readNamed__4 l D cy z s.heap.size Ps w0 hw.1 p0 0 v_12 s0 h_p0 rl_0 r_v_12 o_p0) (cwV 2 hts (gV tw_1723 tw_1725 ts_106 tw_15 tw_1726) rfl rfl rfl (by decide +kernel) ⟨Nat.le_of_ble_eq_true rfl, Nat.le_of_ble_eq_true rfl⟩) (tg_preV hw hK hSD hA (ci := 10) (q := (RX10, TX10, 49)) rfl h_p0 rfl) rfl rfl hl.1 rfl (lv_room (Nat.le_of_ble_eq_true rfl)) dX10_readOf_29 ⟨Nat.le_of_ble_eq_true rfl, Nat.le_of_ble_eq_true rfl⟩) hw hA ⟨by decide, by decide⟩ (fun v_13 ws H locs hp_v_13 hw hF9 => ?_)
      have m_v_12 := AEL.over hw8 hF9 h_vu_11 m_v_12 (by decide)
      have m_u_11 := FLD.over hF9 m_u_11 (by decide)
      have x_SNI_p0_gd_gh_gg := SNI.over hF9 x_SNI_p0_gd_gh_gg (by decide)
      obtain ⟨hfn, hp_v_13⟩ := hp_v_13
      obtain ⟨sg_14, q_sg_14⟩ : ∃ q9 : OS, (f_X10_readNamed__3 (0 : Int32) v_12 s0).1 = q9 := ⟨_, rfl⟩
      have o_p0 : OV vw_M2 Ps ws p0 sg_14 := by rw [← q_sg_14]; exact hfn.1
      have q_v_13 : (f_X10_readNamed__3 (0 : Int32) v_12 s0).2 = v_13 := hfn.2.1
      have r_v_13 : RI v_13 0 1 := hp_v_13.1
      by_cases c9_v_13 : v_13 = 0
      · have r_v_13 : RI v_13 0 0 := by rw [c9_v_13]; exact rl_0
        refine lv_if_ne (tgt := 37) hx hb dX10_readOf_32 (by decide) (fun c_32 => ?_) (fun c_32 => ?_)
        · exact absurd (r_v_13.eq.trans rl_0.eq.symm) ((ti_ne c_32))
        · refine lv_iconst (v := 0) hx hb dX10_readOf_35 (by decide) ?_
          simp only [f_X10_readOf__1, ↓reduceIte, eq_true c_4, eq_true c_20, q_v_12, q_sg_14, q_v_13, eq_true c9_v_13, eq_true c_32] at hE
          subst hQ
          exact W.zret (v := 0) hx hb hr (rfl) (fun t ht hW => ⟨⟨0, ws, rfl, ⟨⟨⟨(by rw [hR, ← hE]; exact o_p0), (by rw [hR, ← hE]), trivial⟩, rl_0.to (by decide), (fun h0 => trivial), (fun h0 => absurd rfl h0)⟩, hw.1, hw.2.2.2.2.1⟩, by rw [ht]; exact hw.2.1, va_K.moved hW.alike hK, hw.2.2.1⟩, hw.2.2.2.1.F ht⟩) hw.2.2.2.1.2.2 dX10_readOf_36
      · have r_v_13 : RI v_13 1 1 := rc_neL r_v_13 rl_0 (ti_ne c9_v_13) (by decide)
        have r_v_12 : RI v_12 1 6 := ((hp_v_13.2.2 c9_v_13).1)
        obtain ⟨v_15, m_v_15, r_v_15⟩ := ((hp_v_13.2.2 c9_v_13).2.1)
        refine lv_if_ne (tgt := 37) hx hb dX10_readOf_32 (by decide) (fun c_32 => ?_) (fun c_32 => ?_)
        · refine lv_aload_n hx hb dX10_readOf_37 rfl (lv_at hl 0 rfl) ?_
          refine lv_aload_n hx hb dX10_readOf_38 rfl (lv_at hl 0 rfl) ?_
          refine lv_bipush (v := 50) hx hb dX10_readOf_39 (by decide) ?_
          refine lv_iload_n hx hb dX10_readOf_41 rfl (lv_at hl 1 rfl) ?_
          refine lv_iadd hx hb dX10_readOf_42 (lv_topi (fun v_16 e_v_16 => ?_))
          obtain ⟨t_v_16, r_v_16⟩ := tq_add (lo := 72) (hi := 72) rl_50 r_p1 (by decide +kernel) e_v_16
          have t_v_16 : v_16.toInt = 50 + p1.toInt := t_v_16
          have q_v_16 : (50 : Int32) + p1 = v_16 := e_v_16.symm
          refine lv_aload_n hx hb dX10_readOf_43 rfl (lv_at hl 0 rfl) ?_
          refine tg_mem (ci := 10) (C := RX10) (T := TX10) (N := 49) hx hb hts inX10 hown hK hw 13 m_v_15 rfl (by decide) (hts _ tw_1150) (fun _ h9 => h9) dX10_readOf_44 ?_
          have q_v_15 : sg_14.1 13 = v_15 := OV.eqI (V := vw_M2) hw.2.2.1 o_p0 m_v_15 (by decide)
          refine lv_iconst (v := 0) hx hb dX10_readOf_47 (by decide) ?_
          refine lv_iconst (v := 0) hx hb dX10_readOf_48 (by decide) ?_
          have hw8 := hw
          refine tk_i (va_runV (As := [.int v_16, .int v_15, .int 0, .int 0]) (rest := [.ref p0]) ⟨hx, hb, hml, hown, hts⟩ (c_X10_saysOne__3 l D cy z H.size Ps ws hw.1 p0 v_16 v_15 0 0 (gd) (gh) (gg) sg_14 h_p0 (r_v_16.to (by decide)) (r_v_15.to (by decide)) (rl_0.to (by decide)) (rl_0.to (by decide)) x_SNI_p0_gd_gh_gg o_p0) (cwV 4 hts (gV tw_1771 tw_1773 ts_116 tw_15 tw_1774) rfl rfl rfl (by decide +kernel) ⟨Nat.le_of_ble_eq_true rfl, Nat.le_of_ble_eq_true rfl⟩) (tg_preV hw hK hSD hA (ci := 10) (q := (RX10, TX10, 49)) rfl h_p0 rfl) rfl rfl hl.1 rfl (lv_room (Nat.le_of_ble_eq_true rfl)) dX10_readOf_49 ⟨Nat.le_of_ble_eq_true rfl, Nat.le_of_ble_eq_true rfl⟩) hw hA ⟨by decide, by decide⟩ (fun v_17 ws H locs hp_v_17 hw hF9 => ?_)
          have m_v_12 := AEL.over hw8 hF9 h_vu_11 m_v_12 (by decide)
          have m_u_11 := FLD.over hF9 m_u_11 (by decide)
          have m_v_15 := FLD.over hF9 m_v_15 (by decide)
          obtain ⟨hfn, hp_v_17⟩ := hp_v_17
          obtain ⟨sg_18, q_sg_18⟩ : ∃ q9 : OS, (f_X10_saysOne__3 v_16 v_15 (0 : Int32) (0 : Int32) sg_14).1 = q9 := ⟨_, rfl⟩
          have o_p0 : OV vw_M2 Ps ws p0 sg_18 := by rw [← q_sg_18]; exact hfn.1
          have q_v_17 : (f_X10_saysOne__3 v_16 v_15 (0 : Int32) (0 : Int32) sg_14).2 = v_17 := hfn.2.1
          have r_v_17 : RI v_17 0 39 := hp_v_17.1
          have x_SNL_p0_gd_gh_gg_v_17 := hp_v_17.2.2.2.1.1
          have hw8 := hw
          refine tg_put (ci := 10) (ts := ty_MODEL) (v := .int v_17) (ty := .int) (C := RX10) (T := TX10) (N := 49) hx hb hts inX10 tyX10 tyX10_ok nmX10 hown hK hw h_p0 rfl rfl 48 (by decide) (hts _ tw_1185) (fun _ h9 => h9) rfl (by decide +kernel) rfl rfl (ft := vI (-2147483648) 2147483647) rfl ⟨_, rfl, (r_v_17.to (by decide))⟩ (by decide) dX10_readOf_52 (fun ws H locs hw n_k_19 hF9 => ?_)
          have m_v_12 := AEL.over hw8 hF9 h_vu_11 m_v_12 (by decide)
          have m_u_11 := FLD.over hF9 m_u_11 (by decide)
          have m_v_15 := FLD.over hF9 m_v_15 (by decide)
          have x_SNL_p0_gd_gh_gg_v_17 := SNL.over hF9 x_SNL_p0_gd_gh_gg_v_17 (by decide)
          obtain ⟨sg_20, q_sg_20⟩ : ∃ q9 : OS, sI sg_18 48 v_17 = q9 := ⟨_, rfl⟩
          have o_p0 : OV vw_M2 Ps ws p0 sg_20 := by rw [← q_sg_20]; exact OV.putI (V := vw_M2) hF9 n_k_19 o_p0 (by decide)
          have x_SNT_p0_gd_gh_gg : SNT ws p0 (gd) (gh) (gg) := (x_SNL_p0_gd_gh_gg_v_17.weak (d' := gd) (h' := gh) (g' := gg) (by have k1 := x_SNL_p0_gd_gh_gg_v_17.le; have d_8 := SNp.le x_SNI_p0_gd_gh_gg.2; have d_7 := x_SNI_p0_gd_gh_gg.1; omega)).snt n_k_19
          refine lv_iconst (v := 1) hx hb dX10_readOf_55 (by decide) ?_
          simp only [f_X10_readOf__1, ↓reduceIte, eq_true c_4, eq_true c_20, q_v_12, q_sg_14, q_v_13, eq_false c9_v_13, eq_false c_32, q_v_16, q_v_15, q_sg_18, q_v_17, q_sg_20] at hE
          subst hQ
          exact W.zret (v := 1) hx hb hr (rfl) (fun t ht hW => ⟨⟨1, ws, rfl, ⟨⟨⟨(by rw [hR, ← hE]; exact o_p0), (by rw [hR, ← hE]), trivial⟩, rl_1.to (by decide), (fun _ => trivial), (fun h0 => ⟨⟨_, m_v_15, r_v_15⟩, ⟨_, n_k_19, r_v_17⟩, x_SNT_p0_gd_gh_gg, trivial⟩)⟩, hw.1, hw.2.2.2.2.1⟩, by rw [ht]; exact hw.2.1, va_K.moved hW.alike hK, hw.2.2.1⟩, hw.2.2.2.1.F ht⟩) hw.2.2.2.1.2.2 dX10_readOf_56
        · have r_v_13 : RI v_13 1 0 := rc_eq1 r_v_13 rl_0 (ti_eq c_32) (by decide)
          exact (r_v_13.no (by decide)).elim
abbrev wr_X10_readNot__8 : List (Nat × Nat) := [(10, 10), (10, 11)]
abbrev wa_X10_readNot__8 : List Nat := []
set_option maxHeartbeats 4000000 in
set_option maxRecDepth 100000 in
theorem c_X10_readNot__8 (l : Launch) (D : va_G) (cy : Nat → ClassId) (z : Nat → Nat) (sz : Nat) (Ps : PSI) (w0 : va_W) (hT : HT cy GG Ps w0) (p0 : Nat) (f0_47 : Int32) (gd : Int) (gh : Int) (gg : Int) (s0 : OS) (h_p0 : (p0, 55) ∈ Ps) (r_f0_47 : RI f0_47 8 8) (m_f0_47 : FLD w0 p0 10 47 (.int f0_47)) (x_SNI_p0_gd_gh_gg : SNI w0 p0 (gd) (gh) (gg)) (o_p0 : OV vw_M2 Ps w0 p0 s0) : Met l yX10_readNot (Cond.code yX10_readNot cX10_readNot 1 (some .boolean) :: gT) ({ frames := 5, cells := 0, slots := 0, locals := 1000 } : Room) (va_Pc [.ref p0] (PRE D cy z w0 sz)) (va_Qi (fun (r : Int32) (u : va_W) => ((OV vw_M2 Ps u p0 ((f_X10_readNot__8 s0).1) ∧ (f_X10_readNot__8 s0).2 = r ∧ True) ∧ (RI r 0 0 ∧ (r = 0 → (∃ v9 : Int32, FLD u p0 10 47 (.int v9) ∧ RI v9 8 8) ∧ True) ∧ (¬ r = 0 → SNT u p0 (gd) (gh) (gg) ∧ True))) ∧ HT cy GG Ps u ∧ FR wr_X10_readNot__8 wa_X10_readNot__8 Ps w0 u) (BB D cy (va_A w0 sz) (fun (u : va_W) => u)) (va_A w0 sz)) 0 0 (va_A w0 sz) := by
  refine Met.ofW (cc := cX10_readNot) (maxL := 1) (ret := (some .boolean)) (by decide) rfl ?_
  intro p e s m args below meth c s₁ B hml hv
  obtain ⟨rfl, hsz, hP, hK, hD0, hSD⟩ := hv
  have hx := B.exec
  have hb := B.bytes
  have hr := B.returns
  have hlocks := B.notSynchronized
  have hts : ∀ w ∈ gT, w.before _ s = true := fun w h => atoms_spec (ws := Cond.code yX10_readNot cX10_readNot 1 (some .boolean) :: gT) B.pre w (List.mem_cons_of_mem _ h)
  have hown : s.vm.findClass RX10 = some m.cls := findClass_of_methodNamed B.named
  subst hsz
  have hD := hD0.self (sz := s.heap.size)
  generalize hAe : va_A w0 s.heap.size = A at hD hSD ⊢
  have hA : ∀ q : Nat, s.heap.size ≤ q → A q := fun q h => by rw [← hAe]; exact Or.inr h
  have hl := lv_entry ([.ref p0]) (n := 1) (Nat.le_of_ble_eq_true rfl)
  rw [lg_entry_eq]
  generalize (lg_sl ([.ref p0]) ++ List.replicate (1 - (lg_sl ([.ref p0])).length) Slot.unset).toArray = ls at hl ⊢
  have hl : lv_has ls 1 [(0, .ref p0)] := hl
  refine nameQ (fun Q hQ => ?_)
  have hw : WD D cy GG A s wr_X10_readNot__8 wa_X10_readNot__8 Ps w0 Ps w0 s.heap [] := ⟨hT, hP, hD, va_S.rf, FR.rf, hT.1, [], (List.append_nil _).symm⟩
  obtain ⟨R9, hR⟩ : ∃ q9 : OS × Int32, f_X10_readNot__8 s0 = q9 := ⟨_, rfl⟩
  have hE := hR
  refine lv_aload_n hx hb dX10_readNot_0 rfl (lv_at hl 0 rfl) ?_
  have x_SN_p0_gd_1_gh_gg : SNp w0 p0 (gd+1) (gh) (gg) := x_SNI_p0_gd_gh_gg.2
  refine tk_i (va_runV (As := []) (rest := []) ⟨hx, hb, hml, hown, hts⟩ (c_X10_readSaid__17 l D cy z s.heap.size Ps w0 hw.1 p0 f0_47 (gd+1) (gh) (gg) s0 h_p0 r_f0_47 m_f0_47 x_SN_p0_gd_1_gh_gg o_p0) (cwV 0 hts (gV tw_1759 tw_1761 ts_113 tw_15 tw_1762) rfl rfl rfl (by decide +kernel) ⟨Nat.le_of_ble_eq_true rfl, Nat.le_of_ble_eq_true rfl⟩) (tg_preV hw hK hSD hA (ci := 10) (q := (RX10, TX10, 49)) rfl h_p0 rfl) rfl rfl hl.1 rfl (lv_room (Nat.le_of_ble_eq_true rfl)) dX10_readNot_1 ⟨Nat.le_of_ble_eq_true rfl, Nat.le_of_ble_eq_true rfl⟩) hw hA ⟨by decide, by decide⟩ (fun v_1 ws H locs hp_v_1 hw hF9 => ?_)
  have m_f0_47 := FLD.over hF9 m_f0_47 (by decide)
  have x_SNI_p0_gd_gh_gg := SNI.over hF9 x_SNI_p0_gd_gh_gg (by decide)
  have x_SN_p0_gd_1_gh_gg := SNp.over hF9 x_SN_p0_gd_1_gh_gg (by decide)
  obtain ⟨hfn, hp_v_1⟩ := hp_v_1
  obtain ⟨sg_2, q_sg_2⟩ : ∃ q9 : OS, (f_X10_readSaid__17 s0).1 = q9 := ⟨_, rfl⟩
  have o_p0 : OV vw_M2 Ps ws p0 sg_2 := by rw [← q_sg_2]; exact hfn.1
  have q_v_1 : (f_X10_readSaid__17 s0).2 = v_1 := hfn.2.1
  have r_v_1 : RI v_1 0 0 := hp_v_1.1
  by_cases c9_v_1 : v_1 = 0
  · have r_v_1 : RI v_1 0 0 := by rw [c9_v_1]; exact rl_0
    obtain ⟨v_3, m_v_3, r_v_3⟩ := ((hp_v_1.2.1 c9_v_1).1)
    refine lv_if_ne (tgt := 9) hx hb dX10_readNot_4 (by decide) (fun c_4 => ?_) (fun c_4 => ?_)
    · exact absurd (r_v_1.eq.trans rl_0.eq.symm) ((ti_ne c_4))
    · refine lv_iconst (v := 0) hx hb dX10_readNot_7 (by decide) ?_
      simp only [f_X10_readNot__8, ↓reduceIte, q_sg_2, q_v_1, eq_true c9_v_1, eq_true c_4] at hE
      subst hQ
      exact W.zret (v := 0) hx hb hr (rfl) (fun t ht hW => ⟨⟨0, ws, rfl, ⟨⟨⟨(by rw [hR, ← hE]; exact o_p0), (by rw [hR, ← hE]), trivial⟩, rl_0.to (by decide), (fun h0 => ⟨⟨_, m_v_3, r_v_3⟩, trivial⟩), (fun h0 => absurd rfl h0)⟩, hw.1, hw.2.2.2.2.1⟩, by rw [ht]; exact hw.2.1, va_K.moved hW.alike hK, hw.2.2.1⟩, hw.2.2.2.1.F ht⟩) hw.2.2.2.1.2.2 dX10_readNot_8
  · exact absurd (Int32.toInt_inj.mp (by rw [Int32.toInt_zero]; unfold RI at r_v_1; omega)) c9_v_1
