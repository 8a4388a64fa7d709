abbrev wr_X10_spelt__55 : List (Nat × Nat) := []
abbrev wa_X10_spelt__55 : List Nat := []
set_option maxHeartbeats 4000000 in
set_option maxRecDepth 100000 in
theorem c_X10_spelt__55 (l : Launch) (D : va_G) (cy : Nat → ClassId) (z : Nat → Nat) (sz : Nat) (Ps : PSI) (w0 : va_W) (hT : HT cy GG Ps w0) (p0 : Int32) (p1 : Int32) (p2 : Int32) (p3 : Int32) (p4 : Int32) (p5 : Int32) (p6 : Int32) (r_p0 : RI p0 115 115) (r_p1 : RI p1 105 105) (r_p2 : RI p2 122 122) (r_p3 : RI p3 101 101) (r_p4 : RI p4 0 0) (r_p5 : RI p5 0 0) (r_p6 : RI p6 0 0) : Met l yX10_spelt (Cond.code yX10_spelt cX10_spelt 9 (some .long) :: gT) ({ frames := 0, cells := 0, slots := 0, locals := 200 } : Room) (va_Pc [.int p0, .int p1, .int p2, .int p3, .int p4, .int p5, .int p6] (PRE D cy z w0 sz)) (va_Ql (fun (r : Int64) (u : Unit) => ((f_X10_spelt__31 p0 p1 p2 p3 p4 p5 p6) = r ∧ True) ∧ (RJ r 381245 381245)) (BB D cy (va_A w0 sz) (fun (u : Unit) => w0)) (va_A w0 sz)) 0 0 (va_A w0 sz) := by
  refine Met.ofW (cc := cX10_spelt) (maxL := 9) (ret := (some .long)) (by decide) rfl ?_
  intro p e s m args below meth c s₁ B hml hv
  obtain ⟨rfl, hsz, hP, hK, hD0, hSD⟩ := hv
  have hx := B.exec
  have hb := B.bytes
  have hr := B.returns
  have hlocks := B.notSynchronized
  have hts : ∀ w ∈ gT, w.before _ s = true := fun w h => atoms_spec (ws := Cond.code yX10_spelt cX10_spelt 9 (some .long) :: gT) B.pre w (List.mem_cons_of_mem _ h)
  have hown : s.vm.findClass RX10 = some m.cls := findClass_of_methodNamed B.named
  subst hsz
  have hD := hD0.self (sz := s.heap.size)
  generalize hAe : va_A w0 s.heap.size = A at hD hSD ⊢
  have hA : ∀ q : Nat, s.heap.size ≤ q → A q := fun q h => by rw [← hAe]; exact Or.inr h
  have hl := lv_entry ([.int p0, .int p1, .int p2, .int p3, .int p4, .int p5, .int p6]) (n := 9) (Nat.le_of_ble_eq_true rfl)
  rw [lg_entry_eq]
  generalize (lg_sl ([.int p0, .int p1, .int p2, .int p3, .int p4, .int p5, .int p6]) ++ List.replicate (9 - (lg_sl ([.int p0, .int p1, .int p2, .int p3, .int p4, .int p5, .int p6])).length) Slot.unset).toArray = ls at hl ⊢
  have hl : lv_has ls 9 [(0, .int p0), (1, .int p1), (2, .int p2), (3, .int p3), (4, .int p4), (5, .int p5), (6, .int p6)] := hl
  refine nameQ (fun Q hQ => ?_)
  have hw : WD D cy GG A s wr_X10_spelt__55 wa_X10_spelt__55 Ps w0 Ps w0 s.heap [] := ⟨hT, hP, hD, va_S.rf, FR.rf, hT.1, [], (List.append_nil _).symm⟩
  obtain ⟨R9, hR⟩ : ∃ q9 : Int64, f_X10_spelt__31 p0 p1 p2 p3 p4 p5 p6 = q9 := ⟨_, rfl⟩
  have hE := hR
  have B99 : ∀ (x7 : Int64) (H : Heap) (locs : List Loc) (ls : Array Slot), RI p0 115 115 → RI p1 105 105 → RI p2 122 122 → RI p3 101 101 → RI p4 0 0 → RI p5 0 0 → RI p6 0 0 → RJ x7 381245 381245 → f_X10_spelt__31_99 p0 p1 p2 p3 p4 p5 p6 x7 = R9 → WD D cy GG A s wr_X10_spelt__55 wa_X10_spelt__55 Ps w0 Ps w0 H locs → lv_has ls 9 [(0, .int p0), (1, .int p1), (2, .int p2), (3, .int p3), (4, .int p4), (5, .int p5), (6, .int p6), (7, .long x7)] → W p l e (headSpec (Cond.code yX10_spelt cX10_spelt 9 (some .long) :: gT) ({ frames := 0, cells := 0, slots := 0, locals := 200 } : Room)).room s m ([.int p0, .int p1, .int p2, .int p3, .int p4, .int p5, .int p6] : List Value).toArray below meth c H locs 0 0 Q (F0 m 99 ls []) := by
    intro x7 H locs ls r_p0 r_p1 r_p2 r_p3 r_p4 r_p5 r_p6 r_x7 hE hw hl
    refine lv_iload hx hb dX10_spelt_99 (lv_at hl 6 rfl) ?_
    refine lv_if_le (tgt := 120) hx hb dX10_spelt_101 (by decide) (fun c_101 => ?_) (fun c_101 => ?_)
    · refine lv_lload hx hb dX10_spelt_120 (lv_at hl 7 rfl) ?_
      simp only [f_X10_spelt__31_99, ↓reduceIte, eq_true c_101] at hE
      subst hQ
      exact W.lret (v := x7) hx hb hr (fun t ht hW => ⟨⟨x7, (), rfl, ⟨⟨(by rw [hR, ← hE]), trivial⟩, r_x7.to (by decide)⟩, by rw [ht]; exact hw.2.1, va_K.moved hW.alike hK, hw.2.2.1⟩, hw.2.2.2.1.F ht⟩) hw.2.2.2.1.2.2 dX10_spelt_122
    · have r_p6 : RI p6 1 0 := rc_lt2 rl_0 r_p6 (ti_nle c_101) (by decide)
      exact (r_p6.no (by decide)).elim
  have B78 : ∀ (x7 : Int64) (H : Heap) (locs : List Loc) (ls : Array Slot), RI p0 115 115 → RI p1 105 105 → RI p2 122 122 → RI p3 101 101 → RI p4 0 0 → RI p5 0 0 → RI p6 0 0 → RJ x7 381245 381245 → f_X10_spelt__31_78 p0 p1 p2 p3 p4 p5 p6 x7 = R9 → WD D cy GG A s wr_X10_spelt__55 wa_X10_spelt__55 Ps w0 Ps w0 H locs → lv_has ls 9 [(0, .int p0), (1, .int p1), (2, .int p2), (3, .int p3), (4, .int p4), (5, .int p5), (6, .int p6), (7, .long x7)] → W p l e (headSpec (Cond.code yX10_spelt cX10_spelt 9 (some .long) :: gT) ({ frames := 0, cells := 0, slots := 0, locals := 200 } : Room)).room s m ([.int p0, .int p1, .int p2, .int p3, .int p4, .int p5, .int p6] : List Value).toArray below meth c H locs 0 0 Q (F0 m 78 ls []) := by
    intro x7 H locs ls r_p0 r_p1 r_p2 r_p3 r_p4 r_p5 r_p6 r_x7 hE hw hl
    refine lv_iload hx hb dX10_spelt_78 (lv_at hl 5 rfl) ?_
    refine lv_if_le (tgt := 99) hx hb dX10_spelt_80 (by decide) (fun c_80 => ?_) (fun c_80 => ?_)
    · simp only [f_X10_spelt__31_78, ↓reduceIte, eq_true c_80] at hE
      exact B99 x7 _ _ ls r_p0 r_p1 r_p2 r_p3 r_p4 r_p5 r_p6 r_x7 hE hw hl
    · have r_p5 : RI p5 1 0 := rc_lt2 rl_0 r_p5 (ti_nle c_80) (by decide)
      exact (r_p5.no (by decide)).elim
  have B57 : ∀ (x7 : Int64) (H : Heap) (locs : List Loc) (ls : Array Slot), RI p0 115 115 → RI p1 105 105 → RI p2 122 122 → RI p3 101 101 → RI p4 0 0 → RI p5 0 0 → RI p6 0 0 → RJ x7 381245 381245 → f_X10_spelt__31_57 p0 p1 p2 p3 p4 p5 p6 x7 = R9 → WD D cy GG A s wr_X10_spelt__55 wa_X10_spelt__55 Ps w0 Ps w0 H locs → lv_has ls 9 [(0, .int p0), (1, .int p1), (2, .int p2), (3, .int p3), (4, .int p4), (5, .int p5), (6, .int p6), (7, .long x7)] → W p l e (headSpec (Cond.code yX10_spelt cX10_spelt 9 (some .long) :: gT) ({ frames := 0, cells := 0, slots := 0, locals := 200 } : Room)).room s m ([.int p0, .int p1, .int p2, .int p3, .int p4, .int p5, .int p6] : List Value).toArray below meth c H locs 0 0 Q (F0 m 57 ls []) := by
    intro x7 H locs ls r_p0 r_p1 r_p2 r_p3 r_p4 r_p5 r_p6 r_x7 hE hw hl
    refine lv_iload hx hb dX10_spelt_57 (lv_at hl 4 rfl) ?_
    refine lv_if_le (tgt := 78) hx hb dX10_spelt_59 (by decide) (fun c_59 => ?_) (fun c_59 => ?_)
    · simp only [f_X10_spelt__31_57, ↓reduceIte, eq_true c_59] at hE
      exact B78 x7 _ _ ls r_p0 r_p1 r_p2 r_p3 r_p4 r_p5 r_p6 r_x7 hE hw hl
    · have r_p4 : RI p4 1 0 := rc_lt2 rl_0 r_p4 (ti_nle c_59) (by decide)
      exact (r_p4.no (by decide)).elim
  have B38 : ∀ (x7 : Int64) (H : Heap) (locs : List Loc) (ls : Array Slot), RI p0 115 115 → RI p1 105 105 → RI p2 122 122 → RI p3 101 101 → RI p4 0 0 → RI p5 0 0 → RI p6 0 0 → RJ x7 14120 14120 → f_X10_spelt__31_38 p0 p1 p2 p3 p4 p5 p6 x7 = R9 → WD D cy GG A s wr_X10_spelt__55 wa_X10_spelt__55 Ps w0 Ps w0 H locs → lv_has ls 9 [(0, .int p0), (1, .int p1), (2, .int p2), (3, .int p3), (4, .int p4), (5, .int p5), (6, .int p6), (7, .long x7)] → W p l e (headSpec (Cond.code yX10_spelt cX10_spelt 9 (some .long) :: gT) ({ frames := 0, cells := 0, slots := 0, locals := 200 } : Room)).room s m ([.int p0, .int p1, .int p2, .int p3, .int p4, .int p5, .int p6] : List Value).toArray below meth c H locs 0 0 Q (F0 m 38 ls []) := by
    intro x7 H locs ls r_p0 r_p1 r_p2 r_p3 r_p4 r_p5 r_p6 r_x7 hE hw hl
    refine lv_iload_n hx hb dX10_spelt_38 rfl (lv_at hl 3 rfl) ?_
    refine lv_if_le (tgt := 57) hx hb dX10_spelt_39 (by decide) (fun c_39 => ?_) (fun c_39 => ?_)
    · have r_p3 : RI p3 101 0 := rc_le1 r_p3 rl_0 (ti_le c_39) (by decide)
      exact (r_p3.no (by decide)).elim
    · refine lv_ldc2 (v := 27) hx hb hown (hts _ tw_1312) dX10_spelt_42 ?_
      refine lv_lload hx hb dX10_spelt_45 (lv_at hl 7 rfl) ?_
      refine lv_lmul hx hb dX10_spelt_47 (lv_topl (fun w_1 e_w_1 => ?_))
      have r_w_1 := tq_lmul (lo := 381240) (hi := 381240) rk_27 r_x7 (by decide +kernel) e_w_1
      have q_w_1 : (27 : Int64) * x7 = w_1 := e_w_1.symm
      refine lv_iload_n hx hb dX10_spelt_48 rfl (lv_at hl 3 rfl) ?_
      obtain ⟨w_2, e_w_2⟩ : ∃ q9 : Int64, (p3 : Int32).toInt64 = q9 := ⟨_, rfl⟩
      refine lv_i2l (v := w_2) hx hb dX10_spelt_49 e_w_2 ?_
      have r_w_2 := tq_i2l r_p3 e_w_2
      have q_w_2 : Int32.toInt64 p3 = w_2 := e_w_2
      refine lv_ladd hx hb dX10_spelt_50 (lv_topl (fun w_3 e_w_3 => ?_))
      have r_w_3 := tq_ladd (lo := 381341) (hi := 381341) r_w_1 r_w_2 (by decide +kernel) e_w_3
      have q_w_3 : w_1 + w_2 = w_3 := e_w_3.symm
      refine lv_ldc2 (v := 96) hx hb hown (hts _ tw_1313) dX10_spelt_51 ?_
      refine lv_lsub hx hb dX10_spelt_54 (lv_topl (fun w_4 e_w_4 => ?_))
      have r_w_4 := tq_lsub (lo := 381245) (hi := 381245) r_w_3 rk_96 (by decide +kernel) e_w_4
      have q_w_4 : w_3 - (96 : Int64) = w_4 := e_w_4.symm
      refine lv_lstore (lv' := [(7, .long w_4), (0, .int p0), (1, .int p1), (2, .int p2), (3, .int p3), (4, .int p4), (5, .int p5), (6, .int p6)]) hx hb dX10_spelt_55 hl (by decide) rfl (fun ls hl => ?_)
      simp only [f_X10_spelt__31_38, ↓reduceIte, eq_false c_39, q_w_1, q_w_2, q_w_3, q_w_4] at hE
      exact B57 w_4 _ _ ls r_p0 r_p1 r_p2 r_p3 r_p4 r_p5 r_p6 r_w_4 hE hw (lv_sub hl [1, 2, 3, 4, 5, 6, 7, 0] rfl)
  refine lv_ldc2 (v := 27) hx hb hown (hts _ tw_1312) dX10_spelt_0 ?_
  refine lv_iload_n hx hb dX10_spelt_3 rfl (lv_at hl 0 rfl) ?_
  obtain ⟨w_5, e_w_5⟩ : ∃ q9 : Int64, (p0 : Int32).toInt64 = q9 := ⟨_, rfl⟩
  refine lv_i2l (v := w_5) hx hb dX10_spelt_4 e_w_5 ?_
  have r_w_5 := tq_i2l r_p0 e_w_5
  have q_w_5 : Int32.toInt64 p0 = w_5 := e_w_5
  refine lv_ldc2 (v := 96) hx hb hown (hts _ tw_1313) dX10_spelt_5 ?_
  refine lv_lsub hx hb dX10_spelt_8 (lv_topl (fun w_6 e_w_6 => ?_))
  have r_w_6 := tq_lsub (lo := 19) (hi := 19) r_w_5 rk_96 (by decide +kernel) e_w_6
  have q_w_6 : w_5 - (96 : Int64) = w_6 := e_w_6.symm
  refine lv_lmul hx hb dX10_spelt_9 (lv_topl (fun w_7 e_w_7 => ?_))
  have r_w_7 := tq_lmul (lo := 513) (hi := 513) rk_27 r_w_6 (by decide +kernel) e_w_7
  have q_w_7 : (27 : Int64) * w_6 = w_7 := e_w_7.symm
  refine lv_iload_n hx hb dX10_spelt_10 rfl (lv_at hl 1 rfl) ?_
  obtain ⟨w_8, e_w_8⟩ : ∃ q9 : Int64, (p1 : Int32).toInt64 = q9 := ⟨_, rfl⟩
  refine lv_i2l (v := w_8) hx hb dX10_spelt_11 e_w_8 ?_
  have r_w_8 := tq_i2l r_p1 e_w_8
  have q_w_8 : Int32.toInt64 p1 = w_8 := e_w_8
  refine lv_ladd hx hb dX10_spelt_12 (lv_topl (fun w_9 e_w_9 => ?_))
  have r_w_9 := tq_ladd (lo := 618) (hi := 618) r_w_7 r_w_8 (by decide +kernel) e_w_9
  have q_w_9 : w_7 + w_8 = w_9 := e_w_9.symm
  refine lv_ldc2 (v := 96) hx hb hown (hts _ tw_1313) dX10_spelt_13 ?_
  refine lv_lsub hx hb dX10_spelt_16 (lv_topl (fun w_10 e_w_10 => ?_))
  have r_w_10 := tq_lsub (lo := 522) (hi := 522) r_w_9 rk_96 (by decide +kernel) e_w_10
  have q_w_10 : w_9 - (96 : Int64) = w_10 := e_w_10.symm
  refine lv_lstore (lv' := [(7, .long w_10), (0, .int p0), (1, .int p1), (2, .int p2), (3, .int p3), (4, .int p4), (5, .int p5), (6, .int p6)]) hx hb dX10_spelt_17 hl (by decide) rfl (fun ls hl => ?_)
  refine lv_iload_n hx hb dX10_spelt_19 rfl (lv_at hl 3 rfl) ?_
  refine lv_if_le (tgt := 38) hx hb dX10_spelt_20 (by decide) (fun c_20 => ?_) (fun c_20 => ?_)
  · have r_p2 : RI p2 122 0 := rc_le1 r_p2 rl_0 (ti_le c_20) (by decide)
    exact (r_p2.no (by decide)).elim
  · refine lv_ldc2 (v := 27) hx hb hown (hts _ tw_1312) dX10_spelt_23 ?_
    refine lv_lload hx hb dX10_spelt_26 (lv_at hl 0 rfl) ?_
    refine lv_lmul hx hb dX10_spelt_28 (lv_topl (fun w_11 e_w_11 => ?_))
    have r_w_11 := tq_lmul (lo := 14094) (hi := 14094) rk_27 r_w_10 (by decide +kernel) e_w_11
    have q_w_11 : (27 : Int64) * w_10 = w_11 := e_w_11.symm
    refine lv_iload_n hx hb dX10_spelt_29 rfl (lv_at hl 3 rfl) ?_
    obtain ⟨w_12, e_w_12⟩ : ∃ q9 : Int64, (p2 : Int32).toInt64 = q9 := ⟨_, rfl⟩
    refine lv_i2l (v := w_12) hx hb dX10_spelt_30 e_w_12 ?_
    have r_w_12 := tq_i2l r_p2 e_w_12
    have q_w_12 : Int32.toInt64 p2 = w_12 := e_w_12
    refine lv_ladd hx hb dX10_spelt_31 (lv_topl (fun w_13 e_w_13 => ?_))
    have r_w_13 := tq_ladd (lo := 14216) (hi := 14216) r_w_11 r_w_12 (by decide +kernel) e_w_13
    have q_w_13 : w_11 + w_12 = w_13 := e_w_13.symm
    refine lv_ldc2 (v := 96) hx hb hown (hts _ tw_1313) dX10_spelt_32 ?_
    refine lv_lsub hx hb dX10_spelt_35 (lv_topl (fun w_14 e_w_14 => ?_))
    have r_w_14 := tq_lsub (lo := 14120) (hi := 14120) r_w_13 rk_96 (by decide +kernel) e_w_14
    have q_w_14 : w_13 - (96 : Int64) = w_14 := e_w_14.symm
    refine lv_lstore (lv' := [(7, .long w_14), (0, .int p0), (1, .int p1), (2, .int p2), (3, .int p3), (4, .int p4), (5, .int p5), (6, .int p6)]) hx hb dX10_spelt_36 hl (by decide) rfl (fun ls hl => ?_)
    simp only [f_X10_spelt__31, ↓reduceIte, q_w_5, q_w_6, q_w_7, q_w_8, q_w_9, q_w_10, eq_false c_20, q_w_11, q_w_12, q_w_13, q_w_14] at hE
    exact B38 w_14 _ _ ls r_p0 r_p1 r_p2 r_p3 r_p4 r_p5 r_p6 r_w_14 hE hw (lv_sub hl [1, 2, 3, 4, 5, 6, 7, 0] rfl)
abbrev wr_X10_spelt__56 : List (Nat × Nat) := []
abbrev wa_X10_spelt__56 : List Nat := []
set_option maxHeartbeats 4000000 in
set_option maxRecDepth 100000 in
theorem c_X10_spelt__56 (l : Launch) (D : va_G) (cy : Nat → ClassId) (z : Nat → Nat) (sz : Nat) (Ps : PSI) (w0 : va_W) (hT : HT cy GG Ps w0) (p0 : Int32) (p1 : Int32) (p2 : Int32) (p3 : Int32) (p4 : Int32) (p5 : Int32) (p6 : Int32) (r_p0 : RI p0 98 98) (r_p1 : RI p1 117 117) (r_p2 : RI p2 108 108) (r_p3 : RI p3 103 103) (r_p4 : RI p4 101 101) (r_p5 : RI p5 0 0) (r_p6 : RI p6 0 0) : Met l yX10_spelt (Cond.code yX10_spelt cX10_spelt 9 (some .long) :: gT) ({ frames := 0, cells := 0, slots := 0, locals := 200 } : Room) (va_Pc [.int p0, .int p1, .int p2, .int p3, .int p4, .int p5, .int p6] (PRE D cy z w0 sz)) (va_Ql (fun (r : Int64) (u : Unit) => ((f_X10_spelt__39 p0 p1 p2 p3 p4 p5 p6) = r ∧ True) ∧ (RJ r 1485167 1485167)) (BB D cy (va_A w0 sz) (fun (u : Unit) => w0)) (va_A w0 sz)) 0 0 (va_A w0 sz) := by
  refine Met.ofW (cc := cX10_spelt) (maxL := 9) (ret := (some .long)) (by decide) rfl ?_
  intro p e s m args below meth c s₁ B hml hv
  obtain ⟨rfl, hsz, hP, hK, hD0, hSD⟩ := hv
  have hx := B.exec
  have hb := B.bytes
  have hr := B.returns
  have hlocks := B.notSynchronized
  have hts : ∀ w ∈ gT, w.before _ s = true := fun w h => atoms_spec (ws := Cond.code yX10_spelt cX10_spelt 9 (some .long) :: gT) B.pre w (List.mem_cons_of_mem _ h)
  have hown : s.vm.findClass RX10 = some m.cls := findClass_of_methodNamed B.named
  subst hsz
  have hD := hD0.self (sz := s.heap.size)
  generalize hAe : va_A w0 s.heap.size = A at hD hSD ⊢
  have hA : ∀ q : Nat, s.heap.size ≤ q → A q := fun q h => by rw [← hAe]; exact Or.inr h
  have hl := lv_entry ([.int p0, .int p1, .int p2, .int p3, .int p4, .int p5, .int p6]) (n := 9) (Nat.le_of_ble_eq_true rfl)
  rw [lg_entry_eq]
  generalize (lg_sl ([.int p0, .int p1, .int p2, .int p3, .int p4, .int p5, .int p6]) ++ List.replicate (9 - (lg_sl ([.int p0, .int p1, .int p2, .int p3, .int p4, .int p5, .int p6])).length) Slot.unset).toArray = ls at hl ⊢
  have hl : lv_has ls 9 [(0, .int p0), (1, .int p1), (2, .int p2), (3, .int p3), (4, .int p4), (5, .int p5), (6, .int p6)] := hl
  refine nameQ (fun Q hQ => ?_)
  have hw : WD D cy GG A s wr_X10_spelt__56 wa_X10_spelt__56 Ps w0 Ps w0 s.heap [] := ⟨hT, hP, hD, va_S.rf, FR.rf, hT.1, [], (List.append_nil _).symm⟩
  obtain ⟨R9, hR⟩ : ∃ q9 : Int64, f_X10_spelt__39 p0 p1 p2 p3 p4 p5 p6 = q9 := ⟨_, rfl⟩
  have hE := hR
  have B99 : ∀ (x7 : Int64) (H : Heap) (locs : List Loc) (ls : Array Slot), RI p0 98 98 → RI p1 117 117 → RI p2 108 108 → RI p3 103 103 → RI p4 101 101 → RI p5 0 0 → RI p6 0 0 → RJ x7 1485167 1485167 → f_X10_spelt__39_99 p0 p1 p2 p3 p4 p5 p6 x7 = R9 → WD D cy GG A s wr_X10_spelt__56 wa_X10_spelt__56 Ps w0 Ps w0 H locs → lv_has ls 9 [(0, .int p0), (1, .int p1), (2, .int p2), (3, .int p3), (4, .int p4), (5, .int p5), (6, .int p6), (7, .long x7)] → W p l e (headSpec (Cond.code yX10_spelt cX10_spelt 9 (some .long) :: gT) ({ frames := 0, cells := 0, slots := 0, locals := 200 } : Room)).room s m ([.int p0, .int p1, .int p2, .int p3, .int p4, .int p5, .int p6] : List Value).toArray below meth c H locs 0 0 Q (F0 m 99 ls []) := by
    intro x7 H locs ls r_p0 r_p1 r_p2 r_p3 r_p4 r_p5 r_p6 r_x7 hE hw hl
    refine lv_iload hx hb dX10_spelt_99 (lv_at hl 6 rfl) ?_
    refine lv_if_le (tgt := 120) hx hb dX10_spelt_101 (by decide) (fun c_101 => ?_) (fun c_101 => ?_)
    · refine lv_lload hx hb dX10_spelt_120 (lv_at hl 7 rfl) ?_
      simp only [f_X10_spelt__39_99, ↓reduceIte, eq_true c_101] at hE
      subst hQ
      exact W.lret (v := x7) hx hb hr (fun t ht hW => ⟨⟨x7, (), rfl, ⟨⟨(by rw [hR, ← hE]), trivial⟩, r_x7.to (by decide)⟩, by rw [ht]; exact hw.2.1, va_K.moved hW.alike hK, hw.2.2.1⟩, hw.2.2.2.1.F ht⟩) hw.2.2.2.1.2.2 dX10_spelt_122
    · have r_p6 : RI p6 1 0 := rc_lt2 rl_0 r_p6 (ti_nle c_101) (by decide)
      exact (r_p6.no (by decide)).elim
  have B78 : ∀ (x7 : Int64) (H : Heap) (locs : List Loc) (ls : Array Slot), RI p0 98 98 → RI p1 117 117 → RI p2 108 108 → RI p3 103 103 → RI p4 101 101 → RI p5 0 0 → RI p6 0 0 → RJ x7 1485167 1485167 → f_X10_spelt__39_78 p0 p1 p2 p3 p4 p5 p6 x7 = R9 → WD D cy GG A s wr_X10_spelt__56 wa_X10_spelt__56 Ps w0 Ps w0 H locs → lv_has ls 9 [(0, .int p0), (1, .int p1), (2, .int p2), (3, .int p3), (4, .int p4), (5, .int p5), (6, .int p6), (7, .long x7)] → W p l e (headSpec (Cond.code yX10_spelt cX10_spelt 9 (some .long) :: gT) ({ frames := 0, cells := 0, slots := 0, locals := 200 } : Room)).room s m ([.int p0, .int p1, .int p2, .int p3, .int p4, .int p5, .int p6] : List Value).toArray below meth c H locs 0 0 Q (F0 m 78 ls []) := by
    intro x7 H locs ls r_p0 r_p1 r_p2 r_p3 r_p4 r_p5 r_p6 r_x7 hE hw hl
    refine lv_iload hx hb dX10_spelt_78 (lv_at hl 5 rfl) ?_
    refine lv_if_le (tgt := 99) hx hb dX10_spelt_80 (by decide) (fun c_80 => ?_) (fun c_80 => ?_)
    · simp only [f_X10_spelt__39_78, ↓reduceIte, eq_true c_80] at hE
      exact B99 x7 _ _ ls r_p0 r_p1 r_p2 r_p3 r_p4 r_p5 r_p6 r_x7 hE hw hl
    · have r_p5 : RI p5 1 0 := rc_lt2 rl_0 r_p5 (ti_nle c_80) (by decide)
      exact (r_p5.no (by decide)).elim
  have B57 : ∀ (x7 : Int64) (H : Heap) (locs : List Loc) (ls : Array Slot), RI p0 98 98 → RI p1 117 117 → RI p2 108 108 → RI p3 103 103 → RI p4 101 101 → RI p5 0 0 → RI p6 0 0 → RJ x7 55006 55006 → f_X10_spelt__39_57 p0 p1 p2 p3 p4 p5 p6 x7 = R9 → WD D cy GG A s wr_X10_spelt__56 wa_X10_spelt__56 Ps w0 Ps w0 H locs → lv_has ls 9 [(0, .int p0), (1, .int p1), (2, .int p2), (3, .int p3), (4, .int p4), (5, .int p5), (6, .int p6), (7, .long x7)] → W p l e (headSpec (Cond.code yX10_spelt cX10_spelt 9 (some .long) :: gT) ({ frames := 0, cells := 0, slots := 0, locals := 200 } : Room)).room s m ([.int p0, .int p1, .int p2, .int p3, .int p4, .int p5, .int p6] : List Value).toArray below meth c H locs 0 0 Q (F0 m 57 ls []) := by
    intro x7 H locs ls r_p0 r_p1 r_p2 r_p3 r_p4 r_p5 r_p6 r_x7 hE hw hl
    refine lv_iload hx hb dX10_spelt_57 (lv_at hl 4 rfl) ?_
    refine lv_if_le (tgt := 78) hx hb dX10_spelt_59 (by decide) (fun c_59 => ?_) (fun c_59 => ?_)
    · have r_p4 : RI p4 101 0 := rc_le1 r_p4 rl_0 (ti_le c_59) (by decide)
      exact (r_p4.no (by decide)).elim
    · refine lv_ldc2 (v := 27) hx hb hown (hts _ tw_1312) dX10_spelt_62 ?_
      refine lv_lload hx hb dX10_spelt_65 (lv_at hl 7 rfl) ?_
      refine lv_lmul hx hb dX10_spelt_67 (lv_topl (fun w_1 e_w_1 => ?_))
      have r_w_1 := tq_lmul (lo := 1485162) (hi := 1485162) rk_27 r_x7 (by decide +kernel) e_w_1
      have q_w_1 : (27 : Int64) * x7 = w_1 := e_w_1.symm
      refine lv_iload hx hb dX10_spelt_68 (lv_at hl 4 rfl) ?_
      obtain ⟨w_2, e_w_2⟩ : ∃ q9 : Int64, (p4 : Int32).toInt64 = q9 := ⟨_, rfl⟩
      refine lv_i2l (v := w_2) hx hb dX10_spelt_70 e_w_2 ?_
      have r_w_2 := tq_i2l r_p4 e_w_2
      have q_w_2 : Int32.toInt64 p4 = w_2 := e_w_2
      refine lv_ladd hx hb dX10_spelt_71 (lv_topl (fun w_3 e_w_3 => ?_))
      have r_w_3 := tq_ladd (lo := 1485263) (hi := 1485263) r_w_1 r_w_2 (by decide +kernel) e_w_3
      have q_w_3 : w_1 + w_2 = w_3 := e_w_3.symm
      refine lv_ldc2 (v := 96) hx hb hown (hts _ tw_1313) dX10_spelt_72 ?_
      refine lv_lsub hx hb dX10_spelt_75 (lv_topl (fun w_4 e_w_4 => ?_))
      have r_w_4 := tq_lsub (lo := 1485167) (hi := 1485167) r_w_3 rk_96 (by decide +kernel) e_w_4
      have q_w_4 : w_3 - (96 : Int64) = w_4 := e_w_4.symm
      refine lv_lstore (lv' := [(7, .long w_4), (0, .int p0), (1, .int p1), (2, .int p2), (3, .int p3), (4, .int p4), (5, .int p5), (6, .int p6)]) hx hb dX10_spelt_76 hl (by decide) rfl (fun ls hl => ?_)
      simp only [f_X10_spelt__39_57, ↓reduceIte, eq_false c_59, q_w_1, q_w_2, q_w_3, q_w_4] at hE
      exact B78 w_4 _ _ ls r_p0 r_p1 r_p2 r_p3 r_p4 r_p5 r_p6 r_w_4 hE hw (lv_sub hl [1, 2, 3, 4, 5, 6, 7, 0] rfl)
  have B38 : ∀ (x7 : Int64) (H : Heap) (locs : List Loc) (ls : Array Slot), RI p0 98 98 → RI p1 117 117 → RI p2 108 108 → RI p3 103 103 → RI p4 101 101 → RI p5 0 0 → RI p6 0 0 → RJ x7 2037 2037 → f_X10_spelt__39_38 p0 p1 p2 p3 p4 p5 p6 x7 = R9 → WD D cy GG A s wr_X10_spelt__56 wa_X10_spelt__56 Ps w0 Ps w0 H locs → lv_has ls 9 [(0, .int p0), (1, .int p1), (2, .int p2), (3, .int p3), (4, .int p4), (5, .int p5), (6, .int p6), (7, .long x7)] → W p l e (headSpec (Cond.code yX10_spelt cX10_spelt 9 (some .long) :: gT) ({ frames := 0, cells := 0, slots := 0, locals := 200 } : Room)).room s m ([.int p0, .int p1, .int p2, .int p3, .int p4, .int p5, .int p6] : List Value).toArray below meth c H locs 0 0 Q (F0 m 38 ls []) := by
    intro x7 H locs ls r_p0 r_p1 r_p2 r_p3 r_p4 r_p5 r_p6 r_x7 hE hw hl
    refine lv_iload_n hx hb dX10_spelt_38 rfl (lv_at hl 3 rfl) ?_
    refine lv_if_le (tgt := 57) hx hb dX10_spelt_39 (by decide) (fun c_39 => ?_) (fun c_39 => ?_)
    · have r_p3 : RI p3 103 0 := rc_le1 r_p3 rl_0 (ti_le c_39) (by decide)
      exact (r_p3.no (by decide)).elim
    · refine lv_ldc2 (v := 27) hx hb hown (hts _ tw_1312) dX10_spelt_42 ?_
      refine lv_lload hx hb dX10_spelt_45 (lv_at hl 7 rfl) ?_
      refine lv_lmul hx hb dX10_spelt_47 (lv_topl (fun w_5 e_w_5 => ?_))
      have r_w_5 := tq_lmul (lo := 54999) (hi := 54999) rk_27 r_x7 (by decide +kernel) e_w_5
      have q_w_5 : (27 : Int64) * x7 = w_5 := e_w_5.symm
      refine lv_iload_n hx hb dX10_spelt_48 rfl (lv_at hl 3 rfl) ?_
      obtain ⟨w_6, e_w_6⟩ : ∃ q9 : Int64, (p3 : Int32).toInt64 = q9 := ⟨_, rfl⟩
      refine lv_i2l (v := w_6) hx hb dX10_spelt_49 e_w_6 ?_
      have r_w_6 := tq_i2l r_p3 e_w_6
      have q_w_6 : Int32.toInt64 p3 = w_6 := e_w_6
      refine lv_ladd hx hb dX10_spelt_50 (lv_topl (fun w_7 e_w_7 => ?_))
      have r_w_7 := tq_ladd (lo := 55102) (hi := 55102) r_w_5 r_w_6 (by decide +kernel) e_w_7
      have q_w_7 : w_5 + w_6 = w_7 := e_w_7.symm
      refine lv_ldc2 (v := 96) hx hb hown (hts _ tw_1313) dX10_spelt_51 ?_
      refine lv_lsub hx hb dX10_spelt_54 (lv_topl (fun w_8 e_w_8 => ?_))
      have r_w_8 := tq_lsub (lo := 55006) (hi := 55006) r_w_7 rk_96 (by decide +kernel) e_w_8
      have q_w_8 : w_7 - (96 : Int64) = w_8 := e_w_8.symm
      refine lv_lstore (lv' := [(7, .long w_8), (0, .int p0), (1, .int p1), (2, .int p2), (3, .int p3), (4, .int p4), (5, .int p5), (6, .int p6)]) hx hb dX10_spelt_55 hl (by decide) rfl (fun ls hl => ?_)
      simp only [f_X10_spelt__39_38, ↓reduceIte, eq_false c_39, q_w_5, q_w_6, q_w_7, q_w_8] at hE
      exact B57 w_8 _ _ ls r_p0 r_p1 r_p2 r_p3 r_p4 r_p5 r_p6 r_w_8 hE hw (lv_sub hl [1, 2, 3, 4, 5, 6, 7, 0] rfl)
  refine lv_ldc2 (v := 27) hx hb hown (hts _ tw_1312) dX10_spelt_0 ?_
  refine lv_iload_n hx hb dX10_spelt_3 rfl (lv_at hl 0 rfl) ?_
  obtain ⟨w_9, e_w_9⟩ : ∃ q9 : Int64, (p0 : Int32).toInt64 = q9 := ⟨_, rfl⟩
  refine lv_i2l (v := w_9) hx hb dX10_spelt_4 e_w_9 ?_
  have r_w_9 := tq_i2l r_p0 e_w_9
  have q_w_9 : Int32.toInt64 p0 = w_9 := e_w_9
  refine lv_ldc2 (v := 96) hx hb hown (hts _ tw_1313) dX10_spelt_5 ?_
  refine lv_lsub hx hb dX10_spelt_8 (lv_topl (fun w_10 e_w_10 => ?_))
  have r_w_10 := tq_lsub (lo := 2) (hi := 2) r_w_9 rk_96 (by decide +kernel) e_w_10
  have q_w_10 : w_9 - (96 : Int64) = w_10 := e_w_10.symm
  refine lv_lmul hx hb dX10_spelt_9 (lv_topl (fun w_11 e_w_11 => ?_))
  have r_w_11 := tq_lmul (lo := 54) (hi := 54) rk_27 r_w_10 (by decide +kernel) e_w_11
  have q_w_11 : (27 : Int64) * w_10 = w_11 := e_w_11.symm
  refine lv_iload_n hx hb dX10_spelt_10 rfl (lv_at hl 1 rfl) ?_
  obtain ⟨w_12, e_w_12⟩ : ∃ q9 : Int64, (p1 : Int32).toInt64 = q9 := ⟨_, rfl⟩
  refine lv_i2l (v := w_12) hx hb dX10_spelt_11 e_w_12 ?_
  have r_w_12 := tq_i2l r_p1 e_w_12
  have q_w_12 : Int32.toInt64 p1 = w_12 := e_w_12
  refine lv_ladd hx hb dX10_spelt_12 (lv_topl (fun w_13 e_w_13 => ?_))
  have r_w_13 := tq_ladd (lo := 171) (hi := 171) r_w_11 r_w_12 (by decide +kernel) e_w_13
  have q_w_13 : w_11 + w_12 = w_13 := e_w_13.symm
  refine lv_ldc2 (v := 96) hx hb hown (hts _ tw_1313) dX10_spelt_13 ?_
  refine lv_lsub hx hb dX10_spelt_16 (lv_topl (fun w_14 e_w_14 => ?_))
  have r_w_14 := tq_lsub (lo := 75) (hi := 75) r_w_13 rk_96 (by decide +kernel) e_w_14
  have q_w_14 : w_13 - (96 : Int64) = w_14 := e_w_14.symm
  refine lv_lstore (lv' := [(7, .long w_14), (0, .int p0), (1, .int p1), (2, .int p2), (3, .int p3), (4, .int p4), (5, .int p5), (6, .int p6)]) hx hb dX10_spelt_17 hl (by decide) rfl (fun ls hl => ?_)
  refine lv_iload_n hx hb dX10_spelt_19 rfl (lv_at hl 3 rfl) ?_
  refine lv_if_le (tgt := 38) hx hb dX10_spelt_20 (by decide) (fun c_20 => ?_) (fun c_20 => ?_)
  · have r_p2 : RI p2 108 0 := rc_le1 r_p2 rl_0 (ti_le c_20) (by decide)
    exact (r_p2.no (by decide)).elim
  · refine lv_ldc2 (v := 27) hx hb hown (hts _ tw_1312) dX10_spelt_23 ?_
    refine lv_lload hx hb dX10_spelt_26 (lv_at hl 0 rfl) ?_
    refine lv_lmul hx hb dX10_spelt_28 (lv_topl (fun w_15 e_w_15 => ?_))
    have r_w_15 := tq_lmul (lo := 2025) (hi := 2025) rk_27 r_w_14 (by decide +kernel) e_w_15
    have q_w_15 : (27 : Int64) * w_14 = w_15 := e_w_15.symm
    refine lv_iload_n hx hb dX10_spelt_29 rfl (lv_at hl 3 rfl) ?_
    obtain ⟨w_16, e_w_16⟩ : ∃ q9 : Int64, (p2 : Int32).toInt64 = q9 := ⟨_, rfl⟩
    refine lv_i2l (v := w_16) hx hb dX10_spelt_30 e_w_16 ?_
    have r_w_16 := tq_i2l r_p2 e_w_16
    have q_w_16 : Int32.toInt64 p2 = w_16 := e_w_16
    refine lv_ladd hx hb dX10_spelt_31 (lv_topl (fun w_17 e_w_17 => ?_))
    have r_w_17 := tq_ladd (lo := 2133) (hi := 2133) r_w_15 r_w_16 (by decide +kernel) e_w_17
    have q_w_17 : w_15 + w_16 = w_17 := e_w_17.symm
    refine lv_ldc2 (v := 96) hx hb hown (hts _ tw_1313) dX10_spelt_32 ?_
    refine lv_lsub hx hb dX10_spelt_35 (lv_topl (fun w_18 e_w_18 => ?_))
    have r_w_18 := tq_lsub (lo := 2037) (hi := 2037) r_w_17 rk_96 (by decide +kernel) e_w_18
    have q_w_18 : w_17 - (96 : Int64) = w_18 := e_w_18.symm
    refine lv_lstore (lv' := [(7, .long w_18), (0, .int p0), (1, .int p1), (2, .int p2), (3, .int p3), (4, .int p4), (5, .int p5), (6, .int p6)]) hx hb dX10_spelt_36 hl (by decide) rfl (fun ls hl => ?_)
    simp only [f_X10_spelt__39, ↓reduceIte, q_w_9, q_w_10, q_w_11, q_w_12, q_w_13, q_w_14, eq_false c_20, q_w_15, q_w_16, q_w_17, q_w_18] at hE
    exact B38 w_18 _ _ ls r_p0 r_p1 r_p2 r_p3 r_p4 r_p5 r_p6 r_w_18 hE hw (lv_sub hl [1, 2, 3, 4, 5, 6, 7, 0] rfl)
abbrev wr_X10_spelt__57 : List (Nat × Nat) := []
abbrev wa_X10_spelt__57 : List Nat := []
set_option maxHeartbeats 4000000 in
set_option maxRecDepth 100000 in
theorem c_X10_spelt__57 (l : Launch) (D : va_G) (cy : Nat → ClassId) (z : Nat → Nat) (sz : Nat) (Ps : PSI) (w0 : va_W) (hT : HT cy GG Ps w0) (p0 : Int32) (p1 : Int32) (p2 : Int32) (p3 : Int32) (p4 : Int32) (p5 : Int32) (p6 : Int32) (r_p0 : RI p0 116 116) (r_p1 : RI p1 117 117) (r_p2 : RI p2 114 114) (r_p3 : RI p3 110 110) (r_p4 : RI p4 101 101) (r_p5 : RI p5 100 100) (r_p6 : RI p6 0 0) : Met l yX10_spelt (Cond.code yX10_spelt cX10_spelt 9 (some .long) :: gT) ({ frames := 0, cells := 0, slots := 0, locals := 200 } : Room) (va_Pc [.int p0, .int p1, .int p2, .int p3, .int p4, .int p5, .int p6] (PRE D cy z w0 sz)) (va_Ql (fun (r : Int64) (u : Unit) => ((f_X10_spelt__30 p0 p1 p2 p3 p4 p5 p6) = r ∧ True) ∧ (RJ r 298503040 298503040)) (BB D cy (va_A w0 sz) (fun (u : Unit) => w0)) (va_A w0 sz)) 0 0 (va_A w0 sz) := by
  refine Met.ofW (cc := cX10_spelt) (maxL := 9) (ret := (some .long)) (by decide) rfl ?_
  intro p e s m args below meth c s₁ B hml hv
  obtain ⟨rfl, hsz, hP, hK, hD0, hSD⟩ := hv
  have hx := B.exec
  have hb := B.bytes
  have hr := B.returns
  have hlocks := B.notSynchronized
  have hts : ∀ w ∈ gT, w.before _ s = true := fun w h => atoms_spec (ws := Cond.code yX10_spelt cX10_spelt 9 (some .long) :: gT) B.pre w (List.mem_cons_of_mem _ h)
  have hown : s.vm.findClass RX10 = some m.cls := findClass_of_methodNamed B.named
  subst hsz
  have hD := hD0.self (sz := s.heap.size)
  generalize hAe : va_A w0 s.heap.size = A at hD hSD ⊢
  have hA : ∀ q : Nat, s.heap.size ≤ q → A q := fun q h => by rw [← hAe]; exact Or.inr h
  have hl := lv_entry ([.int p0, .int p1, .int p2, .int p3, .int p4, .int p5, .int p6]) (n := 9) (Nat.le_of_ble_eq_true rfl)
  rw [lg_entry_eq]
  generalize (lg_sl ([.int p0, .int p1, .int p2, .int p3, .int p4, .int p5, .int p6]) ++ List.replicate (9 - (lg_sl ([.int p0, .int p1, .int p2, .int p3, .int p4, .int p5, .int p6])).length) Slot.unset).toArray = ls at hl ⊢
  have hl : lv_has ls 9 [(0, .int p0), (1, .int p1), (2, .int p2), (3, .int p3), (4, .int p4), (5, .int p5), (6, .int p6)] := hl
  refine nameQ (fun Q hQ => ?_)
  have hw : WD D cy GG A s wr_X10_spelt__57 wa_X10_spelt__57 Ps w0 Ps w0 s.heap [] := ⟨hT, hP, hD, va_S.rf, FR.rf, hT.1, [], (List.append_nil _).symm⟩
  obtain ⟨R9, hR⟩ : ∃ q9 : Int64, f_X10_spelt__30 p0 p1 p2 p3 p4 p5 p6 = q9 := ⟨_, rfl⟩
  have hE := hR
  have B99 : ∀ (x7 : Int64) (H : Heap) (locs : List Loc) (ls : Array Slot), RI p0 116 116 → RI p1 117 117 → RI p2 114 114 → RI p3 110 110 → RI p4 101 101 → RI p5 100 100 → RI p6 0 0 → RJ x7 298503040 298503040 → f_X10_spelt__30_99 p0 p1 p2 p3 p4 p5 p6 x7 = R9 → WD D cy GG A s wr_X10_spelt__57 wa_X10_spelt__57 Ps w0 Ps w0 H locs → lv_has ls 9 [(0, .int p0), (1, .int p1), (2, .int p2), (3, .int p3), (4, .int p4), (5, .int p5), (6, .int p6), (7, .long x7)] → W p l e (headSpec (Cond.code yX10_spelt cX10_spelt 9 (some .long) :: gT) ({ frames := 0, cells := 0, slots := 0, locals := 200 } : Room)).room s m ([.int p0, .int p1, .int p2, .int p3, .int p4, .int p5, .int p6] : List Value).toArray below meth c H locs 0 0 Q (F0 m 99 ls []) := by
    intro x7 H locs ls r_p0 r_p1 r_p2 r_p3 r_p4 r_p5 r_p6 r_x7 hE hw hl
    refine lv_iload hx hb dX10_spelt_99 (lv_at hl 6 rfl) ?_
    refine lv_if_le (tgt := 120) hx hb dX10_spelt_101 (by decide) (fun c_101 => ?_) (fun c_101 => ?_)
    · refine lv_lload hx hb dX10_spelt_120 (lv_at hl 7 rfl) ?_
      simp only [f_X10_spelt__30_99, ↓reduceIte, eq_true c_101] at hE
      subst hQ
      exact W.lret (v := x7) hx hb hr (fun t ht hW => ⟨⟨x7, (), rfl, ⟨⟨(by rw [hR, ← hE]), trivial⟩, r_x7.to (by decide)⟩, by rw [ht]; exact hw.2.1, va_K.moved hW.alike hK, hw.2.2.1⟩, hw.2.2.2.1.F ht⟩) hw.2.2.2.1.2.2 dX10_spelt_122
    · have r_p6 : RI p6 1 0 := rc_lt2 rl_0 r_p6 (ti_nle c_101) (by decide)
      exact (r_p6.no (by decide)).elim
  have B78 : ∀ (x7 : Int64) (H : Heap) (locs : List Loc) (ls : Array Slot), RI p0 116 116 → RI p1 117 117 → RI p2 114 114 → RI p3 110 110 → RI p4 101 101 → RI p5 100 100 → RI p6 0 0 → RJ x7 11055668 11055668 → f_X10_spelt__30_78 p0 p1 p2 p3 p4 p5 p6 x7 = R9 → WD D cy GG A s wr_X10_spelt__57 wa_X10_spelt__57 Ps w0 Ps w0 H locs → lv_has ls 9 [(0, .int p0), (1, .int p1), (2, .int p2), (3, .int p3), (4, .int p4), (5, .int p5), (6, .int p6), (7, .long x7)] → W p l e (headSpec (Cond.code yX10_spelt cX10_spelt 9 (some .long) :: gT) ({ frames := 0, cells := 0, slots := 0, locals := 200 } : Room)).room s m ([.int p0, .int p1, .int p2, .int p3, .int p4, .int p5, .int p6] : List Value).toArray below meth c H locs 0 0 Q (F0 m 78 ls []) := by
    intro x7 H locs ls r_p0 r_p1 r_p2 r_p3 r_p4 r_p5 r_p6 r_x7 hE hw hl
    refine lv_iload hx hb dX10_spelt_78 (lv_at hl 5 rfl) ?_
    refine lv_if_le (tgt := 99) hx hb dX10_spelt_80 (by decide) (fun c_80 => ?_) (fun c_80 => ?_)
    · have r_p5 : RI p5 100 0 := rc_le1 r_p5 rl_0 (ti_le c_80) (by decide)
      exact (r_p5.no (by decide)).elim
    · refine lv_ldc2 (v := 27) hx hb hown (hts _ tw_1312) dX10_spelt_83 ?_
      refine lv_lload hx hb dX10_spelt_86 (lv_at hl 7 rfl) ?_
      refine lv_lmul hx hb dX10_spelt_88 (lv_topl (fun w_1 e_w_1 => ?_))
      have r_w_1 := tq_lmul (lo := 298503036) (hi := 298503036) rk_27 r_x7 (by decide +kernel) e_w_1
      have q_w_1 : (27 : Int64) * x7 = w_1 := e_w_1.symm
      refine lv_iload hx hb dX10_spelt_89 (lv_at hl 5 rfl) ?_
      obtain ⟨w_2, e_w_2⟩ : ∃ q9 : Int64, (p5 : Int32).toInt64 = q9 := ⟨_, rfl⟩
      refine lv_i2l (v := w_2) hx hb dX10_spelt_91 e_w_2 ?_
      have r_w_2 := tq_i2l r_p5 e_w_2
      have q_w_2 : Int32.toInt64 p5 = w_2 := e_w_2
      refine lv_ladd hx hb dX10_spelt_92 (lv_topl (fun w_3 e_w_3 => ?_))
      have r_w_3 := tq_ladd (lo := 298503136) (hi := 298503136) r_w_1 r_w_2 (by decide +kernel) e_w_3
      have q_w_3 : w_1 + w_2 = w_3 := e_w_3.symm
      refine lv_ldc2 (v := 96) hx hb hown (hts _ tw_1313) dX10_spelt_93 ?_
      refine lv_lsub hx hb dX10_spelt_96 (lv_topl (fun w_4 e_w_4 => ?_))
      have r_w_4 := tq_lsub (lo := 298503040) (hi := 298503040) r_w_3 rk_96 (by decide +kernel) e_w_4
      have q_w_4 : w_3 - (96 : Int64) = w_4 := e_w_4.symm
      refine lv_lstore (lv' := [(7, .long w_4), (0, .int p0), (1, .int p1), (2, .int p2), (3, .int p3), (4, .int p4), (5, .int p5), (6, .int p6)]) hx hb dX10_spelt_97 hl (by decide) rfl (fun ls hl => ?_)
      simp only [f_X10_spelt__30_78, ↓reduceIte, eq_false c_80, q_w_1, q_w_2, q_w_3, q_w_4] at hE
      exact B99 w_4 _ _ ls r_p0 r_p1 r_p2 r_p3 r_p4 r_p5 r_p6 r_w_4 hE hw (lv_sub hl [1, 2, 3, 4, 5, 6, 7, 0] rfl)
  have B57 : ∀ (x7 : Int64) (H : Heap) (locs : List Loc) (ls : Array Slot), RI p0 116 116 → RI p1 117 117 → RI p2 114 114 → RI p3 110 110 → RI p4 101 101 → RI p5 100 100 → RI p6 0 0 → RJ x7 409469 409469 → f_X10_spelt__30_57 p0 p1 p2 p3 p4 p5 p6 x7 = R9 → WD D cy GG A s wr_X10_spelt__57 wa_X10_spelt__57 Ps w0 Ps w0 H locs → lv_has ls 9 [(0, .int p0), (1, .int p1), (2, .int p2), (3, .int p3), (4, .int p4), (5, .int p5), (6, .int p6), (7, .long x7)] → W p l e (headSpec (Cond.code yX10_spelt cX10_spelt 9 (some .long) :: gT) ({ frames := 0, cells := 0, slots := 0, locals := 200 } : Room)).room s m ([.int p0, .int p1, .int p2, .int p3, .int p4, .int p5, .int p6] : List Value).toArray below meth c H locs 0 0 Q (F0 m 57 ls []) := by
    intro x7 H locs ls r_p0 r_p1 r_p2 r_p3 r_p4 r_p5 r_p6 r_x7 hE hw hl
    refine lv_iload hx hb dX10_spelt_57 (lv_at hl 4 rfl) ?_
    refine lv_if_le (tgt := 78) hx hb dX10_spelt_59 (by decide) (fun c_59 => ?_) (fun c_59 => ?_)
    · have r_p4 : RI p4 101 0 := rc_le1 r_p4 rl_0 (ti_le c_59) (by decide)
      exact (r_p4.no (by decide)).elim
    · refine lv_ldc2 (v := 27) hx hb hown (hts _ tw_1312) dX10_spelt_62 ?_
      refine lv_lload hx hb dX10_spelt_65 (lv_at hl 7 rfl) ?_
      refine lv_lmul hx hb dX10_spelt_67 (lv_topl (fun w_5 e_w_5 => ?_))
      have r_w_5 := tq_lmul (lo := 11055663) (hi := 11055663) rk_27 r_x7 (by decide +kernel) e_w_5
      have q_w_5 : (27 : Int64) * x7 = w_5 := e_w_5.symm
      refine lv_iload hx hb dX10_spelt_68 (lv_at hl 4 rfl) ?_
      obtain ⟨w_6, e_w_6⟩ : ∃ q9 : Int64, (p4 : Int32).toInt64 = q9 := ⟨_, rfl⟩
      refine lv_i2l (v := w_6) hx hb dX10_spelt_70 e_w_6 ?_
      have r_w_6 := tq_i2l r_p4 e_w_6
      have q_w_6 : Int32.toInt64 p4 = w_6 := e_w_6
      refine lv_ladd hx hb dX10_spelt_71 (lv_topl (fun w_7 e_w_7 => ?_))
      have r_w_7 := tq_ladd (lo := 11055764) (hi := 11055764) r_w_5 r_w_6 (by decide +kernel) e_w_7
      have q_w_7 : w_5 + w_6 = w_7 := e_w_7.symm
      refine lv_ldc2 (v := 96) hx hb hown (hts _ tw_1313) dX10_spelt_72 ?_
      refine lv_lsub hx hb dX10_spelt_75 (lv_topl (fun w_8 e_w_8 => ?_))
      have r_w_8 := tq_lsub (lo := 11055668) (hi := 11055668) r_w_7 rk_96 (by decide +kernel) e_w_8
      have q_w_8 : w_7 - (96 : Int64) = w_8 := e_w_8.symm
      refine lv_lstore (lv' := [(7, .long w_8), (0, .int p0), (1, .int p1), (2, .int p2), (3, .int p3), (4, .int p4), (5, .int p5), (6, .int p6)]) hx hb dX10_spelt_76 hl (by decide) rfl (fun ls hl => ?_)
      simp only [f_X10_spelt__30_57, ↓reduceIte, eq_false c_59, q_w_5, q_w_6, q_w_7, q_w_8] at hE
      exact B78 w_8 _ _ ls r_p0 r_p1 r_p2 r_p3 r_p4 r_p5 r_p6 r_w_8 hE hw (lv_sub hl [1, 2, 3, 4, 5, 6, 7, 0] rfl)
  have B38 : ∀ (x7 : Int64) (H : Heap) (locs : List Loc) (ls : Array Slot), RI p0 116 116 → RI p1 117 117 → RI p2 114 114 → RI p3 110 110 → RI p4 101 101 → RI p5 100 100 → RI p6 0 0 → RJ x7 15165 15165 → f_X10_spelt__30_38 p0 p1 p2 p3 p4 p5 p6 x7 = R9 → WD D cy GG A s wr_X10_spelt__57 wa_X10_spelt__57 Ps w0 Ps w0 H locs → lv_has ls 9 [(0, .int p0), (1, .int p1), (2, .int p2), (3, .int p3), (4, .int p4), (5, .int p5), (6, .int p6), (7, .long x7)] → W p l e (headSpec (Cond.code yX10_spelt cX10_spelt 9 (some .long) :: gT) ({ frames := 0, cells := 0, slots := 0, locals := 200 } : Room)).room s m ([.int p0, .int p1, .int p2, .int p3, .int p4, .int p5, .int p6] : List Value).toArray below meth c H locs 0 0 Q (F0 m 38 ls []) := by
    intro x7 H locs ls r_p0 r_p1 r_p2 r_p3 r_p4 r_p5 r_p6 r_x7 hE hw hl
    refine lv_iload_n hx hb dX10_spelt_38 rfl (lv_at hl 3 rfl) ?_
    refine lv_if_le (tgt := 57) hx hb dX10_spelt_39 (by decide) (fun c_39 => ?_) (fun c_39 => ?_)
    · have r_p3 : RI p3 110 0 := rc_le1 r_p3 rl_0 (ti_le c_39) (by decide)
      exact (r_p3.no (by decide)).elim
    · refine lv_ldc2 (v := 27) hx hb hown (hts _ tw_1312) dX10_spelt_42 ?_
      refine lv_lload hx hb dX10_spelt_45 (lv_at hl 7 rfl) ?_
      refine lv_lmul hx hb dX10_spelt_47 (lv_topl (fun w_9 e_w_9 => ?_))
      have r_w_9 := tq_lmul (lo := 409455) (hi := 409455) rk_27 r_x7 (by decide +kernel) e_w_9
      have q_w_9 : (27 : Int64) * x7 = w_9 := e_w_9.symm
      refine lv_iload_n hx hb dX10_spelt_48 rfl (lv_at hl 3 rfl) ?_
      obtain ⟨w_10, e_w_10⟩ : ∃ q9 : Int64, (p3 : Int32).toInt64 = q9 := ⟨_, rfl⟩
      refine lv_i2l (v := w_10) hx hb dX10_spelt_49 e_w_10 ?_
      have r_w_10 := tq_i2l r_p3 e_w_10
      have q_w_10 : Int32.toInt64 p3 = w_10 := e_w_10
      refine lv_ladd hx hb dX10_spelt_50 (lv_topl (fun w_11 e_w_11 => ?_))
      have r_w_11 := tq_ladd (lo := 409565) (hi := 409565) r_w_9 r_w_10 (by decide +kernel) e_w_11
      have q_w_11 : w_9 + w_10 = w_11 := e_w_11.symm
      refine lv_ldc2 (v := 96) hx hb hown (hts _ tw_1313) dX10_spelt_51 ?_
      refine lv_lsub hx hb dX10_spelt_54 (lv_topl (fun w_12 e_w_12 => ?_))
      have r_w_12 := tq_lsub (lo := 409469) (hi := 409469) r_w_11 rk_96 (by decide +kernel) e_w_12
      have q_w_12 : w_11 - (96 : Int64) = w_12 := e_w_12.symm
      refine lv_lstore (lv' := [(7, .long w_12), (0, .int p0), (1, .int p1), (2, .int p2), (3, .int p3), (4, .int p4), (5, .int p5), (6, .int p6)]) hx hb dX10_spelt_55 hl (by decide) rfl (fun ls hl => ?_)
      simp only [f_X10_spelt__30_38, ↓reduceIte, eq_false c_39, q_w_9, q_w_10, q_w_11, q_w_12] at hE
      exact B57 w_12 _ _ ls r_p0 r_p1 r_p2 r_p3 r_p4 r_p5 r_p6 r_w_12 hE hw (lv_sub hl [1, 2, 3, 4, 5, 6, 7, 0] rfl)
  refine lv_ldc2 (v := 27) hx hb hown (hts _ tw_1312) dX10_spelt_0 ?_
  refine lv_iload_n hx hb dX10_spelt_3 rfl (lv_at hl 0 rfl) ?_
  obtain ⟨w_13, e_w_13⟩ : ∃ q9 : Int64, (p0 : Int32).toInt64 = q9 := ⟨_, rfl⟩
  refine lv_i2l (v := w_13) hx hb dX10_spelt_4 e_w_13 ?_
  have r_w_13 := tq_i2l r_p0 e_w_13
  have q_w_13 : Int32.toInt64 p0 = w_13 := e_w_13
  refine lv_ldc2 (v := 96) hx hb hown (hts _ tw_1313) dX10_spelt_5 ?_
  refine lv_lsub hx hb dX10_spelt_8 (lv_topl (fun w_14 e_w_14 => ?_))
  have r_w_14 := tq_lsub (lo := 20) (hi := 20) r_w_13 rk_96 (by decide +kernel) e_w_14
  have q_w_14 : w_13 - (96 : Int64) = w_14 := e_w_14.symm
  refine lv_lmul hx hb dX10_spelt_9 (lv_topl (fun w_15 e_w_15 => ?_))
  have r_w_15 := tq_lmul (lo := 540) (hi := 540) rk_27 r_w_14 (by decide +kernel) e_w_15
  have q_w_15 : (27 : Int64) * w_14 = w_15 := e_w_15.symm
  refine lv_iload_n hx hb dX10_spelt_10 rfl (lv_at hl 1 rfl) ?_
  obtain ⟨w_16, e_w_16⟩ : ∃ q9 : Int64, (p1 : Int32).toInt64 = q9 := ⟨_, rfl⟩
  refine lv_i2l (v := w_16) hx hb dX10_spelt_11 e_w_16 ?_
  have r_w_16 := tq_i2l r_p1 e_w_16
  have q_w_16 : Int32.toInt64 p1 = w_16 := e_w_16
  refine lv_ladd hx hb dX10_spelt_12 (lv_topl (fun w_17 e_w_17 => ?_))
  have r_w_17 := tq_ladd (lo := 657) (hi := 657) r_w_15 r_w_16 (by decide +kernel) e_w_17
  have q_w_17 : w_15 + w_16 = w_17 := e_w_17.symm
  refine lv_ldc2 (v := 96) hx hb hown (hts _ tw_1313) dX10_spelt_13 ?_
  refine lv_lsub hx hb dX10_spelt_16 (lv_topl (fun w_18 e_w_18 => ?_))
  have r_w_18 := tq_lsub (lo := 561) (hi := 561) r_w_17 rk_96 (by decide +kernel) e_w_18
  have q_w_18 : w_17 - (96 : Int64) = w_18 := e_w_18.symm
  refine lv_lstore (lv' := [(7, .long w_18), (0, .int p0), (1, .int p1), (2, .int p2), (3, .int p3), (4, .int p4), (5, .int p5), (6, .int p6)]) hx hb dX10_spelt_17 hl (by decide) rfl (fun ls hl => ?_)
  refine lv_iload_n hx hb dX10_spelt_19 rfl (lv_at hl 3 rfl) ?_
  refine lv_if_le (tgt := 38) hx hb dX10_spelt_20 (by decide) (fun c_20 => ?_) (fun c_20 => ?_)
  · have r_p2 : RI p2 114 0 := rc_le1 r_p2 rl_0 (ti_le c_20) (by decide)
    exact (r_p2.no (by decide)).elim
  · refine lv_ldc2 (v := 27) hx hb hown (hts _ tw_1312) dX10_spelt_23 ?_
    refine lv_lload hx hb dX10_spelt_26 (lv_at hl 0 rfl) ?_
    refine lv_lmul hx hb dX10_spelt_28 (lv_topl (fun w_19 e_w_19 => ?_))
    have r_w_19 := tq_lmul (lo := 15147) (hi := 15147) rk_27 r_w_18 (by decide +kernel) e_w_19
    have q_w_19 : (27 : Int64) * w_18 = w_19 := e_w_19.symm
    refine lv_iload_n hx hb dX10_spelt_29 rfl (lv_at hl 3 rfl) ?_
    obtain ⟨w_20, e_w_20⟩ : ∃ q9 : Int64, (p2 : Int32).toInt64 = q9 := ⟨_, rfl⟩
    refine lv_i2l (v := w_20) hx hb dX10_spelt_30 e_w_20 ?_
    have r_w_20 := tq_i2l r_p2 e_w_20
    have q_w_20 : Int32.toInt64 p2 = w_20 := e_w_20
    refine lv_ladd hx hb dX10_spelt_31 (lv_topl (fun w_21 e_w_21 => ?_))
    have r_w_21 := tq_ladd (lo := 15261) (hi := 15261) r_w_19 r_w_20 (by decide +kernel) e_w_21
    have q_w_21 : w_19 + w_20 = w_21 := e_w_21.symm
    refine lv_ldc2 (v := 96) hx hb hown (hts _ tw_1313) dX10_spelt_32 ?_
    refine lv_lsub hx hb dX10_spelt_35 (lv_topl (fun w_22 e_w_22 => ?_))
    have r_w_22 := tq_lsub (lo := 15165) (hi := 15165) r_w_21 rk_96 (by decide +kernel) e_w_22
    have q_w_22 : w_21 - (96 : Int64) = w_22 := e_w_22.symm
    refine lv_lstore (lv' := [(7, .long w_22), (0, .int p0), (1, .int p1), (2, .int p2), (3, .int p3), (4, .int p4), (5, .int p5), (6, .int p6)]) hx hb dX10_spelt_36 hl (by decide) rfl (fun ls hl => ?_)
    simp only [f_X10_spelt__30, ↓reduceIte, q_w_13, q_w_14, q_w_15, q_w_16, q_w_17, q_w_18, eq_false c_20, q_w_19, q_w_20, q_w_21, q_w_22] at hE
    exact B38 w_22 _ _ ls r_p0 r_p1 r_p2 r_p3 r_p4 r_p5 r_p6 r_w_22 hE hw (lv_sub hl [1, 2, 3, 4, 5, 6, 7, 0] rfl)
abbrev wr_X10_wordOf__7 : List (Nat × Nat) := []
abbrev wa_X10_wordOf__7 : List Nat := []
set_option maxHeartbeats 4000000 in
set_option maxRecDepth 100000 in
theorem c_X10_wordOf__7 (l : Launch) (D : va_G) (cy : Nat → ClassId) (z : Nat → Nat) (sz : Nat) (Ps : PSI) (w0 : va_W) (hT : HT cy GG Ps w0) (p0 : Int32) (r_p0 : RI p0 (-2147483648) 2147483647) : Met l yX10_wordOf (Cond.code yX10_wordOf cX10_wordOf 1 (some .long) :: gT) ({ frames := 2, cells := 0, slots := 0, locals := 400 } : Room) (va_Pc [.int p0] (PRE D cy z w0 sz)) (va_Ql (fun (r : Int64) (u : Unit) => ((f_X10_wordOf__7 p0) = r ∧ True) ∧ (RJ r 257 8935713994)) (BB D cy (va_A w0 sz) (fun (u : Unit) => w0)) (va_A w0 sz)) 0 0 (va_A w0 sz) := by
  refine Met.ofW (cc := cX10_wordOf) (maxL := 1) (ret := (some .long)) (by decide) rfl ?_
  intro p e s m args below meth c s₁ B hml hv
  obtain ⟨rfl, hsz, hP, hK, hD0, hSD⟩ := hv
  have hx := B.exec
  have hb := B.bytes
  have hr := B.returns
  have hlocks := B.notSynchronized
  have hts : ∀ w ∈ gT, w.before _ s = true := fun w h => atoms_spec (ws := Cond.code yX10_wordOf cX10_wordOf 1 (some .long) :: gT) B.pre w (List.mem_cons_of_mem _ h)
  have hown : s.vm.findClass RX10 = some m.cls := findClass_of_methodNamed B.named
  subst hsz
  have hD := hD0.self (sz := s.heap.size)
  generalize hAe : va_A w0 s.heap.size = A at hD hSD ⊢
  have hA : ∀ q : Nat, s.heap.size ≤ q → A q := fun q h => by rw [← hAe]; exact Or.inr h
  have hl := lv_entry ([.int p0]) (n := 1) (Nat.le_of_ble_eq_true rfl)
  rw [lg_entry_eq]
  generalize (lg_sl ([.int p0]) ++ List.replicate (1 - (lg_sl ([.int p0])).length) Slot.unset).toArray = ls at hl ⊢
  have hl : lv_has ls 1 [(0, .int p0)] := hl
  refine nameQ (fun Q hQ => ?_)
  have hw : WD D cy GG A s wr_X10_wordOf__7 wa_X10_wordOf__7 Ps w0 Ps w0 s.heap [] := ⟨hT, hP, hD, va_S.rf, FR.rf, hT.1, [], (List.append_nil _).symm⟩
  obtain ⟨R9, hR⟩ : ∃ q9 : Int64, f_X10_wordOf__7 p0 = q9 := ⟨_, rfl⟩
  have hE := hR
  refine lv_iload_n hx hb dX10_wordOf_0 rfl (lv_at hl 0 rfl) ?_
  have w_1 := r_p0
  by_cases cl_1 : p0.toInt < 0 ∨ 26 < p0.toInt
  · refine lv_tableOut (tgt := 547) hx hb dX10_wordOf_1 cl_1 (by decide) ?_
    refine lv_bipush (v := 110) hx hb dX10_wordOf_547 (by decide) ?_
    refine lv_bipush (v := 117) hx hb dX10_wordOf_549 (by decide) ?_
    refine lv_bipush (v := 109) hx hb dX10_wordOf_551 (by decide) ?_
    refine lv_bipush (v := 98) hx hb dX10_wordOf_553 (by decide) ?_
    refine lv_bipush (v := 101) hx hb dX10_wordOf_555 (by decide) ?_
    refine lv_bipush (v := 114) hx hb dX10_wordOf_557 (by decide) ?_
    refine lv_iconst (v := 0) hx hb dX10_wordOf_559 (by decide) ?_
    refine tk_lr (va_runS (As := [.int 110, .int 117, .int 109, .int 98, .int 101, .int 114, .int 0]) (rest := []) ⟨hx, hb, hml, hown, hts⟩ (c_X10_spelt__30 l D cy z s.heap.size Ps w0 hw.1 110 117 109 98 101 114 0 rl_110 rl_117 rl_109 rl_98 rl_101 rl_114 rl_0) (va_cwS 7 hts (gS tw_1325 tw_1326 tw_15 tw_1327) rfl rfl rfl (by decide +kernel) ⟨Nat.le_of_ble_eq_true rfl, Nat.le_of_ble_eq_true rfl⟩) (tg_preS hw hK hSD hA) rfl rfl hl.1 rfl (lv_room (Nat.le_of_ble_eq_true rfl)) dX10_wordOf_560 ⟨Nat.le_of_ble_eq_true rfl, Nat.le_of_ble_eq_true rfl⟩) hw hA (fun v_1  H locs hp_v_1 hw => ?_)
    obtain ⟨hfn, hp_v_1⟩ := hp_v_1
    have q_v_1 : (f_X10_spelt__30 (110 : Int32) (117 : Int32) (109 : Int32) (98 : Int32) (101 : Int32) (114 : Int32) (0 : Int32)) = v_1 := hfn.1
    have r_v_1 : RJ v_1 212302449 212302449 := hp_v_1
    simp only [f_X10_wordOf__7, ↓reduceIte, eq_true cl_1, q_v_1] at hE
    subst hQ
    exact W.lret (v := v_1) hx hb hr (fun t ht hW => ⟨⟨v_1, (), rfl, ⟨⟨(by rw [hR, ← hE]), trivial⟩, r_v_1.to (by decide)⟩, by rw [ht]; exact hw.2.1, va_K.moved hW.alike hK, hw.2.2.1⟩, hw.2.2.2.1.F ht⟩) hw.2.2.2.1.2.2 dX10_wordOf_563
  · have e_1 : p0.toInt = 0 ∨ p0.toInt = 1 ∨ p0.toInt = 2 ∨ p0.toInt = 3 ∨ p0.toInt = 4 ∨ p0.toInt = 5 ∨ p0.toInt = 6 ∨ p0.toInt = 7 ∨ p0.toInt = 8 ∨ p0.toInt = 9 ∨ p0.toInt = 10 ∨ p0.toInt = 11 ∨ p0.toInt = 12 ∨ p0.toInt = 13 ∨ p0.toInt = 14 ∨ p0.toInt = 15 ∨ p0.toInt = 16 ∨ p0.toInt = 17 ∨ p0.toInt = 18 ∨ p0.toInt = 19 ∨ p0.toInt = 20 ∨ p0.toInt = 21 ∨ p0.toInt = 22 ∨ p0.toInt = 23 ∨ p0.toInt = 24 ∨ p0.toInt = 25 ∨ p0.toInt = 26 := by omega
    rcases e_1 with h_1 | h_1 | h_1 | h_1 | h_1 | h_1 | h_1 | h_1 | h_1 | h_1 | h_1 | h_1 | h_1 | h_1 | h_1 | h_1 | h_1 | h_1 | h_1 | h_1 | h_1 | h_1 | h_1 | h_1 | h_1 | h_1 | h_1
    · refine lv_tableIn (tgt := 124) (off := 123) hx hb dX10_wordOf_1 (by omega) (by omega) (by rw [h_1]; rfl) (by decide) ?_
      have r_p0 : RI p0 0 0 := ⟨by omega, by omega⟩
      refine lv_bipush (v := 105) hx hb dX10_wordOf_124 (by decide) ?_
      refine lv_bipush (v := 100) hx hb dX10_wordOf_126 (by decide) ?_
      refine lv_bipush (v := 101) hx hb dX10_wordOf_128 (by decide) ?_
      refine lv_bipush (v := 97) hx hb dX10_wordOf_130 (by decide) ?_
      refine lv_iconst (v := 0) hx hb dX10_wordOf_132 (by decide) ?_
      refine lv_iconst (v := 0) hx hb dX10_wordOf_133 (by decide) ?_
      refine lv_iconst (v := 0) hx hb dX10_wordOf_134 (by decide) ?_
      refine tk_lr (va_runS (As := [.int 105, .int 100, .int 101, .int 97, .int 0, .int 0, .int 0]) (rest := []) ⟨hx, hb, hml, hown, hts⟩ (c_X10_spelt__31 l D cy z s.heap.size Ps w0 hw.1 105 100 101 97 0 0 0 rl_105 rl_100 rl_101 rl_97 rl_0 rl_0 rl_0) (va_cwS 7 hts (gS tw_1325 tw_1326 tw_15 tw_1327) rfl rfl rfl (by decide +kernel) ⟨Nat.le_of_ble_eq_true rfl, Nat.le_of_ble_eq_true rfl⟩) (tg_preS hw hK hSD hA) rfl rfl hl.1 rfl (lv_room (Nat.le_of_ble_eq_true rfl)) dX10_wordOf_135 ⟨Nat.le_of_ble_eq_true rfl, Nat.le_of_ble_eq_true rfl⟩) hw hA (fun v_2  H locs hp_v_2 hw => ?_)
      obtain ⟨hfn, hp_v_2⟩ := hp_v_2
      have q_v_2 : (f_X10_spelt__31 (105 : Int32) (100 : Int32) (101 : Int32) (97 : Int32) (0 : Int32) (0 : Int32) (0 : Int32)) = v_2 := hfn.1
      have r_v_2 : RJ v_2 180199 180199 := hp_v_2
      simp only [f_X10_wordOf__7, ↓reduceIte, eq_false cl_1, eq_true h_1, q_v_2] at hE
      subst hQ
      exact W.lret (v := v_2) hx hb hr (fun t ht hW => ⟨⟨v_2, (), rfl, ⟨⟨(by rw [hR, ← hE]), trivial⟩, r_v_2.to (by decide)⟩, by rw [ht]; exact hw.2.1, va_K.moved hW.alike hK, hw.2.2.1⟩, hw.2.2.2.1.F ht⟩) hw.2.2.2.1.2.2 dX10_wordOf_138
    · refine lv_tableIn (tgt := 139) (off := 138) hx hb dX10_wordOf_1 (by omega) (by omega) (by rw [h_1]; rfl) (by decide) ?_
      have r_p0 : RI p0 1 1 := ⟨by omega, by omega⟩
      have n_1_0 : ¬ (p0.toInt = 0) := by omega
      refine lv_bipush (v := 114) hx hb dX10_wordOf_139 (by decide) ?_
      refine lv_bipush (v := 111) hx hb dX10_wordOf_141 (by decide) ?_
      refine lv_bipush (v := 111) hx hb dX10_wordOf_143 (by decide) ?_
      refine lv_bipush (v := 109) hx hb dX10_wordOf_145 (by decide) ?_
      refine lv_iconst (v := 0) hx hb dX10_wordOf_147 (by decide) ?_
      refine lv_iconst (v := 0) hx hb dX10_wordOf_148 (by decide) ?_
      refine lv_iconst (v := 0) hx hb dX10_wordOf_149 (by decide) ?_
      refine tk_lr (va_runS (As := [.int 114, .int 111, .int 111, .int 109, .int 0, .int 0, .int 0]) (rest := []) ⟨hx, hb, hml, hown, hts⟩ (c_X10_spelt__32 l D cy z s.heap.size Ps w0 hw.1 114 111 111 109 0 0 0 rl_114 rl_111 rl_111 rl_109 rl_0 rl_0 rl_0) (va_cwS 7 hts (gS tw_1325 tw_1326 tw_15 tw_1327) rfl rfl rfl (by decide +kernel) ⟨Nat.le_of_ble_eq_true rfl, Nat.le_of_ble_eq_true rfl⟩) (tg_preS hw hK hSD hA) rfl rfl hl.1 rfl (lv_room (Nat.le_of_ble_eq_true rfl)) dX10_wordOf_150 ⟨Nat.le_of_ble_eq_true rfl, Nat.le_of_ble_eq_true rfl⟩) hw hA (fun v_3  H locs hp_v_3 hw => ?_)
      obtain ⟨hfn, hp_v_3⟩ := hp_v_3
      have q_v_3 : (f_X10_spelt__31 (114 : Int32) (111 : Int32) (111 : Int32) (109 : Int32) (0 : Int32) (0 : Int32) (0 : Int32)) = v_3 := hfn.1
      have r_v_3 : RJ v_3 365647 365647 := hp_v_3
      simp only [f_X10_wordOf__7, ↓reduceIte, eq_false cl_1, eq_false n_1_0, eq_true h_1, q_v_3] at hE
      subst hQ
      exact W.lret (v := v_3) hx hb hr (fun t ht hW => ⟨⟨v_3, (), rfl, ⟨⟨(by rw [hR, ← hE]), trivial⟩, r_v_3.to (by decide)⟩, by rw [ht]; exact hw.2.1, va_K.moved hW.alike hK, hw.2.2.1⟩, hw.2.2.2.1.F ht⟩) hw.2.2.2.1.2.2 dX10_wordOf_153
    · refine lv_tableIn (tgt := 154) (off := 153) hx hb dX10_wordOf_1 (by omega) (by omega) (by rw [h_1]; rfl) (by decide) ?_
      have r_p0 : RI p0 2 2 := ⟨by omega, by omega⟩
      have n_1_0 : ¬ (p0.toInt = 0) := by omega
      have n_1_1 : ¬ (p0.toInt = 1) := by omega
      refine lv_bipush (v := 112) hx hb dX10_wordOf_154 (by decide) ?_
      refine lv_bipush (v := 97) hx hb dX10_wordOf_156 (by decide) ?_
      refine lv_bipush (v := 114) hx hb dX10_wordOf_158 (by decide) ?_
      refine lv_bipush (v := 99) hx hb dX10_wordOf_160 (by decide) ?_
      refine lv_bipush (v := 101) hx hb dX10_wordOf_162 (by decide) ?_
      refine lv_bipush (v := 108) hx hb dX10_wordOf_164 (by decide) ?_
      refine lv_iconst (v := 0) hx hb dX10_wordOf_166 (by decide) ?_
      refine tk_lr (va_runS (As := [.int 112, .int 97, .int 114, .int 99, .int 101, .int 108, .int 0]) (rest := []) ⟨hx, hb, hml, hown, hts⟩ (c_X10_spelt__33 l D cy z s.heap.size Ps w0 hw.1 112 97 114 99 101 108 0 rl_112 rl_97 rl_114 rl_99 rl_101 rl_108 rl_0) (va_cwS 7 hts (gS tw_1325 tw_1326 tw_15 tw_1327) rfl rfl rfl (by decide +kernel) ⟨Nat.le_of_ble_eq_true rfl, Nat.le_of_ble_eq_true rfl⟩) (tg_preS hw hK hSD hA) rfl rfl hl.1 rfl (lv_room (Nat.le_of_ble_eq_true rfl)) dX10_wordOf_167 ⟨Nat.le_of_ble_eq_true rfl, Nat.le_of_ble_eq_true rfl⟩) hw hA (fun v_4  H locs hp_v_4 hw => ?_)
      obtain ⟨hfn, hp_v_4⟩ := hp_v_4
      have q_v_4 : (f_X10_spelt__30 (112 : Int32) (97 : Int32) (114 : Int32) (99 : Int32) (101 : Int32) (108 : Int32) (0 : Int32)) = v_4 := hfn.1
      have r_v_4 : RJ v_4 230470581 230470581 := hp_v_4
      simp only [f_X10_wordOf__7, ↓reduceIte, eq_false cl_1, eq_false n_1_0, eq_false n_1_1, eq_true h_1, q_v_4] at hE
      subst hQ
      exact W.lret (v := v_4) hx hb hr (fun t ht hW => ⟨⟨v_4, (), rfl, ⟨⟨(by rw [hR, ← hE]), trivial⟩, r_v_4.to (by decide)⟩, by rw [ht]; exact hw.2.1, va_K.moved hW.alike hK, hw.2.2.1⟩, hw.2.2.2.1.F ht⟩) hw.2.2.2.1.2.2 dX10_wordOf_170
    · refine lv_tableIn (tgt := 171) (off := 170) hx hb dX10_wordOf_1 (by omega) (by omega) (by rw [h_1]; rfl) (by decide) ?_
      have r_p0 : RI p0 3 3 := ⟨by omega, by omega⟩
      have n_1_0 : ¬ (p0.toInt = 0) := by omega
      have n_1_1 : ¬ (p0.toInt = 1) := by omega
      have n_1_2 : ¬ (p0.toInt = 2) := by omega
      refine lv_bipush (v := 112) hx hb dX10_wordOf_171 (by decide) ?_
      refine lv_bipush (v := 101) hx hb dX10_wordOf_173 (by decide) ?_
      refine lv_bipush (v := 114) hx hb dX10_wordOf_175 (by decide) ?_
      refine lv_bipush (v := 115) hx hb dX10_wordOf_177 (by decide) ?_
      refine lv_bipush (v := 111) hx hb dX10_wordOf_179 (by decide) ?_
      refine lv_bipush (v := 110) hx hb dX10_wordOf_181 (by decide) ?_
      refine lv_iconst (v := 0) hx hb dX10_wordOf_183 (by decide) ?_
      refine tk_lr (va_runS (As := [.int 112, .int 101, .int 114, .int 115, .int 111, .int 110, .int 0]) (rest := []) ⟨hx, hb, hml, hown, hts⟩ (c_X10_spelt__34 l D cy z s.heap.size Ps w0 hw.1 112 101 114 115 111 110 0 rl_112 rl_101 rl_114 rl_115 rl_111 rl_110 rl_0) (va_cwS 7 hts (gS tw_1325 tw_1326 tw_15 tw_1327) rfl rfl rfl (by decide +kernel) ⟨Nat.le_of_ble_eq_true rfl, Nat.le_of_ble_eq_true rfl⟩) (tg_preS hw hK hSD hA) rfl rfl hl.1 rfl (lv_room (Nat.le_of_ble_eq_true rfl)) dX10_wordOf_184 ⟨Nat.le_of_ble_eq_true rfl, Nat.le_of_ble_eq_true rfl⟩) hw hA (fun v_5  H locs hp_v_5 hw => ?_)
      obtain ⟨hfn, hp_v_5⟩ := hp_v_5
      have q_v_5 : (f_X10_spelt__30 (112 : Int32) (101 : Int32) (114 : Int32) (115 : Int32) (111 : Int32) (110 : Int32) (0 : Int32)) = v_5 := hfn.1
      have r_v_5 : RJ v_5 232608281 232608281 := hp_v_5
      simp only [f_X10_wordOf__7, ↓reduceIte, eq_false cl_1, eq_false n_1_0, eq_false n_1_1, eq_false n_1_2, eq_true h_1, q_v_5] at hE
      subst hQ
      exact W.lret (v := v_5) hx hb hr (fun t ht hW => ⟨⟨v_5, (), rfl, ⟨⟨(by rw [hR, ← hE]), trivial⟩, r_v_5.to (by decide)⟩, by rw [ht]; exact hw.2.1, va_K.moved hW.alike hK, hw.2.2.1⟩, hw.2.2.2.1.F ht⟩) hw.2.2.2.1.2.2 dX10_wordOf_187
    · refine lv_tableIn (tgt := 188) (off := 187) hx hb dX10_wordOf_1 (by omega) (by omega) (by rw [h_1]; rfl) (by decide) ?_
      have r_p0 : RI p0 4 4 := ⟨by omega, by omega⟩
      have n_1_0 : ¬ (p0.toInt = 0) := by omega
      have n_1_1 : ¬ (p0.toInt = 1) := by omega
      have n_1_2 : ¬ (p0.toInt = 2) := by omega
      have n_1_3 : ¬ (p0.toInt = 3) := by omega
      refine lv_bipush (v := 115) hx hb dX10_wordOf_188 (by decide) ?_
      refine lv_bipush (v := 105) hx hb dX10_wordOf_190 (by decide) ?_
      refine lv_bipush (v := 116) hx hb dX10_wordOf_192 (by decide) ?_
      refine lv_bipush (v := 115) hx hb dX10_wordOf_194 (by decide) ?_
      refine lv_iconst (v := 0) hx hb dX10_wordOf_196 (by decide) ?_
      refine lv_iconst (v := 0) hx hb dX10_wordOf_197 (by decide) ?_
      refine lv_iconst (v := 0) hx hb dX10_wordOf_198 (by decide) ?_
      refine tk_lr (va_runS (As := [.int 115, .int 105, .int 116, .int 115, .int 0, .int 0, .int 0]) (rest := []) ⟨hx, hb, hml, hown, hts⟩ (c_X10_spelt__35 l D cy z s.heap.size Ps w0 hw.1 115 105 116 115 0 0 0 rl_115 rl_105 rl_116 rl_115 rl_0 rl_0 rl_0) (va_cwS 7 hts (gS tw_1325 tw_1326 tw_15 tw_1327) rfl rfl rfl (by decide +kernel) ⟨Nat.le_of_ble_eq_true rfl, Nat.le_of_ble_eq_true rfl⟩) (tg_preS hw hK hSD hA) rfl rfl hl.1 rfl (lv_room (Nat.le_of_ble_eq_true rfl)) dX10_wordOf_199 ⟨Nat.le_of_ble_eq_true rfl, Nat.le_of_ble_eq_true rfl⟩) hw hA (fun v_6  H locs hp_v_6 hw => ?_)
      obtain ⟨hfn, hp_v_6⟩ := hp_v_6
      have q_v_6 : (f_X10_spelt__31 (115 : Int32) (105 : Int32) (116 : Int32) (115 : Int32) (0 : Int32) (0 : Int32) (0 : Int32)) = v_6 := hfn.1
      have r_v_6 : RJ v_6 381097 381097 := hp_v_6
      simp only [f_X10_wordOf__7, ↓reduceIte, eq_false cl_1, eq_false n_1_0, eq_false n_1_1, eq_false n_1_2, eq_false n_1_3, eq_true h_1, q_v_6] at hE
      subst hQ
      exact W.lret (v := v_6) hx hb hr (fun t ht hW => ⟨⟨v_6, (), rfl, ⟨⟨(by rw [hR, ← hE]), trivial⟩, r_v_6.to (by decide)⟩, by rw [ht]; exact hw.2.1, va_K.moved hW.alike hK, hw.2.2.1⟩, hw.2.2.2.1.F ht⟩) hw.2.2.2.1.2.2 dX10_wordOf_202
    · refine lv_tableIn (tgt := 203) (off := 202) hx hb dX10_wordOf_1 (by omega) (by omega) (by rw [h_1]; rfl) (by decide) ?_
      have r_p0 : RI p0 5 5 := ⟨by omega, by omega⟩
      have n_1_0 : ¬ (p0.toInt = 0) := by omega
      have n_1_1 : ¬ (p0.toInt = 1) := by omega
      have n_1_2 : ¬ (p0.toInt = 2) := by omega
      have n_1_3 : ¬ (p0.toInt = 3) := by omega
      have n_1_4 : ¬ (p0.toInt = 4) := by omega
      refine lv_bipush (v := 104) hx hb dX10_wordOf_203 (by decide) ?_
      refine lv_bipush (v := 97) hx hb dX10_wordOf_205 (by decide) ?_
      refine lv_bipush (v := 115) hx hb dX10_wordOf_207 (by decide) ?_
      refine lv_iconst (v := 0) hx hb dX10_wordOf_209 (by decide) ?_
      refine lv_iconst (v := 0) hx hb dX10_wordOf_210 (by decide) ?_
      refine lv_iconst (v := 0) hx hb dX10_wordOf_211 (by decide) ?_
      refine lv_iconst (v := 0) hx hb dX10_wordOf_212 (by decide) ?_
      refine tk_lr (va_runS (As := [.int 104, .int 97, .int 115, .int 0, .int 0, .int 0, .int 0]) (rest := []) ⟨hx, hb, hml, hown, hts⟩ (c_X10_spelt__36 l D cy z s.heap.size Ps w0 hw.1 104 97 115 0 0 0 0 rl_104 rl_97 rl_115 rl_0 rl_0 rl_0 rl_0) (va_cwS 7 hts (gS tw_1325 tw_1326 tw_15 tw_1327) rfl rfl rfl (by decide +kernel) ⟨Nat.le_of_ble_eq_true rfl, Nat.le_of_ble_eq_true rfl⟩) (tg_preS hw hK hSD hA) rfl rfl hl.1 rfl (lv_room (Nat.le_of_ble_eq_true rfl)) dX10_wordOf_213 ⟨Nat.le_of_ble_eq_true rfl, Nat.le_of_ble_eq_true rfl⟩) hw hA (fun v_7  H locs hp_v_7 hw => ?_)
      obtain ⟨hfn, hp_v_7⟩ := hp_v_7
      have q_v_7 : (f_X10_spelt__36 (104 : Int32) (97 : Int32) (115 : Int32) (0 : Int32) (0 : Int32) (0 : Int32) (0 : Int32)) = v_7 := hfn.1
      have r_v_7 : RJ v_7 5878 5878 := hp_v_7
      simp only [f_X10_wordOf__7, ↓reduceIte, eq_false cl_1, eq_false n_1_0, eq_false n_1_1, eq_false n_1_2, eq_false n_1_3, eq_false n_1_4, eq_true h_1, q_v_7] at hE
      subst hQ
      exact W.lret (v := v_7) hx hb hr (fun t ht hW => ⟨⟨v_7, (), rfl, ⟨⟨(by rw [hR, ← hE]), trivial⟩, r_v_7.to (by decide)⟩, by rw [ht]; exact hw.2.1, va_K.moved hW.alike hK, hw.2.2.1⟩, hw.2.2.2.1.F ht⟩) hw.2.2.2.1.2.2 dX10_wordOf_216
    · refine lv_tableIn (tgt := 217) (off := 216) hx hb dX10_wordOf_1 (by omega) (by omega) (by rw [h_1]; rfl) (by decide) ?_
      have r_p0 : RI p0 6 6 := ⟨by omega, by omega⟩
      have n_1_0 : ¬ (p0.toInt = 0) := by omega
      have n_1_1 : ¬ (p0.toInt = 1) := by omega
      have n_1_2 : ¬ (p0.toInt = 2) := by omega
      have n_1_3 : ¬ (p0.toInt = 3) := by omega
      have n_1_4 : ¬ (p0.toInt = 4) := by omega
      have n_1_5 : ¬ (p0.toInt = 5) := by omega
      refine lv_bipush (v := 113) hx hb dX10_wordOf_217 (by decide) ?_
      refine lv_bipush (v := 117) hx hb dX10_wordOf_219 (by decide) ?_
      refine lv_bipush (v := 97) hx hb dX10_wordOf_221 (by decide) ?_
      refine lv_bipush (v := 114) hx hb dX10_wordOf_223 (by decide) ?_
      refine lv_bipush (v := 114) hx hb dX10_wordOf_225 (by decide) ?_
      refine lv_bipush (v := 101) hx hb dX10_wordOf_227 (by decide) ?_
      refine lv_bipush (v := 108) hx hb dX10_wordOf_229 (by decide) ?_
      refine tk_lr (va_runS (As := [.int 113, .int 117, .int 97, .int 114, .int 114, .int 101, .int 108]) (rest := []) ⟨hx, hb, hml, hown, hts⟩ (c_X10_spelt__37 l D cy z s.heap.size Ps w0 hw.1 113 117 97 114 114 101 108 rl_113 rl_117 rl_97 rl_114 rl_114 rl_101 rl_108) (va_cwS 7 hts (gS tw_1325 tw_1326 tw_15 tw_1327) rfl rfl rfl (by decide +kernel) ⟨Nat.le_of_ble_eq_true rfl, Nat.le_of_ble_eq_true rfl⟩) (tg_preS hw hK hSD hA) rfl rfl hl.1 rfl (lv_room (Nat.le_of_ble_eq_true rfl)) dX10_wordOf_231 ⟨Nat.le_of_ble_eq_true rfl, Nat.le_of_ble_eq_true rfl⟩) hw hA (fun v_8  H locs hp_v_8 hw => ?_)
      obtain ⟨hfn, hp_v_8⟩ := hp_v_8
      have q_v_8 : (f_X10_spelt__37 (113 : Int32) (117 : Int32) (97 : Int32) (114 : Int32) (114 : Int32) (101 : Int32) (108 : Int32)) = v_8 := hfn.1
      have r_v_8 : RJ v_8 6888374364 6888374364 := hp_v_8
      simp only [f_X10_wordOf__7, ↓reduceIte, eq_false cl_1, eq_false n_1_0, eq_false n_1_1, eq_false n_1_2, eq_false n_1_3, eq_false n_1_4, eq_false n_1_5, eq_true h_1, q_v_8] at hE
      subst hQ
      exact W.lret (v := v_8) hx hb hr (fun t ht hW => ⟨⟨v_8, (), rfl, ⟨⟨(by rw [hR, ← hE]), trivial⟩, r_v_8.to (by decide)⟩, by rw [ht]; exact hw.2.1, va_K.moved hW.alike hK, hw.2.2.1⟩, hw.2.2.2.1.F ht⟩) hw.2.2.2.1.2.2 dX10_wordOf_234
    · refine lv_tableIn (tgt := 235) (off := 234) hx hb dX10_wordOf_1 (by omega) (by omega) (by rw [h_1]; rfl) (by decide) ?_
      have r_p0 : RI p0 7 7 := ⟨by omega, by omega⟩
      have n_1_0 : ¬ (p0.toInt = 0) := by omega
      have n_1_1 : ¬ (p0.toInt = 1) := by omega
      have n_1_2 : ¬ (p0.toInt = 2) := by omega
      have n_1_3 : ¬ (p0.toInt = 3) := by omega
      have n_1_4 : ¬ (p0.toInt = 4) := by omega
      have n_1_5 : ¬ (p0.toInt = 5) := by omega
      have n_1_6 : ¬ (p0.toInt = 6) := by omega
      refine lv_bipush (v := 108) hx hb dX10_wordOf_235 (by decide) ?_
      refine lv_bipush (v := 101) hx hb dX10_wordOf_237 (by decide) ?_
      refine lv_bipush (v := 97) hx hb dX10_wordOf_239 (by decide) ?_
      refine lv_bipush (v := 107) hx hb dX10_wordOf_241 (by decide) ?_
      refine lv_iconst (v := 0) hx hb dX10_wordOf_243 (by decide) ?_
      refine lv_iconst (v := 0) hx hb dX10_wordOf_244 (by decide) ?_
      refine lv_iconst (v := 0) hx hb dX10_wordOf_245 (by decide) ?_
      refine tk_lr (va_runS (As := [.int 108, .int 101, .int 97, .int 107, .int 0, .int 0, .int 0]) (rest := []) ⟨hx, hb, hml, hown, hts⟩ (c_X10_spelt__38 l D cy z s.heap.size Ps w0 hw.1 108 101 97 107 0 0 0 rl_108 rl_101 rl_97 rl_107 rl_0 rl_0 rl_0) (va_cwS 7 hts (gS tw_1325 tw_1326 tw_15 tw_1327) rfl rfl rfl (by decide +kernel) ⟨Nat.le_of_ble_eq_true rfl, Nat.le_of_ble_eq_true rfl⟩) (tg_preS hw hK hSD hA) rfl rfl hl.1 rfl (lv_room (Nat.le_of_ble_eq_true rfl)) dX10_wordOf_246 ⟨Nat.le_of_ble_eq_true rfl, Nat.le_of_ble_eq_true rfl⟩) hw hA (fun v_9  H locs hp_v_9 hw => ?_)
      obtain ⟨hfn, hp_v_9⟩ := hp_v_9
      have q_v_9 : (f_X10_spelt__31 (108 : Int32) (101 : Int32) (97 : Int32) (107 : Int32) (0 : Int32) (0 : Int32) (0 : Int32)) = v_9 := hfn.1
      have r_v_9 : RJ v_9 239879 239879 := hp_v_9
      simp only [f_X10_wordOf__7, ↓reduceIte, eq_false cl_1, eq_false n_1_0, eq_false n_1_1, eq_false n_1_2, eq_false n_1_3, eq_false n_1_4, eq_false n_1_5, eq_false n_1_6, eq_true h_1, q_v_9] at hE
      subst hQ
      exact W.lret (v := v_9) hx hb hr (fun t ht hW => ⟨⟨v_9, (), rfl, ⟨⟨(by rw [hR, ← hE]), trivial⟩, r_v_9.to (by decide)⟩, by rw [ht]; exact hw.2.1, va_K.moved hW.alike hK, hw.2.2.1⟩, hw.2.2.2.1.F ht⟩) hw.2.2.2.1.2.2 dX10_wordOf_249
    · refine lv_tableIn (tgt := 250) (off := 249) hx hb dX10_wordOf_1 (by omega) (by omega) (by rw [h_1]; rfl) (by decide) ?_
      have r_p0 : RI p0 8 8 := ⟨by omega, by omega⟩
      have n_1_0 : ¬ (p0.toInt = 0) := by omega
      have n_1_1 : ¬ (p0.toInt = 1) := by omega
      have n_1_2 : ¬ (p0.toInt = 2) := by omega
      have n_1_3 : ¬ (p0.toInt = 3) := by omega
      have n_1_4 : ¬ (p0.toInt = 4) := by omega
      have n_1_5 : ¬ (p0.toInt = 5) := by omega
      have n_1_6 : ¬ (p0.toInt = 6) := by omega
      have n_1_7 : ¬ (p0.toInt = 7) := by omega
      refine lv_bipush (v := 103) hx hb dX10_wordOf_250 (by decide) ?_
      refine lv_bipush (v := 117) hx hb dX10_wordOf_252 (by decide) ?_
      refine lv_bipush (v := 101) hx hb dX10_wordOf_254 (by decide) ?_
      refine lv_bipush (v := 115) hx hb dX10_wordOf_256 (by decide) ?_
      refine lv_bipush (v := 115) hx hb dX10_wordOf_258 (by decide) ?_
      refine lv_iconst (v := 0) hx hb dX10_wordOf_260 (by decide) ?_
      refine lv_iconst (v := 0) hx hb dX10_wordOf_261 (by decide) ?_
      refine tk_lr (va_runS (As := [.int 103, .int 117, .int 101, .int 115, .int 115, .int 0, .int 0]) (rest := []) ⟨hx, hb, hml, hown, hts⟩ (c_X10_spelt__39 l D cy z s.heap.size Ps w0 hw.1 103 117 101 115 115 0 0 rl_103 rl_117 rl_101 rl_115 rl_115 rl_0 rl_0) (va_cwS 7 hts (gS tw_1325 tw_1326 tw_15 tw_1327) rfl rfl rfl (by decide +kernel) ⟨Nat.le_of_ble_eq_true rfl, Nat.le_of_ble_eq_true rfl⟩) (tg_preS hw hK hSD hA) rfl rfl hl.1 rfl (lv_room (Nat.le_of_ble_eq_true rfl)) dX10_wordOf_262 ⟨Nat.le_of_ble_eq_true rfl, Nat.le_of_ble_eq_true rfl⟩) hw hA (fun v_10  H locs hp_v_10 hw => ?_)
      obtain ⟨hfn, hp_v_10⟩ := hp_v_10
      have q_v_10 : (f_X10_spelt__39 (103 : Int32) (117 : Int32) (101 : Int32) (115 : Int32) (115 : Int32) (0 : Int32) (0 : Int32)) = v_10 := hfn.1
      have r_v_10 : RJ v_10 4137607 4137607 := hp_v_10
      simp only [f_X10_wordOf__7, ↓reduceIte, eq_false cl_1, eq_false n_1_0, eq_false n_1_1, eq_false n_1_2, eq_false n_1_3, eq_false n_1_4, eq_false n_1_5, eq_false n_1_6, eq_false n_1_7, eq_true h_1, q_v_10] at hE
      subst hQ
      exact W.lret (v := v_10) hx hb hr (fun t ht hW => ⟨⟨v_10, (), rfl, ⟨⟨(by rw [hR, ← hE]), trivial⟩, r_v_10.to (by decide)⟩, by rw [ht]; exact hw.2.1, va_K.moved hW.alike hK, hw.2.2.1⟩, hw.2.2.2.1.F ht⟩) hw.2.2.2.1.2.2 dX10_wordOf_265
    · refine lv_tableIn (tgt := 266) (off := 265) hx hb dX10_wordOf_1 (by omega) (by omega) (by rw [h_1]; rfl) (by decide) ?_
      have r_p0 : RI p0 9 9 := ⟨by omega, by omega⟩
      have n_1_0 : ¬ (p0.toInt = 0) := by omega
      have n_1_1 : ¬ (p0.toInt = 1) := by omega
      have n_1_2 : ¬ (p0.toInt = 2) := by omega
      have n_1_3 : ¬ (p0.toInt = 3) := by omega
      have n_1_4 : ¬ (p0.toInt = 4) := by omega
      have n_1_5 : ¬ (p0.toInt = 5) := by omega
      have n_1_6 : ¬ (p0.toInt = 6) := by omega
      have n_1_7 : ¬ (p0.toInt = 7) := by omega
      have n_1_8 : ¬ (p0.toInt = 8) := by omega
      refine lv_bipush (v := 106) hx hb dX10_wordOf_266 (by decide) ?_
      refine lv_bipush (v := 111) hx hb dX10_wordOf_268 (by decide) ?_
      refine lv_bipush (v := 105) hx hb dX10_wordOf_270 (by decide) ?_
      refine lv_bipush (v := 110) hx hb dX10_wordOf_272 (by decide) ?_
      refine lv_bipush (v := 115) hx hb dX10_wordOf_274 (by decide) ?_
      refine lv_iconst (v := 0) hx hb dX10_wordOf_276 (by decide) ?_
      refine lv_iconst (v := 0) hx hb dX10_wordOf_277 (by decide) ?_
      refine tk_lr (va_runS (As := [.int 106, .int 111, .int 105, .int 110, .int 115, .int 0, .int 0]) (rest := []) ⟨hx, hb, hml, hown, hts⟩ (c_X10_spelt__40 l D cy z s.heap.size Ps w0 hw.1 106 111 105 110 115 0 0 rl_106 rl_111 rl_105 rl_110 rl_115 rl_0 rl_0) (va_cwS 7 hts (gS tw_1325 tw_1326 tw_15 tw_1327) rfl rfl rfl (by decide +kernel) ⟨Nat.le_of_ble_eq_true rfl, Nat.le_of_ble_eq_true rfl⟩) (tg_preS hw hK hSD hA) rfl rfl hl.1 rfl (lv_room (Nat.le_of_ble_eq_true rfl)) dX10_wordOf_278 ⟨Nat.le_of_ble_eq_true rfl, Nat.le_of_ble_eq_true rfl⟩) hw hA (fun v_11  H locs hp_v_11 hw => ?_)
      obtain ⟨hfn, hp_v_11⟩ := hp_v_11
      have q_v_11 : (f_X10_spelt__39 (106 : Int32) (111 : Int32) (105 : Int32) (110 : Int32) (115 : Int32) (0 : Int32) (0 : Int32)) = v_11 := hfn.1
      have r_v_11 : RJ v_11 5616613 5616613 := hp_v_11
      simp only [f_X10_wordOf__7, ↓reduceIte, eq_false cl_1, eq_false n_1_0, eq_false n_1_1, eq_false n_1_2, eq_false n_1_3, eq_false n_1_4, eq_false n_1_5, eq_false n_1_6, eq_false n_1_7, eq_false n_1_8, eq_true h_1, q_v_11] at hE
      subst hQ
      exact W.lret (v := v_11) hx hb hr (fun t ht hW => ⟨⟨v_11, (), rfl, ⟨⟨(by rw [hR, ← hE]), trivial⟩, r_v_11.to (by decide)⟩, by rw [ht]; exact hw.2.1, va_K.moved hW.alike hK, hw.2.2.1⟩, hw.2.2.2.1.F ht⟩) hw.2.2.2.1.2.2 dX10_wordOf_281
    · refine lv_tableIn (tgt := 282) (off := 281) hx hb dX10_wordOf_1 (by omega) (by omega) (by rw [h_1]; rfl) (by decide) ?_
      have r_p0 : RI p0 10 10 := ⟨by omega, by omega⟩
      have n_1_0 : ¬ (p0.toInt = 0) := by omega
      have n_1_1 : ¬ (p0.toInt = 1) := by omega
      have n_1_2 : ¬ (p0.toInt = 2) := by omega
      have n_1_3 : ¬ (p0.toInt = 3) := by omega
      have n_1_4 : ¬ (p0.toInt = 4) := by omega
      have n_1_5 : ¬ (p0.toInt = 5) := by omega
      have n_1_6 : ¬ (p0.toInt = 6) := by omega
      have n_1_7 : ¬ (p0.toInt = 7) := by omega
      have n_1_8 : ¬ (p0.toInt = 8) := by omega
      have n_1_9 : ¬ (p0.toInt = 9) := by omega
      refine lv_bipush (v := 115) hx hb dX10_wordOf_282 (by decide) ?_
      refine lv_bipush (v := 116) hx hb dX10_wordOf_284 (by decide) ?_
      refine lv_bipush (v := 97) hx hb dX10_wordOf_286 (by decide) ?_
      refine lv_bipush (v := 110) hx hb dX10_wordOf_288 (by decide) ?_
      refine lv_bipush (v := 100) hx hb dX10_wordOf_290 (by decide) ?_
      refine lv_bipush (v := 115) hx hb dX10_wordOf_292 (by decide) ?_
      refine lv_iconst (v := 0) hx hb dX10_wordOf_294 (by decide) ?_
      refine tk_lr (va_runS (As := [.int 115, .int 116, .int 97, .int 110, .int 100, .int 115, .int 0]) (rest := []) ⟨hx, hb, hml, hown, hts⟩ (c_X10_spelt__41 l D cy z s.heap.size Ps w0 hw.1 115 116 97 110 100 115 0 rl_115 rl_116 rl_97 rl_110 rl_100 rl_115 rl_0) (va_cwS 7 hts (gS tw_1325 tw_1326 tw_15 tw_1327) rfl rfl rfl (by decide +kernel) ⟨Nat.le_of_ble_eq_true rfl, Nat.le_of_ble_eq_true rfl⟩) (tg_preS hw hK hSD hA) rfl rfl hl.1 rfl (lv_room (Nat.le_of_ble_eq_true rfl)) dX10_wordOf_295 ⟨Nat.le_of_ble_eq_true rfl, Nat.le_of_ble_eq_true rfl⟩) hw hA (fun v_12  H locs hp_v_12 hw => ?_)
      obtain ⟨hfn, hp_v_12⟩ := hp_v_12
      have q_v_12 : (f_X10_spelt__30 (115 : Int32) (116 : Int32) (97 : Int32) (110 : Int32) (100 : Int32) (115 : Int32) (0 : Int32)) = v_12 := hfn.1
      have r_v_12 : RJ v_12 283288069 283288069 := hp_v_12
      simp only [f_X10_wordOf__7, ↓reduceIte, eq_false cl_1, eq_false n_1_0, eq_false n_1_1, eq_false n_1_2, eq_false n_1_3, eq_false n_1_4, eq_false n_1_5, eq_false n_1_6, eq_false n_1_7, eq_false n_1_8, eq_false n_1_9, eq_true h_1, q_v_12] at hE
      subst hQ
      exact W.lret (v := v_12) hx hb hr (fun t ht hW => ⟨⟨v_12, (), rfl, ⟨⟨(by rw [hR, ← hE]), trivial⟩, r_v_12.to (by decide)⟩, by rw [ht]; exact hw.2.1, va_K.moved hW.alike hK, hw.2.2.1⟩, hw.2.2.2.1.F ht⟩) hw.2.2.2.1.2.2 dX10_wordOf_298
    · refine lv_tableIn (tgt := 299) (off := 298) hx hb dX10_wordOf_1 (by omega) (by omega) (by rw [h_1]; rfl) (by decide) ?_
      have r_p0 : RI p0 11 11 := ⟨by omega, by omega⟩
      have n_1_0 : ¬ (p0.toInt = 0) := by omega
      have n_1_1 : ¬ (p0.toInt = 1) := by omega
      have n_1_2 : ¬ (p0.toInt = 2) := by omega
      have n_1_3 : ¬ (p0.toInt = 3) := by omega
      have n_1_4 : ¬ (p0.toInt = 4) := by omega
      have n_1_5 : ¬ (p0.toInt = 5) := by omega
      have n_1_6 : ¬ (p0.toInt = 6) := by omega
      have n_1_7 : ¬ (p0.toInt = 7) := by omega
      have n_1_8 : ¬ (p0.toInt = 8) := by omega
      have n_1_9 : ¬ (p0.toInt = 9) := by omega
      have n_1_10 : ¬ (p0.toInt = 10) := by omega
      refine lv_bipush (v := 119) hx hb dX10_wordOf_299 (by decide) ?_
      refine lv_bipush (v := 105) hx hb dX10_wordOf_301 (by decide) ?_
      refine lv_bipush (v := 115) hx hb dX10_wordOf_303 (by decide) ?_
      refine lv_bipush (v := 104) hx hb dX10_wordOf_305 (by decide) ?_
      refine lv_bipush (v := 101) hx hb dX10_wordOf_307 (by decide) ?_
      refine lv_bipush (v := 115) hx hb dX10_wordOf_309 (by decide) ?_
      refine lv_iconst (v := 0) hx hb dX10_wordOf_311 (by decide) ?_
      refine tk_lr (va_runS (As := [.int 119, .int 105, .int 115, .int 104, .int 101, .int 115, .int 0]) (rest := []) ⟨hx, hb, hml, hown, hts⟩ (c_X10_spelt__42 l D cy z s.heap.size Ps w0 hw.1 119 105 115 104 101 115 0 rl_119 rl_105 rl_115 rl_104 rl_101 rl_115 rl_0) (va_cwS 7 hts (gS tw_1325 tw_1326 tw_15 tw_1327) rfl rfl rfl (by decide +kernel) ⟨Nat.le_of_ble_eq_true rfl, Nat.le_of_ble_eq_true rfl⟩) (tg_preS hw hK hSD hA) rfl rfl hl.1 rfl (lv_room (Nat.le_of_ble_eq_true rfl)) dX10_wordOf_312 ⟨Nat.le_of_ble_eq_true rfl, Nat.le_of_ble_eq_true rfl⟩) hw hA (fun v_13  H locs hp_v_13 hw => ?_)
      obtain ⟨hfn, hp_v_13⟩ := hp_v_13
      have q_v_13 : (f_X10_spelt__30 (119 : Int32) (105 : Int32) (115 : Int32) (104 : Int32) (101 : Int32) (115 : Int32) (0 : Int32)) = v_13 := hfn.1
      have r_v_13 : RJ v_13 335187793 335187793 := hp_v_13
      simp only [f_X10_wordOf__7, ↓reduceIte, eq_false cl_1, eq_false n_1_0, eq_false n_1_1, eq_false n_1_2, eq_false n_1_3, eq_false n_1_4, eq_false n_1_5, eq_false n_1_6, eq_false n_1_7, eq_false n_1_8, eq_false n_1_9, eq_false n_1_10, eq_true h_1, q_v_13] at hE
      subst hQ
      exact W.lret (v := v_13) hx hb hr (fun t ht hW => ⟨⟨v_13, (), rfl, ⟨⟨(by rw [hR, ← hE]), trivial⟩, r_v_13.to (by decide)⟩, by rw [ht]; exact hw.2.1, va_K.moved hW.alike hK, hw.2.2.1⟩, hw.2.2.2.1.F ht⟩) hw.2.2.2.1.2.2 dX10_wordOf_315
    · refine lv_tableIn (tgt := 316) (off := 315) hx hb dX10_wordOf_1 (by omega) (by omega) (by rw [h_1]; rfl) (by decide) ?_
      have r_p0 : RI p0 12 12 := ⟨by omega, by omega⟩
      have n_1_0 : ¬ (p0.toInt = 0) := by omega
      have n_1_1 : ¬ (p0.toInt = 1) := by omega
      have n_1_2 : ¬ (p0.toInt = 2) := by omega
      have n_1_3 : ¬ (p0.toInt = 3) := by omega
      have n_1_4 : ¬ (p0.toInt = 4) := by omega
      have n_1_5 : ¬ (p0.toInt = 5) := by omega
      have n_1_6 : ¬ (p0.toInt = 6) := by omega
      have n_1_7 : ¬ (p0.toInt = 7) := by omega
      have n_1_8 : ¬ (p0.toInt = 8) := by omega
      have n_1_9 : ¬ (p0.toInt = 9) := by omega
      have n_1_10 : ¬ (p0.toInt = 10) := by omega
      have n_1_11 : ¬ (p0.toInt = 11) := by omega
      refine lv_bipush (v := 103) hx hb dX10_wordOf_316 (by decide) ?_
      refine lv_bipush (v := 117) hx hb dX10_wordOf_318 (by decide) ?_
      refine lv_bipush (v := 101) hx hb dX10_wordOf_320 (by decide) ?_
      refine lv_bipush (v := 115) hx hb dX10_wordOf_322 (by decide) ?_
      refine lv_bipush (v := 115) hx hb dX10_wordOf_324 (by decide) ?_
      refine lv_bipush (v := 101) hx hb dX10_wordOf_326 (by decide) ?_
      refine lv_bipush (v := 115) hx hb dX10_wordOf_328 (by decide) ?_
      refine tk_lr (va_runS (As := [.int 103, .int 117, .int 101, .int 115, .int 115, .int 101, .int 115]) (rest := []) ⟨hx, hb, hml, hown, hts⟩ (c_X10_spelt__43 l D cy z s.heap.size Ps w0 hw.1 103 117 101 115 115 101 115 rl_103 rl_117 rl_101 rl_115 rl_115 rl_101 rl_115) (va_cwS 7 hts (gS tw_1325 tw_1326 tw_15 tw_1327) rfl rfl rfl (by decide +kernel) ⟨Nat.le_of_ble_eq_true rfl, Nat.le_of_ble_eq_true rfl⟩) (tg_preS hw hK hSD hA) rfl rfl hl.1 rfl (lv_room (Nat.le_of_ble_eq_true rfl)) dX10_wordOf_330 ⟨Nat.le_of_ble_eq_true rfl, Nat.le_of_ble_eq_true rfl⟩) hw hA (fun v_14  H locs hp_v_14 hw => ?_)
      obtain ⟨hfn, hp_v_14⟩ := hp_v_14
      have q_v_14 : (f_X10_spelt__37 (103 : Int32) (117 : Int32) (101 : Int32) (115 : Int32) (115 : Int32) (101 : Int32) (115 : Int32)) = v_14 := hfn.1
      have r_v_14 : RJ v_14 3016315657 3016315657 := hp_v_14
      simp only [f_X10_wordOf__7, ↓reduceIte, eq_false cl_1, eq_false n_1_0, eq_false n_1_1, eq_false n_1_2, eq_false n_1_3, eq_false n_1_4, eq_false n_1_5, eq_false n_1_6, eq_false n_1_7, eq_false n_1_8, eq_false n_1_9, eq_false n_1_10, eq_false n_1_11, eq_true h_1, q_v_14] at hE
      subst hQ
      exact W.lret (v := v_14) hx hb hr (fun t ht hW => ⟨⟨v_14, (), rfl, ⟨⟨(by rw [hR, ← hE]), trivial⟩, r_v_14.to (by decide)⟩, by rw [ht]; exact hw.2.1, va_K.moved hW.alike hK, hw.2.2.1⟩, hw.2.2.2.1.F ht⟩) hw.2.2.2.1.2.2 dX10_wordOf_333
    · refine lv_tableIn (tgt := 334) (off := 333) hx hb dX10_wordOf_1 (by omega) (by omega) (by rw [h_1]; rfl) (by decide) ?_
      have r_p0 : RI p0 13 13 := ⟨by omega, by omega⟩
      have n_1_0 : ¬ (p0.toInt = 0) := by omega
      have n_1_1 : ¬ (p0.toInt = 1) := by omega
      have n_1_2 : ¬ (p0.toInt = 2) := by omega
      have n_1_3 : ¬ (p0.toInt = 3) := by omega
      have n_1_4 : ¬ (p0.toInt = 4) := by omega
      have n_1_5 : ¬ (p0.toInt = 5) := by omega
      have n_1_6 : ¬ (p0.toInt = 6) := by omega
      have n_1_7 : ¬ (p0.toInt = 7) := by omega
      have n_1_8 : ¬ (p0.toInt = 8) := by omega
      have n_1_9 : ¬ (p0.toInt = 9) := by omega
      have n_1_10 : ¬ (p0.toInt = 10) := by omega
      have n_1_11 : ¬ (p0.toInt = 11) := by omega
      have n_1_12 : ¬ (p0.toInt = 12) := by omega
      refine lv_bipush (v := 111) hx hb dX10_wordOf_334 (by decide) ?_
      refine lv_bipush (v := 112) hx hb dX10_wordOf_336 (by decide) ?_
      refine lv_bipush (v := 101) hx hb dX10_wordOf_338 (by decide) ?_
      refine lv_bipush (v := 110) hx hb dX10_wordOf_340 (by decide) ?_
      refine lv_iconst (v := 0) hx hb dX10_wordOf_342 (by decide) ?_
      refine lv_iconst (v := 0) hx hb dX10_wordOf_343 (by decide) ?_
      refine lv_iconst (v := 0) hx hb dX10_wordOf_344 (by decide) ?_
      refine tk_lr (va_runS (As := [.int 111, .int 112, .int 101, .int 110, .int 0, .int 0, .int 0]) (rest := []) ⟨hx, hb, hml, hown, hts⟩ (c_X10_spelt__44 l D cy z s.heap.size Ps w0 hw.1 111 112 101 110 0 0 0 rl_111 rl_112 rl_101 rl_110 rl_0 rl_0 rl_0) (va_cwS 7 hts (gS tw_1325 tw_1326 tw_15 tw_1327) rfl rfl rfl (by decide +kernel) ⟨Nat.le_of_ble_eq_true rfl, Nat.le_of_ble_eq_true rfl⟩) (tg_preS hw hK hSD hA) rfl rfl hl.1 rfl (lv_room (Nat.le_of_ble_eq_true rfl)) dX10_wordOf_345 ⟨Nat.le_of_ble_eq_true rfl, Nat.le_of_ble_eq_true rfl⟩) hw hA (fun v_15  H locs hp_v_15 hw => ?_)
      obtain ⟨hfn, hp_v_15⟩ := hp_v_15
      have q_v_15 : (f_X10_spelt__31 (111 : Int32) (112 : Int32) (101 : Int32) (110 : Int32) (0 : Int32) (0 : Int32) (0 : Int32)) = v_15 := hfn.1
      have r_v_15 : RJ v_15 307058 307058 := hp_v_15
      simp only [f_X10_wordOf__7, ↓reduceIte, eq_false cl_1, eq_false n_1_0, eq_false n_1_1, eq_false n_1_2, eq_false n_1_3, eq_false n_1_4, eq_false n_1_5, eq_false n_1_6, eq_false n_1_7, eq_false n_1_8, eq_false n_1_9, eq_false n_1_10, eq_false n_1_11, eq_false n_1_12, eq_true h_1, q_v_15] at hE
      subst hQ
      exact W.lret (v := v_15) hx hb hr (fun t ht hW => ⟨⟨v_15, (), rfl, ⟨⟨(by rw [hR, ← hE]), trivial⟩, r_v_15.to (by decide)⟩, by rw [ht]; exact hw.2.1, va_K.moved hW.alike hK, hw.2.2.1⟩, hw.2.2.2.1.F ht⟩) hw.2.2.2.1.2.2 dX10_wordOf_348
    · refine lv_tableIn (tgt := 349) (off := 348) hx hb dX10_wordOf_1 (by omega) (by omega) (by rw [h_1]; rfl) (by decide) ?_
      have r_p0 : RI p0 14 14 := ⟨by omega, by omega⟩
      have n_1_0 : ¬ (p0.toInt = 0) := by omega
      have n_1_1 : ¬ (p0.toInt = 1) := by omega
      have n_1_2 : ¬ (p0.toInt = 2) := by omega
      have n_1_3 : ¬ (p0.toInt = 3) := by omega
      have n_1_4 : ¬ (p0.toInt = 4) := by omega
      have n_1_5 : ¬ (p0.toInt = 5) := by omega
      have n_1_6 : ¬ (p0.toInt = 6) := by omega
      have n_1_7 : ¬ (p0.toInt = 7) := by omega
      have n_1_8 : ¬ (p0.toInt = 8) := by omega
      have n_1_9 : ¬ (p0.toInt = 9) := by omega
      have n_1_10 : ¬ (p0.toInt = 10) := by omega
      have n_1_11 : ¬ (p0.toInt = 11) := by omega
      have n_1_12 : ¬ (p0.toInt = 12) := by omega
      have n_1_13 : ¬ (p0.toInt = 13) := by omega
      refine lv_bipush (v := 99) hx hb dX10_wordOf_349 (by decide) ?_
      refine lv_bipush (v := 97) hx hb dX10_wordOf_351 (by decide) ?_
      refine lv_bipush (v := 114) hx hb dX10_wordOf_353 (by decide) ?_
      refine lv_bipush (v := 114) hx hb dX10_wordOf_355 (by decide) ?_
      refine lv_bipush (v := 121) hx hb dX10_wordOf_357 (by decide) ?_
      refine lv_iconst (v := 0) hx hb dX10_wordOf_359 (by decide) ?_
      refine lv_iconst (v := 0) hx hb dX10_wordOf_360 (by decide) ?_
      refine tk_lr (va_runS (As := [.int 99, .int 97, .int 114, .int 114, .int 121, .int 0, .int 0]) (rest := []) ⟨hx, hb, hml, hown, hts⟩ (c_X10_spelt__45 l D cy z s.heap.size Ps w0 hw.1 99 97 114 114 121 0 0 rl_99 rl_97 rl_114 rl_114 rl_121 rl_0 rl_0) (va_cwS 7 hts (gS tw_1325 tw_1326 tw_15 tw_1327) rfl rfl rfl (by decide +kernel) ⟨Nat.le_of_ble_eq_true rfl, Nat.le_of_ble_eq_true rfl⟩) (tg_preS hw hK hSD hA) rfl rfl hl.1 rfl (lv_room (Nat.le_of_ble_eq_true rfl)) dX10_wordOf_361 ⟨Nat.le_of_ble_eq_true rfl, Nat.le_of_ble_eq_true rfl⟩) hw hA (fun v_16  H locs hp_v_16 hw => ?_)
      obtain ⟨hfn, hp_v_16⟩ := hp_v_16
      have q_v_16 : (f_X10_spelt__39 (99 : Int32) (97 : Int32) (114 : Int32) (114 : Int32) (121 : Int32) (0 : Int32) (0 : Int32)) = v_16 := hfn.1
      have r_v_16 : RJ v_16 1627639 1627639 := hp_v_16
      simp only [f_X10_wordOf__7, ↓reduceIte, eq_false cl_1, eq_false n_1_0, eq_false n_1_1, eq_false n_1_2, eq_false n_1_3, eq_false n_1_4, eq_false n_1_5, eq_false n_1_6, eq_false n_1_7, eq_false n_1_8, eq_false n_1_9, eq_false n_1_10, eq_false n_1_11, eq_false n_1_12, eq_false n_1_13, eq_true h_1, q_v_16] at hE
      subst hQ
      exact W.lret (v := v_16) hx hb hr (fun t ht hW => ⟨⟨v_16, (), rfl, ⟨⟨(by rw [hR, ← hE]), trivial⟩, r_v_16.to (by decide)⟩, by rw [ht]; exact hw.2.1, va_K.moved hW.alike hK, hw.2.2.1⟩, hw.2.2.2.1.F ht⟩) hw.2.2.2.1.2.2 dX10_wordOf_364
    · refine lv_tableIn (tgt := 365) (off := 364) hx hb dX10_wordOf_1 (by omega) (by omega) (by rw [h_1]; rfl) (by decide) ?_
      have r_p0 : RI p0 15 15 := ⟨by omega, by omega⟩
      have n_1_0 : ¬ (p0.toInt = 0) := by omega
      have n_1_1 : ¬ (p0.toInt = 1) := by omega
      have n_1_2 : ¬ (p0.toInt = 2) := by omega
      have n_1_3 : ¬ (p0.toInt = 3) := by omega
      have n_1_4 : ¬ (p0.toInt = 4) := by omega
      have n_1_5 : ¬ (p0.toInt = 5) := by omega
      have n_1_6 : ¬ (p0.toInt = 6) := by omega
      have n_1_7 : ¬ (p0.toInt = 7) := by omega
      have n_1_8 : ¬ (p0.toInt = 8) := by omega
      have n_1_9 : ¬ (p0.toInt = 9) := by omega
      have n_1_10 : ¬ (p0.toInt = 10) := by omega
      have n_1_11 : ¬ (p0.toInt = 11) := by omega
      have n_1_12 : ¬ (p0.toInt = 12) := by omega
      have n_1_13 : ¬ (p0.toInt = 13) := by omega
      have n_1_14 : ¬ (p0.toInt = 14) := by omega
      refine lv_bipush (v := 100) hx hb dX10_wordOf_365 (by decide) ?_
      refine lv_bipush (v := 97) hx hb dX10_wordOf_367 (by decide) ?_
      refine lv_bipush (v := 121) hx hb dX10_wordOf_369 (by decide) ?_
      refine lv_iconst (v := 0) hx hb dX10_wordOf_371 (by decide) ?_
      refine lv_iconst (v := 0) hx hb dX10_wordOf_372 (by decide) ?_
      refine lv_iconst (v := 0) hx hb dX10_wordOf_373 (by decide) ?_
      refine lv_iconst (v := 0) hx hb dX10_wordOf_374 (by decide) ?_
      refine tk_lr (va_runS (As := [.int 100, .int 97, .int 121, .int 0, .int 0, .int 0, .int 0]) (rest := []) ⟨hx, hb, hml, hown, hts⟩ (c_X10_spelt__46 l D cy z s.heap.size Ps w0 hw.1 100 97 121 0 0 0 0 rl_100 rl_97 rl_121 rl_0 rl_0 rl_0 rl_0) (va_cwS 7 hts (gS tw_1325 tw_1326 tw_15 tw_1327) rfl rfl rfl (by decide +kernel) ⟨Nat.le_of_ble_eq_true rfl, Nat.le_of_ble_eq_true rfl⟩) (tg_preS hw hK hSD hA) rfl rfl hl.1 rfl (lv_room (Nat.le_of_ble_eq_true rfl)) dX10_wordOf_375 ⟨Nat.le_of_ble_eq_true rfl, Nat.le_of_ble_eq_true rfl⟩) hw hA (fun v_17  H locs hp_v_17 hw => ?_)
      obtain ⟨hfn, hp_v_17⟩ := hp_v_17
      have q_v_17 : (f_X10_spelt__36 (100 : Int32) (97 : Int32) (121 : Int32) (0 : Int32) (0 : Int32) (0 : Int32) (0 : Int32)) = v_17 := hfn.1
      have r_v_17 : RJ v_17 2968 2968 := hp_v_17
      simp only [f_X10_wordOf__7, ↓reduceIte, eq_false cl_1, eq_false n_1_0, eq_false n_1_1, eq_false n_1_2, eq_false n_1_3, eq_false n_1_4, eq_false n_1_5, eq_false n_1_6, eq_false n_1_7, eq_false n_1_8, eq_false n_1_9, eq_false n_1_10, eq_false n_1_11, eq_false n_1_12, eq_false n_1_13, eq_false n_1_14, eq_true h_1, q_v_17] at hE
      subst hQ
      exact W.lret (v := v_17) hx hb hr (fun t ht hW => ⟨⟨v_17, (), rfl, ⟨⟨(by rw [hR, ← hE]), trivial⟩, r_v_17.to (by decide)⟩, by rw [ht]; exact hw.2.1, va_K.moved hW.alike hK, hw.2.2.1⟩, hw.2.2.2.1.F ht⟩) hw.2.2.2.1.2.2 dX10_wordOf_378
    · refine lv_tableIn (tgt := 379) (off := 378) hx hb dX10_wordOf_1 (by omega) (by omega) (by rw [h_1]; rfl) (by decide) ?_
      have r_p0 : RI p0 16 16 := ⟨by omega, by omega⟩
      have n_1_0 : ¬ (p0.toInt = 0) := by omega
      have n_1_1 : ¬ (p0.toInt = 1) := by omega
      have n_1_2 : ¬ (p0.toInt = 2) := by omega
      have n_1_3 : ¬ (p0.toInt = 3) := by omega
      have n_1_4 : ¬ (p0.toInt = 4) := by omega
      have n_1_5 : ¬ (p0.toInt = 5) := by omega
      have n_1_6 : ¬ (p0.toInt = 6) := by omega
      have n_1_7 : ¬ (p0.toInt = 7) := by omega
      have n_1_8 : ¬ (p0.toInt = 8) := by omega
      have n_1_9 : ¬ (p0.toInt = 9) := by omega
      have n_1_10 : ¬ (p0.toInt = 10) := by omega
      have n_1_11 : ¬ (p0.toInt = 11) := by omega
      have n_1_12 : ¬ (p0.toInt = 12) := by omega
      have n_1_13 : ¬ (p0.toInt = 13) := by omega
      have n_1_14 : ¬ (p0.toInt = 14) := by omega
      have n_1_15 : ¬ (p0.toInt = 15) := by omega
      refine lv_bipush (v := 111) hx hb dX10_wordOf_379 (by decide) ?_
      refine lv_bipush (v := 114) hx hb dX10_wordOf_381 (by decide) ?_
      refine lv_iconst (v := 0) hx hb dX10_wordOf_383 (by decide) ?_
      refine lv_iconst (v := 0) hx hb dX10_wordOf_384 (by decide) ?_
      refine lv_iconst (v := 0) hx hb dX10_wordOf_385 (by decide) ?_
      refine lv_iconst (v := 0) hx hb dX10_wordOf_386 (by decide) ?_
      refine lv_iconst (v := 0) hx hb dX10_wordOf_387 (by decide) ?_
      refine tk_lr (va_runS (As := [.int 111, .int 114, .int 0, .int 0, .int 0, .int 0, .int 0]) (rest := []) ⟨hx, hb, hml, hown, hts⟩ (c_X10_spelt__47 l D cy z s.heap.size Ps w0 hw.1 111 114 0 0 0 0 0 rl_111 rl_114 rl_0 rl_0 rl_0 rl_0 rl_0) (va_cwS 7 hts (gS tw_1325 tw_1326 tw_15 tw_1327) rfl rfl rfl (by decide +kernel) ⟨Nat.le_of_ble_eq_true rfl, Nat.le_of_ble_eq_true rfl⟩) (tg_preS hw hK hSD hA) rfl rfl hl.1 rfl (lv_room (Nat.le_of_ble_eq_true rfl)) dX10_wordOf_388 ⟨Nat.le_of_ble_eq_true rfl, Nat.le_of_ble_eq_true rfl⟩) hw hA (fun v_18  H locs hp_v_18 hw => ?_)
      obtain ⟨hfn, hp_v_18⟩ := hp_v_18
      have q_v_18 : (f_X10_spelt__47 (111 : Int32) (114 : Int32) (0 : Int32) (0 : Int32) (0 : Int32) (0 : Int32) (0 : Int32)) = v_18 := hfn.1
      have r_v_18 : RJ v_18 423 423 := hp_v_18
      simp only [f_X10_wordOf__7, ↓reduceIte, eq_false cl_1, eq_false n_1_0, eq_false n_1_1, eq_false n_1_2, eq_false n_1_3, eq_false n_1_4, eq_false n_1_5, eq_false n_1_6, eq_false n_1_7, eq_false n_1_8, eq_false n_1_9, eq_false n_1_10, eq_false n_1_11, eq_false n_1_12, eq_false n_1_13, eq_false n_1_14, eq_false n_1_15, eq_true h_1, q_v_18] at hE
      subst hQ
      exact W.lret (v := v_18) hx hb hr (fun t ht hW => ⟨⟨v_18, (), rfl, ⟨⟨(by rw [hR, ← hE]), trivial⟩, r_v_18.to (by decide)⟩, by rw [ht]; exact hw.2.1, va_K.moved hW.alike hK, hw.2.2.1⟩, hw.2.2.2.1.F ht⟩) hw.2.2.2.1.2.2 dX10_wordOf_391
    · refine lv_tableIn (tgt := 392) (off := 391) hx hb dX10_wordOf_1 (by omega) (by omega) (by rw [h_1]; rfl) (by decide) ?_
      have r_p0 : RI p0 17 17 := ⟨by omega, by omega⟩
      have n_1_0 : ¬ (p0.toInt = 0) := by omega
      have n_1_1 : ¬ (p0.toInt = 1) := by omega
      have n_1_2 : ¬ (p0.toInt = 2) := by omega
      have n_1_3 : ¬ (p0.toInt = 3) := by omega
      have n_1_4 : ¬ (p0.toInt = 4) := by omega
      have n_1_5 : ¬ (p0.toInt = 5) := by omega
      have n_1_6 : ¬ (p0.toInt = 6) := by omega
      have n_1_7 : ¬ (p0.toInt = 7) := by omega
      have n_1_8 : ¬ (p0.toInt = 8) := by omega
      have n_1_9 : ¬ (p0.toInt = 9) := by omega
      have n_1_10 : ¬ (p0.toInt = 10) := by omega
      have n_1_11 : ¬ (p0.toInt = 11) := by omega
      have n_1_12 : ¬ (p0.toInt = 12) := by omega
      have n_1_13 : ¬ (p0.toInt = 13) := by omega
      have n_1_14 : ¬ (p0.toInt = 14) := by omega
      have n_1_15 : ¬ (p0.toInt = 15) := by omega
      have n_1_16 : ¬ (p0.toInt = 16) := by omega
      refine lv_bipush (v := 97) hx hb dX10_wordOf_392 (by decide) ?_
      refine lv_bipush (v := 110) hx hb dX10_wordOf_394 (by decide) ?_
      refine lv_bipush (v := 100) hx hb dX10_wordOf_396 (by decide) ?_
      refine lv_iconst (v := 0) hx hb dX10_wordOf_398 (by decide) ?_
      refine lv_iconst (v := 0) hx hb dX10_wordOf_399 (by decide) ?_
      refine lv_iconst (v := 0) hx hb dX10_wordOf_400 (by decide) ?_
      refine lv_iconst (v := 0) hx hb dX10_wordOf_401 (by decide) ?_
      refine tk_lr (va_runS (As := [.int 97, .int 110, .int 100, .int 0, .int 0, .int 0, .int 0]) (rest := []) ⟨hx, hb, hml, hown, hts⟩ (c_X10_spelt__48 l D cy z s.heap.size Ps w0 hw.1 97 110 100 0 0 0 0 rl_97 rl_110 rl_100 rl_0 rl_0 rl_0 rl_0) (va_cwS 7 hts (gS tw_1325 tw_1326 tw_15 tw_1327) rfl rfl rfl (by decide +kernel) ⟨Nat.le_of_ble_eq_true rfl, Nat.le_of_ble_eq_true rfl⟩) (tg_preS hw hK hSD hA) rfl rfl hl.1 rfl (lv_room (Nat.le_of_ble_eq_true rfl)) dX10_wordOf_402 ⟨Nat.le_of_ble_eq_true rfl, Nat.le_of_ble_eq_true rfl⟩) hw hA (fun v_19  H locs hp_v_19 hw => ?_)
      obtain ⟨hfn, hp_v_19⟩ := hp_v_19
      have q_v_19 : (f_X10_spelt__36 (97 : Int32) (110 : Int32) (100 : Int32) (0 : Int32) (0 : Int32) (0 : Int32) (0 : Int32)) = v_19 := hfn.1
      have r_v_19 : RJ v_19 1111 1111 := hp_v_19
      simp only [f_X10_wordOf__7, ↓reduceIte, eq_false cl_1, eq_false n_1_0, eq_false n_1_1, eq_false n_1_2, eq_false n_1_3, eq_false n_1_4, eq_false n_1_5, eq_false n_1_6, eq_false n_1_7, eq_false n_1_8, eq_false n_1_9, eq_false n_1_10, eq_false n_1_11, eq_false n_1_12, eq_false n_1_13, eq_false n_1_14, eq_false n_1_15, eq_false n_1_16, eq_true h_1, q_v_19] at hE
      subst hQ
      exact W.lret (v := v_19) hx hb hr (fun t ht hW => ⟨⟨v_19, (), rfl, ⟨⟨(by rw [hR, ← hE]), trivial⟩, r_v_19.to (by decide)⟩, by rw [ht]; exact hw.2.1, va_K.moved hW.alike hK, hw.2.2.1⟩, hw.2.2.2.1.F ht⟩) hw.2.2.2.1.2.2 dX10_wordOf_405
    · refine lv_tableIn (tgt := 406) (off := 405) hx hb dX10_wordOf_1 (by omega) (by omega) (by rw [h_1]; rfl) (by decide) ?_
      have r_p0 : RI p0 18 18 := ⟨by omega, by omega⟩
      have n_1_0 : ¬ (p0.toInt = 0) := by omega
      have n_1_1 : ¬ (p0.toInt = 1) := by omega
      have n_1_2 : ¬ (p0.toInt = 2) := by omega
      have n_1_3 : ¬ (p0.toInt = 3) := by omega
      have n_1_4 : ¬ (p0.toInt = 4) := by omega
      have n_1_5 : ¬ (p0.toInt = 5) := by omega
      have n_1_6 : ¬ (p0.toInt = 6) := by omega
      have n_1_7 : ¬ (p0.toInt = 7) := by omega
      have n_1_8 : ¬ (p0.toInt = 8) := by omega
      have n_1_9 : ¬ (p0.toInt = 9) := by omega
      have n_1_10 : ¬ (p0.toInt = 10) := by omega
      have n_1_11 : ¬ (p0.toInt = 11) := by omega
      have n_1_12 : ¬ (p0.toInt = 12) := by omega
      have n_1_13 : ¬ (p0.toInt = 13) := by omega
      have n_1_14 : ¬ (p0.toInt = 14) := by omega
      have n_1_15 : ¬ (p0.toInt = 15) := by omega
      have n_1_16 : ¬ (p0.toInt = 16) := by omega
      have n_1_17 : ¬ (p0.toInt = 17) := by omega
      refine lv_bipush (v := 110) hx hb dX10_wordOf_406 (by decide) ?_
      refine lv_bipush (v := 111) hx hb dX10_wordOf_408 (by decide) ?_
      refine lv_bipush (v := 116) hx hb dX10_wordOf_410 (by decide) ?_
      refine lv_iconst (v := 0) hx hb dX10_wordOf_412 (by decide) ?_
      refine lv_iconst (v := 0) hx hb dX10_wordOf_413 (by decide) ?_
      refine lv_iconst (v := 0) hx hb dX10_wordOf_414 (by decide) ?_
      refine lv_iconst (v := 0) hx hb dX10_wordOf_415 (by decide) ?_
      refine tk_lr (va_runS (As := [.int 110, .int 111, .int 116, .int 0, .int 0, .int 0, .int 0]) (rest := []) ⟨hx, hb, hml, hown, hts⟩ (c_X10_spelt__49 l D cy z s.heap.size Ps w0 hw.1 110 111 116 0 0 0 0 rl_110 rl_111 rl_116 rl_0 rl_0 rl_0 rl_0) (va_cwS 7 hts (gS tw_1325 tw_1326 tw_15 tw_1327) rfl rfl rfl (by decide +kernel) ⟨Nat.le_of_ble_eq_true rfl, Nat.le_of_ble_eq_true rfl⟩) (tg_preS hw hK hSD hA) rfl rfl hl.1 rfl (lv_room (Nat.le_of_ble_eq_true rfl)) dX10_wordOf_416 ⟨Nat.le_of_ble_eq_true rfl, Nat.le_of_ble_eq_true rfl⟩) hw hA (fun v_20  H locs hp_v_20 hw => ?_)
      obtain ⟨hfn, hp_v_20⟩ := hp_v_20
      have q_v_20 : (f_X10_spelt__36 (110 : Int32) (111 : Int32) (116 : Int32) (0 : Int32) (0 : Int32) (0 : Int32) (0 : Int32)) = v_20 := hfn.1
      have r_v_20 : RJ v_20 10631 10631 := hp_v_20
      simp only [f_X10_wordOf__7, ↓reduceIte, eq_false cl_1, eq_false n_1_0, eq_false n_1_1, eq_false n_1_2, eq_false n_1_3, eq_false n_1_4, eq_false n_1_5, eq_false n_1_6, eq_false n_1_7, eq_false n_1_8, eq_false n_1_9, eq_false n_1_10, eq_false n_1_11, eq_false n_1_12, eq_false n_1_13, eq_false n_1_14, eq_false n_1_15, eq_false n_1_16, eq_false n_1_17, eq_true h_1, q_v_20] at hE
      subst hQ
      exact W.lret (v := v_20) hx hb hr (fun t ht hW => ⟨⟨v_20, (), rfl, ⟨⟨(by rw [hR, ← hE]), trivial⟩, r_v_20.to (by decide)⟩, by rw [ht]; exact hw.2.1, va_K.moved hW.alike hK, hw.2.2.1⟩, hw.2.2.2.1.F ht⟩) hw.2.2.2.1.2.2 dX10_wordOf_419
    · refine lv_tableIn (tgt := 420) (off := 419) hx hb dX10_wordOf_1 (by omega) (by omega) (by rw [h_1]; rfl) (by decide) ?_
      have r_p0 : RI p0 19 19 := ⟨by omega, by omega⟩
      have n_1_0 : ¬ (p0.toInt = 0) := by omega
      have n_1_1 : ¬ (p0.toInt = 1) := by omega
      have n_1_2 : ¬ (p0.toInt = 2) := by omega
      have n_1_3 : ¬ (p0.toInt = 3) := by omega
      have n_1_4 : ¬ (p0.toInt = 4) := by omega
      have n_1_5 : ¬ (p0.toInt = 5) := by omega
      have n_1_6 : ¬ (p0.toInt = 6) := by omega
      have n_1_7 : ¬ (p0.toInt = 7) := by omega
      have n_1_8 : ¬ (p0.toInt = 8) := by omega
      have n_1_9 : ¬ (p0.toInt = 9) := by omega
      have n_1_10 : ¬ (p0.toInt = 10) := by omega
      have n_1_11 : ¬ (p0.toInt = 11) := by omega
      have n_1_12 : ¬ (p0.toInt = 12) := by omega
      have n_1_13 : ¬ (p0.toInt = 13) := by omega
      have n_1_14 : ¬ (p0.toInt = 14) := by omega
      have n_1_15 : ¬ (p0.toInt = 15) := by omega
      have n_1_16 : ¬ (p0.toInt = 16) := by omega
      have n_1_17 : ¬ (p0.toInt = 17) := by omega
      have n_1_18 : ¬ (p0.toInt = 18) := by omega
      refine lv_bipush (v := 111) hx hb dX10_wordOf_420 (by decide) ?_
      refine lv_bipush (v := 112) hx hb dX10_wordOf_422 (by decide) ?_
      refine lv_bipush (v := 101) hx hb dX10_wordOf_424 (by decide) ?_
      refine lv_bipush (v := 110) hx hb dX10_wordOf_426 (by decide) ?_
      refine lv_bipush (v := 101) hx hb dX10_wordOf_428 (by decide) ?_
      refine lv_bipush (v := 100) hx hb dX10_wordOf_430 (by decide) ?_
      refine lv_iconst (v := 0) hx hb dX10_wordOf_432 (by decide) ?_
      refine tk_lr (va_runS (As := [.int 111, .int 112, .int 101, .int 110, .int 101, .int 100, .int 0]) (rest := []) ⟨hx, hb, hml, hown, hts⟩ (c_X10_spelt__50 l D cy z s.heap.size Ps w0 hw.1 111 112 101 110 101 100 0 rl_111 rl_112 rl_101 rl_110 rl_101 rl_100 rl_0) (va_cwS 7 hts (gS tw_1325 tw_1326 tw_15 tw_1327) rfl rfl rfl (by decide +kernel) ⟨Nat.le_of_ble_eq_true rfl, Nat.le_of_ble_eq_true rfl⟩) (tg_preS hw hK hSD hA) rfl rfl hl.1 rfl (lv_room (Nat.le_of_ble_eq_true rfl)) dX10_wordOf_433 ⟨Nat.le_of_ble_eq_true rfl, Nat.le_of_ble_eq_true rfl⟩) hw hA (fun v_21  H locs hp_v_21 hw => ?_)
      obtain ⟨hfn, hp_v_21⟩ := hp_v_21
      have q_v_21 : (f_X10_spelt__30 (111 : Int32) (112 : Int32) (101 : Int32) (110 : Int32) (101 : Int32) (100 : Int32) (0 : Int32)) = v_21 := hfn.1
      have r_v_21 : RJ v_21 223845421 223845421 := hp_v_21
      simp only [f_X10_wordOf__7, ↓reduceIte, eq_false cl_1, eq_false n_1_0, eq_false n_1_1, eq_false n_1_2, eq_false n_1_3, eq_false n_1_4, eq_false n_1_5, eq_false n_1_6, eq_false n_1_7, eq_false n_1_8, eq_false n_1_9, eq_false n_1_10, eq_false n_1_11, eq_false n_1_12, eq_false n_1_13, eq_false n_1_14, eq_false n_1_15, eq_false n_1_16, eq_false n_1_17, eq_false n_1_18, eq_true h_1, q_v_21] at hE
      subst hQ
      exact W.lret (v := v_21) hx hb hr (fun t ht hW => ⟨⟨v_21, (), rfl, ⟨⟨(by rw [hR, ← hE]), trivial⟩, r_v_21.to (by decide)⟩, by rw [ht]; exact hw.2.1, va_K.moved hW.alike hK, hw.2.2.1⟩, hw.2.2.2.1.F ht⟩) hw.2.2.2.1.2.2 dX10_wordOf_436
    · refine lv_tableIn (tgt := 437) (off := 436) hx hb dX10_wordOf_1 (by omega) (by omega) (by rw [h_1]; rfl) (by decide) ?_
      have r_p0 : RI p0 20 20 := ⟨by omega, by omega⟩
      have n_1_0 : ¬ (p0.toInt = 0) := by omega
      have n_1_1 : ¬ (p0.toInt = 1) := by omega
      have n_1_2 : ¬ (p0.toInt = 2) := by omega
      have n_1_3 : ¬ (p0.toInt = 3) := by omega
      have n_1_4 : ¬ (p0.toInt = 4) := by omega
      have n_1_5 : ¬ (p0.toInt = 5) := by omega
      have n_1_6 : ¬ (p0.toInt = 6) := by omega
      have n_1_7 : ¬ (p0.toInt = 7) := by omega
      have n_1_8 : ¬ (p0.toInt = 8) := by omega
      have n_1_9 : ¬ (p0.toInt = 9) := by omega
      have n_1_10 : ¬ (p0.toInt = 10) := by omega
      have n_1_11 : ¬ (p0.toInt = 11) := by omega
      have n_1_12 : ¬ (p0.toInt = 12) := by omega
      have n_1_13 : ¬ (p0.toInt = 13) := by omega
      have n_1_14 : ¬ (p0.toInt = 14) := by omega
      have n_1_15 : ¬ (p0.toInt = 15) := by omega
      have n_1_16 : ¬ (p0.toInt = 16) := by omega
      have n_1_17 : ¬ (p0.toInt = 17) := by omega
      have n_1_18 : ¬ (p0.toInt = 18) := by omega
      have n_1_19 : ¬ (p0.toInt = 19) := by omega
      refine lv_bipush (v := 110) hx hb dX10_wordOf_437 (by decide) ?_
      refine lv_bipush (v := 111) hx hb dX10_wordOf_439 (by decide) ?_
      refine lv_bipush (v := 116) hx hb dX10_wordOf_441 (by decide) ?_
      refine lv_bipush (v := 104) hx hb dX10_wordOf_443 (by decide) ?_
      refine lv_bipush (v := 105) hx hb dX10_wordOf_445 (by decide) ?_
      refine lv_bipush (v := 110) hx hb dX10_wordOf_447 (by decide) ?_
      refine lv_bipush (v := 103) hx hb dX10_wordOf_449 (by decide) ?_
      refine tk_lr (va_runS (As := [.int 110, .int 111, .int 116, .int 104, .int 105, .int 110, .int 103]) (rest := []) ⟨hx, hb, hml, hown, hts⟩ (c_X10_spelt__51 l D cy z s.heap.size Ps w0 hw.1 110 111 116 104 105 110 103 rl_110 rl_111 rl_116 rl_104 rl_105 rl_110 rl_103) (va_cwS 7 hts (gS tw_1325 tw_1326 tw_15 tw_1327) rfl rfl rfl (by decide +kernel) ⟨Nat.le_of_ble_eq_true rfl, Nat.le_of_ble_eq_true rfl⟩) (tg_preS hw hK hSD hA) rfl rfl hl.1 rfl (lv_room (Nat.le_of_ble_eq_true rfl)) dX10_wordOf_451 ⟨Nat.le_of_ble_eq_true rfl, Nat.le_of_ble_eq_true rfl⟩) hw hA (fun v_22  H locs hp_v_22 hw => ?_)
      obtain ⟨hfn, hp_v_22⟩ := hp_v_22
      have q_v_22 : (f_X10_spelt__37 (110 : Int32) (111 : Int32) (116 : Int32) (104 : Int32) (105 : Int32) (110 : Int32) (103 : Int32)) = v_22 := hfn.1
      have r_v_22 : RJ v_22 5649913681 5649913681 := hp_v_22
      simp only [f_X10_wordOf__7, ↓reduceIte, eq_false cl_1, eq_false n_1_0, eq_false n_1_1, eq_false n_1_2, eq_false n_1_3, eq_false n_1_4, eq_false n_1_5, eq_false n_1_6, eq_false n_1_7, eq_false n_1_8, eq_false n_1_9, eq_false n_1_10, eq_false n_1_11, eq_false n_1_12, eq_false n_1_13, eq_false n_1_14, eq_false n_1_15, eq_false n_1_16, eq_false n_1_17, eq_false n_1_18, eq_false n_1_19, eq_true h_1, q_v_22] at hE
      subst hQ
      exact W.lret (v := v_22) hx hb hr (fun t ht hW => ⟨⟨v_22, (), rfl, ⟨⟨(by rw [hR, ← hE]), trivial⟩, r_v_22.to (by decide)⟩, by rw [ht]; exact hw.2.1, va_K.moved hW.alike hK, hw.2.2.1⟩, hw.2.2.2.1.F ht⟩) hw.2.2.2.1.2.2 dX10_wordOf_454
    · refine lv_tableIn (tgt := 455) (off := 454) hx hb dX10_wordOf_1 (by omega) (by omega) (by rw [h_1]; rfl) (by decide) ?_
      have r_p0 : RI p0 21 21 := ⟨by omega, by omega⟩
      have n_1_0 : ¬ (p0.toInt = 0) := by omega
      have n_1_1 : ¬ (p0.toInt = 1) := by omega
      have n_1_2 : ¬ (p0.toInt = 2) := by omega
      have n_1_3 : ¬ (p0.toInt = 3) := by omega
      have n_1_4 : ¬ (p0.toInt = 4) := by omega
      have n_1_5 : ¬ (p0.toInt = 5) := by omega
      have n_1_6 : ¬ (p0.toInt = 6) := by omega
      have n_1_7 : ¬ (p0.toInt = 7) := by omega
      have n_1_8 : ¬ (p0.toInt = 8) := by omega
      have n_1_9 : ¬ (p0.toInt = 9) := by omega
      have n_1_10 : ¬ (p0.toInt = 10) := by omega
      have n_1_11 : ¬ (p0.toInt = 11) := by omega
      have n_1_12 : ¬ (p0.toInt = 12) := by omega
      have n_1_13 : ¬ (p0.toInt = 13) := by omega
      have n_1_14 : ¬ (p0.toInt = 14) := by omega
      have n_1_15 : ¬ (p0.toInt = 15) := by omega
      have n_1_16 : ¬ (p0.toInt = 16) := by omega
      have n_1_17 : ¬ (p0.toInt = 17) := by omega
      have n_1_18 : ¬ (p0.toInt = 18) := by omega
      have n_1_19 : ¬ (p0.toInt = 19) := by omega
      have n_1_20 : ¬ (p0.toInt = 20) := by omega
      refine lv_bipush (v := 119) hx hb dX10_wordOf_455 (by decide) ?_
      refine lv_bipush (v := 97) hx hb dX10_wordOf_457 (by decide) ?_
      refine lv_bipush (v := 116) hx hb dX10_wordOf_459 (by decide) ?_
      refine lv_bipush (v := 99) hx hb dX10_wordOf_461 (by decide) ?_
      refine lv_bipush (v := 104) hx hb dX10_wordOf_463 (by decide) ?_
      refine lv_bipush (v := 101) hx hb dX10_wordOf_465 (by decide) ?_
      refine lv_bipush (v := 100) hx hb dX10_wordOf_467 (by decide) ?_
      refine tk_lr (va_runS (As := [.int 119, .int 97, .int 116, .int 99, .int 104, .int 101, .int 100]) (rest := []) ⟨hx, hb, hml, hown, hts⟩ (c_X10_spelt__52 l D cy z s.heap.size Ps w0 hw.1 119 97 116 99 104 101 100 rl_119 rl_97 rl_116 rl_99 rl_104 rl_101 rl_100) (va_cwS 7 hts (gS tw_1325 tw_1326 tw_15 tw_1327) rfl rfl rfl (by decide +kernel) ⟨Nat.le_of_ble_eq_true rfl, Nat.le_of_ble_eq_true rfl⟩) (tg_preS hw hK hSD hA) rfl rfl hl.1 rfl (lv_room (Nat.le_of_ble_eq_true rfl)) dX10_wordOf_469 ⟨Nat.le_of_ble_eq_true rfl, Nat.le_of_ble_eq_true rfl⟩) hw hA (fun v_23  H locs hp_v_23 hw => ?_)
      obtain ⟨hfn, hp_v_23⟩ := hp_v_23
      have q_v_23 : (f_X10_spelt__37 (119 : Int32) (97 : Int32) (116 : Int32) (99 : Int32) (104 : Int32) (101 : Int32) (100 : Int32)) = v_23 := hfn.1
      have r_v_23 : RJ v_23 8935713994 8935713994 := hp_v_23
      simp only [f_X10_wordOf__7, ↓reduceIte, eq_false cl_1, eq_false n_1_0, eq_false n_1_1, eq_false n_1_2, eq_false n_1_3, eq_false n_1_4, eq_false n_1_5, eq_false n_1_6, eq_false n_1_7, eq_false n_1_8, eq_false n_1_9, eq_false n_1_10, eq_false n_1_11, eq_false n_1_12, eq_false n_1_13, eq_false n_1_14, eq_false n_1_15, eq_false n_1_16, eq_false n_1_17, eq_false n_1_18, eq_false n_1_19, eq_false n_1_20, eq_true h_1, q_v_23] at hE
      subst hQ
      exact W.lret (v := v_23) hx hb hr (fun t ht hW => ⟨⟨v_23, (), rfl, ⟨⟨(by rw [hR, ← hE]), trivial⟩, r_v_23.to (by decide)⟩, by rw [ht]; exact hw.2.1, va_K.moved hW.alike hK, hw.2.2.1⟩, hw.2.2.2.1.F ht⟩) hw.2.2.2.1.2.2 dX10_wordOf_472
    · refine lv_tableIn (tgt := 473) (off := 472) hx hb dX10_wordOf_1 (by omega) (by omega) (by rw [h_1]; rfl) (by decide) ?_
      have r_p0 : RI p0 22 22 := ⟨by omega, by omega⟩
      have n_1_0 : ¬ (p0.toInt = 0) := by omega
      have n_1_1 : ¬ (p0.toInt = 1) := by omega
      have n_1_2 : ¬ (p0.toInt = 2) := by omega
      have n_1_3 : ¬ (p0.toInt = 3) := by omega
      have n_1_4 : ¬ (p0.toInt = 4) := by omega
      have n_1_5 : ¬ (p0.toInt = 5) := by omega
      have n_1_6 : ¬ (p0.toInt = 6) := by omega
      have n_1_7 : ¬ (p0.toInt = 7) := by omega
      have n_1_8 : ¬ (p0.toInt = 8) := by omega
      have n_1_9 : ¬ (p0.toInt = 9) := by omega
      have n_1_10 : ¬ (p0.toInt = 10) := by omega
      have n_1_11 : ¬ (p0.toInt = 11) := by omega
      have n_1_12 : ¬ (p0.toInt = 12) := by omega
      have n_1_13 : ¬ (p0.toInt = 13) := by omega
      have n_1_14 : ¬ (p0.toInt = 14) := by omega
      have n_1_15 : ¬ (p0.toInt = 15) := by omega
      have n_1_16 : ¬ (p0.toInt = 16) := by omega
      have n_1_17 : ¬ (p0.toInt = 17) := by omega
      have n_1_18 : ¬ (p0.toInt = 18) := by omega
      have n_1_19 : ¬ (p0.toInt = 19) := by omega
      have n_1_20 : ¬ (p0.toInt = 20) := by omega
      have n_1_21 : ¬ (p0.toInt = 21) := by omega
      refine lv_bipush (v := 105) hx hb dX10_wordOf_473 (by decide) ?_
      refine lv_bipush (v := 115) hx hb dX10_wordOf_475 (by decide) ?_
      refine lv_iconst (v := 0) hx hb dX10_wordOf_477 (by decide) ?_
      refine lv_iconst (v := 0) hx hb dX10_wordOf_478 (by decide) ?_
      refine lv_iconst (v := 0) hx hb dX10_wordOf_479 (by decide) ?_
      refine lv_iconst (v := 0) hx hb dX10_wordOf_480 (by decide) ?_
      refine lv_iconst (v := 0) hx hb dX10_wordOf_481 (by decide) ?_
      refine tk_lr (va_runS (As := [.int 105, .int 115, .int 0, .int 0, .int 0, .int 0, .int 0]) (rest := []) ⟨hx, hb, hml, hown, hts⟩ (c_X10_spelt__53 l D cy z s.heap.size Ps w0 hw.1 105 115 0 0 0 0 0 rl_105 rl_115 rl_0 rl_0 rl_0 rl_0 rl_0) (va_cwS 7 hts (gS tw_1325 tw_1326 tw_15 tw_1327) rfl rfl rfl (by decide +kernel) ⟨Nat.le_of_ble_eq_true rfl, Nat.le_of_ble_eq_true rfl⟩) (tg_preS hw hK hSD hA) rfl rfl hl.1 rfl (lv_room (Nat.le_of_ble_eq_true rfl)) dX10_wordOf_482 ⟨Nat.le_of_ble_eq_true rfl, Nat.le_of_ble_eq_true rfl⟩) hw hA (fun v_24  H locs hp_v_24 hw => ?_)
      obtain ⟨hfn, hp_v_24⟩ := hp_v_24
      have q_v_24 : (f_X10_spelt__47 (105 : Int32) (115 : Int32) (0 : Int32) (0 : Int32) (0 : Int32) (0 : Int32) (0 : Int32)) = v_24 := hfn.1
      have r_v_24 : RJ v_24 262 262 := hp_v_24
      simp only [f_X10_wordOf__7, ↓reduceIte, eq_false cl_1, eq_false n_1_0, eq_false n_1_1, eq_false n_1_2, eq_false n_1_3, eq_false n_1_4, eq_false n_1_5, eq_false n_1_6, eq_false n_1_7, eq_false n_1_8, eq_false n_1_9, eq_false n_1_10, eq_false n_1_11, eq_false n_1_12, eq_false n_1_13, eq_false n_1_14, eq_false n_1_15, eq_false n_1_16, eq_false n_1_17, eq_false n_1_18, eq_false n_1_19, eq_false n_1_20, eq_false n_1_21, eq_true h_1, q_v_24] at hE
      subst hQ
      exact W.lret (v := v_24) hx hb hr (fun t ht hW => ⟨⟨v_24, (), rfl, ⟨⟨(by rw [hR, ← hE]), trivial⟩, r_v_24.to (by decide)⟩, by rw [ht]; exact hw.2.1, va_K.moved hW.alike hK, hw.2.2.1⟩, hw.2.2.2.1.F ht⟩) hw.2.2.2.1.2.2 dX10_wordOf_485
    · refine lv_tableIn (tgt := 486) (off := 485) hx hb dX10_wordOf_1 (by omega) (by omega) (by rw [h_1]; rfl) (by decide) ?_
      have r_p0 : RI p0 23 23 := ⟨by omega, by omega⟩
      have n_1_0 : ¬ (p0.toInt = 0) := by omega
      have n_1_1 : ¬ (p0.toInt = 1) := by omega
      have n_1_2 : ¬ (p0.toInt = 2) := by omega
      have n_1_3 : ¬ (p0.toInt = 3) := by omega
      have n_1_4 : ¬ (p0.toInt = 4) := by omega
      have n_1_5 : ¬ (p0.toInt = 5) := by omega
      have n_1_6 : ¬ (p0.toInt = 6) := by omega
      have n_1_7 : ¬ (p0.toInt = 7) := by omega
      have n_1_8 : ¬ (p0.toInt = 8) := by omega
      have n_1_9 : ¬ (p0.toInt = 9) := by omega
      have n_1_10 : ¬ (p0.toInt = 10) := by omega
      have n_1_11 : ¬ (p0.toInt = 11) := by omega
      have n_1_12 : ¬ (p0.toInt = 12) := by omega
      have n_1_13 : ¬ (p0.toInt = 13) := by omega
      have n_1_14 : ¬ (p0.toInt = 14) := by omega
      have n_1_15 : ¬ (p0.toInt = 15) := by omega
      have n_1_16 : ¬ (p0.toInt = 16) := by omega
      have n_1_17 : ¬ (p0.toInt = 17) := by omega
      have n_1_18 : ¬ (p0.toInt = 18) := by omega
      have n_1_19 : ¬ (p0.toInt = 19) := by omega
      have n_1_20 : ¬ (p0.toInt = 20) := by omega
      have n_1_21 : ¬ (p0.toInt = 21) := by omega
      have n_1_22 : ¬ (p0.toInt = 22) := by omega
      refine lv_bipush (v := 105) hx hb dX10_wordOf_486 (by decide) ?_
      refine lv_bipush (v := 110) hx hb dX10_wordOf_488 (by decide) ?_
      refine lv_iconst (v := 0) hx hb dX10_wordOf_490 (by decide) ?_
      refine lv_iconst (v := 0) hx hb dX10_wordOf_491 (by decide) ?_
      refine lv_iconst (v := 0) hx hb dX10_wordOf_492 (by decide) ?_
      refine lv_iconst (v := 0) hx hb dX10_wordOf_493 (by decide) ?_
      refine lv_iconst (v := 0) hx hb dX10_wordOf_494 (by decide) ?_
      refine tk_lr (va_runS (As := [.int 105, .int 110, .int 0, .int 0, .int 0, .int 0, .int 0]) (rest := []) ⟨hx, hb, hml, hown, hts⟩ (c_X10_spelt__54 l D cy z s.heap.size Ps w0 hw.1 105 110 0 0 0 0 0 rl_105 rl_110 rl_0 rl_0 rl_0 rl_0 rl_0) (va_cwS 7 hts (gS tw_1325 tw_1326 tw_15 tw_1327) rfl rfl rfl (by decide +kernel) ⟨Nat.le_of_ble_eq_true rfl, Nat.le_of_ble_eq_true rfl⟩) (tg_preS hw hK hSD hA) rfl rfl hl.1 rfl (lv_room (Nat.le_of_ble_eq_true rfl)) dX10_wordOf_495 ⟨Nat.le_of_ble_eq_true rfl, Nat.le_of_ble_eq_true rfl⟩) hw hA (fun v_25  H locs hp_v_25 hw => ?_)
      obtain ⟨hfn, hp_v_25⟩ := hp_v_25
      have q_v_25 : (f_X10_spelt__47 (105 : Int32) (110 : Int32) (0 : Int32) (0 : Int32) (0 : Int32) (0 : Int32) (0 : Int32)) = v_25 := hfn.1
      have r_v_25 : RJ v_25 257 257 := hp_v_25
      simp only [f_X10_wordOf__7, ↓reduceIte, eq_false cl_1, eq_false n_1_0, eq_false n_1_1, eq_false n_1_2, eq_false n_1_3, eq_false n_1_4, eq_false n_1_5, eq_false n_1_6, eq_false n_1_7, eq_false n_1_8, eq_false n_1_9, eq_false n_1_10, eq_false n_1_11, eq_false n_1_12, eq_false n_1_13, eq_false n_1_14, eq_false n_1_15, eq_false n_1_16, eq_false n_1_17, eq_false n_1_18, eq_false n_1_19, eq_false n_1_20, eq_false n_1_21, eq_false n_1_22, eq_true h_1, q_v_25] at hE
      subst hQ
      exact W.lret (v := v_25) hx hb hr (fun t ht hW => ⟨⟨v_25, (), rfl, ⟨⟨(by rw [hR, ← hE]), trivial⟩, r_v_25.to (by decide)⟩, by rw [ht]; exact hw.2.1, va_K.moved hW.alike hK, hw.2.2.1⟩, hw.2.2.2.1.F ht⟩) hw.2.2.2.1.2.2 dX10_wordOf_498
    · refine lv_tableIn (tgt := 499) (off := 498) hx hb dX10_wordOf_1 (by omega) (by omega) (by rw [h_1]; rfl) (by decide) ?_
      have r_p0 : RI p0 24 24 := ⟨by omega, by omega⟩
      have n_1_0 : ¬ (p0.toInt = 0) := by omega
      have n_1_1 : ¬ (p0.toInt = 1) := by omega
      have n_1_2 : ¬ (p0.toInt = 2) := by omega
      have n_1_3 : ¬ (p0.toInt = 3) := by omega
      have n_1_4 : ¬ (p0.toInt = 4) := by omega
      have n_1_5 : ¬ (p0.toInt = 5) := by omega
      have n_1_6 : ¬ (p0.toInt = 6) := by omega
      have n_1_7 : ¬ (p0.toInt = 7) := by omega
      have n_1_8 : ¬ (p0.toInt = 8) := by omega
      have n_1_9 : ¬ (p0.toInt = 9) := by omega
      have n_1_10 : ¬ (p0.toInt = 10) := by omega
      have n_1_11 : ¬ (p0.toInt = 11) := by omega
      have n_1_12 : ¬ (p0.toInt = 12) := by omega
      have n_1_13 : ¬ (p0.toInt = 13) := by omega
      have n_1_14 : ¬ (p0.toInt = 14) := by omega
      have n_1_15 : ¬ (p0.toInt = 15) := by omega
      have n_1_16 : ¬ (p0.toInt = 16) := by omega
      have n_1_17 : ¬ (p0.toInt = 17) := by omega
      have n_1_18 : ¬ (p0.toInt = 18) := by omega
      have n_1_19 : ¬ (p0.toInt = 19) := by omega
      have n_1_20 : ¬ (p0.toInt = 20) := by omega
      have n_1_21 : ¬ (p0.toInt = 21) := by omega
      have n_1_22 : ¬ (p0.toInt = 22) := by omega
      have n_1_23 : ¬ (p0.toInt = 23) := by omega
      refine lv_bipush (v := 115) hx hb dX10_wordOf_499 (by decide) ?_
      refine lv_bipush (v := 105) hx hb dX10_wordOf_501 (by decide) ?_
      refine lv_bipush (v := 122) hx hb dX10_wordOf_503 (by decide) ?_
      refine lv_bipush (v := 101) hx hb dX10_wordOf_505 (by decide) ?_
      refine lv_iconst (v := 0) hx hb dX10_wordOf_507 (by decide) ?_
      refine lv_iconst (v := 0) hx hb dX10_wordOf_508 (by decide) ?_
      refine lv_iconst (v := 0) hx hb dX10_wordOf_509 (by decide) ?_
      refine tk_lr (va_runS (As := [.int 115, .int 105, .int 122, .int 101, .int 0, .int 0, .int 0]) (rest := []) ⟨hx, hb, hml, hown, hts⟩ (c_X10_spelt__55 l D cy z s.heap.size Ps w0 hw.1 115 105 122 101 0 0 0 rl_115 rl_105 rl_122 rl_101 rl_0 rl_0 rl_0) (va_cwS 7 hts (gS tw_1325 tw_1326 tw_15 tw_1327) rfl rfl rfl (by decide +kernel) ⟨Nat.le_of_ble_eq_true rfl, Nat.le_of_ble_eq_true rfl⟩) (tg_preS hw hK hSD hA) rfl rfl hl.1 rfl (lv_room (Nat.le_of_ble_eq_true rfl)) dX10_wordOf_510 ⟨Nat.le_of_ble_eq_true rfl, Nat.le_of_ble_eq_true rfl⟩) hw hA (fun v_26  H locs hp_v_26 hw => ?_)
      obtain ⟨hfn, hp_v_26⟩ := hp_v_26
      have q_v_26 : (f_X10_spelt__31 (115 : Int32) (105 : Int32) (122 : Int32) (101 : Int32) (0 : Int32) (0 : Int32) (0 : Int32)) = v_26 := hfn.1
      have r_v_26 : RJ v_26 381245 381245 := hp_v_26
      simp only [f_X10_wordOf__7, ↓reduceIte, eq_false cl_1, eq_false n_1_0, eq_false n_1_1, eq_false n_1_2, eq_false n_1_3, eq_false n_1_4, eq_false n_1_5, eq_false n_1_6, eq_false n_1_7, eq_false n_1_8, eq_false n_1_9, eq_false n_1_10, eq_false n_1_11, eq_false n_1_12, eq_false n_1_13, eq_false n_1_14, eq_false n_1_15, eq_false n_1_16, eq_false n_1_17, eq_false n_1_18, eq_false n_1_19, eq_false n_1_20, eq_false n_1_21, eq_false n_1_22, eq_false n_1_23, eq_true h_1, q_v_26] at hE
      subst hQ
      exact W.lret (v := v_26) hx hb hr (fun t ht hW => ⟨⟨v_26, (), rfl, ⟨⟨(by rw [hR, ← hE]), trivial⟩, r_v_26.to (by decide)⟩, by rw [ht]; exact hw.2.1, va_K.moved hW.alike hK, hw.2.2.1⟩, hw.2.2.2.1.F ht⟩) hw.2.2.2.1.2.2 dX10_wordOf_513
    · refine lv_tableIn (tgt := 514) (off := 513) hx hb dX10_wordOf_1 (by omega) (by omega) (by rw [h_1]; rfl) (by decide) ?_
      have r_p0 : RI p0 25 25 := ⟨by omega, by omega⟩
      have n_1_0 : ¬ (p0.toInt = 0) := by omega
      have n_1_1 : ¬ (p0.toInt = 1) := by omega
      have n_1_2 : ¬ (p0.toInt = 2) := by omega
      have n_1_3 : ¬ (p0.toInt = 3) := by omega
      have n_1_4 : ¬ (p0.toInt = 4) := by omega
      have n_1_5 : ¬ (p0.toInt = 5) := by omega
      have n_1_6 : ¬ (p0.toInt = 6) := by omega
      have n_1_7 : ¬ (p0.toInt = 7) := by omega
      have n_1_8 : ¬ (p0.toInt = 8) := by omega
      have n_1_9 : ¬ (p0.toInt = 9) := by omega
      have n_1_10 : ¬ (p0.toInt = 10) := by omega
      have n_1_11 : ¬ (p0.toInt = 11) := by omega
      have n_1_12 : ¬ (p0.toInt = 12) := by omega
      have n_1_13 : ¬ (p0.toInt = 13) := by omega
      have n_1_14 : ¬ (p0.toInt = 14) := by omega
      have n_1_15 : ¬ (p0.toInt = 15) := by omega
      have n_1_16 : ¬ (p0.toInt = 16) := by omega
      have n_1_17 : ¬ (p0.toInt = 17) := by omega
      have n_1_18 : ¬ (p0.toInt = 18) := by omega
      have n_1_19 : ¬ (p0.toInt = 19) := by omega
      have n_1_20 : ¬ (p0.toInt = 20) := by omega
      have n_1_21 : ¬ (p0.toInt = 21) := by omega
      have n_1_22 : ¬ (p0.toInt = 22) := by omega
      have n_1_23 : ¬ (p0.toInt = 23) := by omega
      have n_1_24 : ¬ (p0.toInt = 24) := by omega
      refine lv_bipush (v := 98) hx hb dX10_wordOf_514 (by decide) ?_
      refine lv_bipush (v := 117) hx hb dX10_wordOf_516 (by decide) ?_
      refine lv_bipush (v := 108) hx hb dX10_wordOf_518 (by decide) ?_
      refine lv_bipush (v := 103) hx hb dX10_wordOf_520 (by decide) ?_
      refine lv_bipush (v := 101) hx hb dX10_wordOf_522 (by decide) ?_
      refine lv_iconst (v := 0) hx hb dX10_wordOf_524 (by decide) ?_
      refine lv_iconst (v := 0) hx hb dX10_wordOf_525 (by decide) ?_
      refine tk_lr (va_runS (As := [.int 98, .int 117, .int 108, .int 103, .int 101, .int 0, .int 0]) (rest := []) ⟨hx, hb, hml, hown, hts⟩ (c_X10_spelt__56 l D cy z s.heap.size Ps w0 hw.1 98 117 108 103 101 0 0 rl_98 rl_117 rl_108 rl_103 rl_101 rl_0 rl_0) (va_cwS 7 hts (gS tw_1325 tw_1326 tw_15 tw_1327) rfl rfl rfl (by decide +kernel) ⟨Nat.le_of_ble_eq_true rfl, Nat.le_of_ble_eq_true rfl⟩) (tg_preS hw hK hSD hA) rfl rfl hl.1 rfl (lv_room (Nat.le_of_ble_eq_true rfl)) dX10_wordOf_526 ⟨Nat.le_of_ble_eq_true rfl, Nat.le_of_ble_eq_true rfl⟩) hw hA (fun v_27  H locs hp_v_27 hw => ?_)
      obtain ⟨hfn, hp_v_27⟩ := hp_v_27
      have q_v_27 : (f_X10_spelt__39 (98 : Int32) (117 : Int32) (108 : Int32) (103 : Int32) (101 : Int32) (0 : Int32) (0 : Int32)) = v_27 := hfn.1
      have r_v_27 : RJ v_27 1485167 1485167 := hp_v_27
      simp only [f_X10_wordOf__7, ↓reduceIte, eq_false cl_1, eq_false n_1_0, eq_false n_1_1, eq_false n_1_2, eq_false n_1_3, eq_false n_1_4, eq_false n_1_5, eq_false n_1_6, eq_false n_1_7, eq_false n_1_8, eq_false n_1_9, eq_false n_1_10, eq_false n_1_11, eq_false n_1_12, eq_false n_1_13, eq_false n_1_14, eq_false n_1_15, eq_false n_1_16, eq_false n_1_17, eq_false n_1_18, eq_false n_1_19, eq_false n_1_20, eq_false n_1_21, eq_false n_1_22, eq_false n_1_23, eq_false n_1_24, eq_true h_1, q_v_27] at hE
      subst hQ
      exact W.lret (v := v_27) hx hb hr (fun t ht hW => ⟨⟨v_27, (), rfl, ⟨⟨(by rw [hR, ← hE]), trivial⟩, r_v_27.to (by decide)⟩, by rw [ht]; exact hw.2.1, va_K.moved hW.alike hK, hw.2.2.1⟩, hw.2.2.2.1.F ht⟩) hw.2.2.2.1.2.2 dX10_wordOf_529
    · refine lv_tableIn (tgt := 530) (off := 529) hx hb dX10_wordOf_1 (by omega) (by omega) (by rw [h_1]; rfl) (by decide) ?_
      have r_p0 : RI p0 26 26 := ⟨by omega, by omega⟩
      have n_1_0 : ¬ (p0.toInt = 0) := by omega
      have n_1_1 : ¬ (p0.toInt = 1) := by omega
      have n_1_2 : ¬ (p0.toInt = 2) := by omega
      have n_1_3 : ¬ (p0.toInt = 3) := by omega
      have n_1_4 : ¬ (p0.toInt = 4) := by omega
      have n_1_5 : ¬ (p0.toInt = 5) := by omega
      have n_1_6 : ¬ (p0.toInt = 6) := by omega
      have n_1_7 : ¬ (p0.toInt = 7) := by omega
      have n_1_8 : ¬ (p0.toInt = 8) := by omega
      have n_1_9 : ¬ (p0.toInt = 9) := by omega
      have n_1_10 : ¬ (p0.toInt = 10) := by omega
      have n_1_11 : ¬ (p0.toInt = 11) := by omega
      have n_1_12 : ¬ (p0.toInt = 12) := by omega
      have n_1_13 : ¬ (p0.toInt = 13) := by omega
      have n_1_14 : ¬ (p0.toInt = 14) := by omega
      have n_1_15 : ¬ (p0.toInt = 15) := by omega
      have n_1_16 : ¬ (p0.toInt = 16) := by omega
      have n_1_17 : ¬ (p0.toInt = 17) := by omega
      have n_1_18 : ¬ (p0.toInt = 18) := by omega
      have n_1_19 : ¬ (p0.toInt = 19) := by omega
      have n_1_20 : ¬ (p0.toInt = 20) := by omega
      have n_1_21 : ¬ (p0.toInt = 21) := by omega
      have n_1_22 : ¬ (p0.toInt = 22) := by omega
      have n_1_23 : ¬ (p0.toInt = 23) := by omega
      have n_1_24 : ¬ (p0.toInt = 24) := by omega
      have n_1_25 : ¬ (p0.toInt = 25) := by omega
      refine lv_bipush (v := 116) hx hb dX10_wordOf_530 (by decide) ?_
      refine lv_bipush (v := 117) hx hb dX10_wordOf_532 (by decide) ?_
      refine lv_bipush (v := 114) hx hb dX10_wordOf_534 (by decide) ?_
      refine lv_bipush (v := 110) hx hb dX10_wordOf_536 (by decide) ?_
      refine lv_bipush (v := 101) hx hb dX10_wordOf_538 (by decide) ?_
      refine lv_bipush (v := 100) hx hb dX10_wordOf_540 (by decide) ?_
      refine lv_iconst (v := 0) hx hb dX10_wordOf_542 (by decide) ?_
      refine tk_lr (va_runS (As := [.int 116, .int 117, .int 114, .int 110, .int 101, .int 100, .int 0]) (rest := []) ⟨hx, hb, hml, hown, hts⟩ (c_X10_spelt__57 l D cy z s.heap.size Ps w0 hw.1 116 117 114 110 101 100 0 rl_116 rl_117 rl_114 rl_110 rl_101 rl_100 rl_0) (va_cwS 7 hts (gS tw_1325 tw_1326 tw_15 tw_1327) rfl rfl rfl (by decide +kernel) ⟨Nat.le_of_ble_eq_true rfl, Nat.le_of_ble_eq_true rfl⟩) (tg_preS hw hK hSD hA) rfl rfl hl.1 rfl (lv_room (Nat.le_of_ble_eq_true rfl)) dX10_wordOf_543 ⟨Nat.le_of_ble_eq_true rfl, Nat.le_of_ble_eq_true rfl⟩) hw hA (fun v_28  H locs hp_v_28 hw => ?_)
      obtain ⟨hfn, hp_v_28⟩ := hp_v_28
      have q_v_28 : (f_X10_spelt__30 (116 : Int32) (117 : Int32) (114 : Int32) (110 : Int32) (101 : Int32) (100 : Int32) (0 : Int32)) = v_28 := hfn.1
      have r_v_28 : RJ v_28 298503040 298503040 := hp_v_28
      simp only [f_X10_wordOf__7, ↓reduceIte, eq_false cl_1, eq_false n_1_0, eq_false n_1_1, eq_false n_1_2, eq_false n_1_3, eq_false n_1_4, eq_false n_1_5, eq_false n_1_6, eq_false n_1_7, eq_false n_1_8, eq_false n_1_9, eq_false n_1_10, eq_false n_1_11, eq_false n_1_12, eq_false n_1_13, eq_false n_1_14, eq_false n_1_15, eq_false n_1_16, eq_false n_1_17, eq_false n_1_18, eq_false n_1_19, eq_false n_1_20, eq_false n_1_21, eq_false n_1_22, eq_false n_1_23, eq_false n_1_24, eq_false n_1_25, q_v_28] at hE
      subst hQ
      exact W.lret (v := v_28) hx hb hr (fun t ht hW => ⟨⟨v_28, (), rfl, ⟨⟨(by rw [hR, ← hE]), trivial⟩, r_v_28.to (by decide)⟩, by rw [ht]; exact hw.2.1, va_K.moved hW.alike hK, hw.2.2.1⟩, hw.2.2.2.1.F ht⟩) hw.2.2.2.1.2.2 dX10_wordOf_546
abbrev wr_X10_isWord__4 : List (Nat × Nat) := []
abbrev wa_X10_isWord__4 : List Nat := []
set_option maxHeartbeats 4000000 in
set_option maxRecDepth 100000 in
theorem c_X10_isWord__4 (l : Launch) (D : va_G) (cy : Nat → ClassId) (z : Nat → Nat) (sz : Nat) (Ps : PSI) (w0 : va_W) (hT : HT cy GG Ps w0) (p0 : Nat) (p1 : Int32) (s0 : OS) (h_p0 : (p0, 55) ∈ Ps) (r_p1 : RI p1 (-2147483648) 2147483647) (o_p0 : OV vw_MODEL Ps w0 p0 s0) : Met l yX10_isWord (Cond.code yX10_isWord cX10_isWord 2 (some .boolean) :: gT) ({ frames := 3, cells := 0, slots := 0, locals := 600 } : Room) (va_Pc [.ref p0, .int p1] (PRE D cy z w0 sz)) (va_Qi (fun (r : Int32) (u : Unit) => ((f_X10_isWord__4 p1 s0) = r ∧ True) ∧ (RI r 0 1 ∧ (r = 0 → True) ∧ (¬ r = 0 → True))) (BB D cy (va_A w0 sz) (fun (u : Unit) => w0)) (va_A w0 sz)) 0 0 (va_A w0 sz) := by
  refine Met.ofW (cc := cX10_isWord) (maxL := 2) (ret := (some .boolean)) (by decide) rfl ?_
  intro p e s m args below meth c s₁ B hml hv
  obtain ⟨rfl, hsz, hP, hK, hD0, hSD⟩ := hv
  have hx := B.exec
  have hb := B.bytes
  have hr := B.returns
  have hlocks := B.notSynchronized
  have hts : ∀ w ∈ gT, w.before _ s = true := fun w h => atoms_spec (ws := Cond.code yX10_isWord cX10_isWord 2 (some .boolean) :: gT) B.pre w (List.mem_cons_of_mem _ h)
  have hown : s.vm.findClass RX10 = some m.cls := findClass_of_methodNamed B.named
  subst hsz
  have hD := hD0.self (sz := s.heap.size)
  generalize hAe : va_A w0 s.heap.size = A at hD hSD ⊢
  have hA : ∀ q : Nat, s.heap.size ≤ q → A q := fun q h => by rw [← hAe]; exact Or.inr h
  have hl := lv_entry ([.ref p0, .int p1]) (n := 2) (Nat.le_of_ble_eq_true rfl)
  rw [lg_entry_eq]
  generalize (lg_sl ([.ref p0, .int p1]) ++ List.replicate (2 - (lg_sl ([.ref p0, .int p1])).length) Slot.unset).toArray = ls at hl ⊢
  have hl : lv_has ls 2 [(0, .ref p0), (1, .int p1)] := hl
  refine nameQ (fun Q hQ => ?_)
  have hw : WD D cy GG A s wr_X10_isWord__4 wa_X10_isWord__4 Ps w0 Ps w0 s.heap [] := ⟨hT, hP, hD, va_S.rf, FR.rf, hT.1, [], (List.append_nil _).symm⟩
  obtain ⟨R9, hR⟩ : ∃ q9 : Int32, f_X10_isWord__4 p1 s0 = q9 := ⟨_, rfl⟩
  have hE := hR
  refine lv_aload_n hx hb dX10_isWord_0 rfl (lv_at hl 0 rfl) ?_
  refine tg_get (ci := 10) (ts := ty_MODEL) (C := RX10) (T := TX10) (N := 49) hx hb hts inX10 hown hK hw h_p0 rfl rfl 7 (by decide) (hts _ tw_1144) (fun _ h9 => h9) (ft := vI (-2147483648) 2147483647) rfl dX10_isWord_1 (fun u_1 hv_u_1 m_u_1 => ?_)
  obtain ⟨vu_1, rfl, r_vu_1⟩ := hv_u_1
  have q_vu_1 : s0.1 7 = vu_1 := OV.eqI (V := vw_MODEL) hw.2.2.1 o_p0 m_u_1 (by decide)
  refine lv_iconst (v := 2) hx hb dX10_isWord_4 (by decide) ?_
  refine lv_icmp_ne (tgt := 24) hx hb dX10_isWord_5 (by decide) (fun c_5 => ?_) (fun c_5 => ?_)
  · refine lv_iconst (v := 0) hx hb dX10_isWord_24 (by decide) ?_
    simp only [f_X10_isWord__4, ↓reduceIte, q_vu_1, eq_false c_5] at hE
    subst hQ
    exact W.zret (v := 0) hx hb hr (rfl) (fun t ht hW => ⟨⟨0, (), rfl, ⟨⟨(by rw [hR, ← hE]), trivial⟩, rl_0.to (by decide), (fun h0 => trivial), (fun _ => trivial)⟩, by rw [ht]; exact hw.2.1, va_K.moved hW.alike hK, hw.2.2.1⟩, hw.2.2.2.1.F ht⟩) hw.2.2.2.1.2.2 dX10_isWord_25
  · have r_vu_1 : RI vu_1 2 2 := rc_eq1 r_vu_1 rl_2 (ti_eq c_5) (by decide)
    refine lv_aload_n hx hb dX10_isWord_8 rfl (lv_at hl 0 rfl) ?_
    refine tg_get (ci := 10) (ts := ty_MODEL) (C := RX10) (T := TX10) (N := 49) hx hb hts inX10 hown hK hw h_p0 rfl rfl 12 (by decide) (hts _ tw_1149) (fun _ h9 => h9) (ft := vJ (-9223372036854775808) 9223372036854775807) rfl dX10_isWord_9 (fun u_2 hv_u_2 m_u_2 => ?_)
    obtain ⟨vu_2, rfl, r_vu_2⟩ := hv_u_2
    have q_vu_2 : s0.2.1 12 = vu_2 := OV.eqL (V := vw_MODEL) hw.2.2.1 o_p0 m_u_2 (by decide)
    refine lv_iload_n hx hb dX10_isWord_12 rfl (lv_at hl 1 rfl) ?_
    refine tk_lr (va_runS (As := [.int p1]) (rest := [.long vu_2]) ⟨hx, hb, hml, hown, hts⟩ (c_X10_wordOf__7 l D cy z s.heap.size Ps w0 hw.1 p1 r_p1) (va_cwS 1 hts (gS tw_1322 tw_1323 tw_15 tw_1324) rfl rfl rfl (by decide +kernel) ⟨Nat.le_of_ble_eq_true rfl, Nat.le_of_ble_eq_true rfl⟩) (tg_preS hw hK hSD hA) rfl rfl hl.1 rfl (lv_room (Nat.le_of_ble_eq_true rfl)) dX10_isWord_13 ⟨Nat.le_of_ble_eq_true rfl, Nat.le_of_ble_eq_true rfl⟩) hw hA (fun v_3  H locs hp_v_3 hw => ?_)
    obtain ⟨hfn, hp_v_3⟩ := hp_v_3
    have q_v_3 : (f_X10_wordOf__7 p1) = v_3 := hfn.1
    have r_v_3 : RJ v_3 257 8935713994 := hp_v_3
    refine W.lcmp hx hb dX10_isWord_16 (lv_topi (fun v_4 e_v_4 => ?_))
    have r_v_4 := ri_any v_4
    have q_v_4 : lg_cmp vu_2 v_3 = v_4 := e_v_4.symm
    refine lv_if_ne (tgt := 24) hx hb dX10_isWord_17 (by decide) (fun c_17 => ?_) (fun c_17 => ?_)
    · refine lv_iconst (v := 0) hx hb dX10_isWord_24 (by decide) ?_
      simp only [f_X10_isWord__4, ↓reduceIte, q_vu_1, eq_true c_5, q_vu_2, q_v_3, q_v_4, eq_false c_17] at hE
      subst hQ
      exact W.zret (v := 0) hx hb hr (rfl) (fun t ht hW => ⟨⟨0, (), rfl, ⟨⟨(by rw [hR, ← hE]), trivial⟩, rl_0.to (by decide), (fun h0 => trivial), (fun _ => trivial)⟩, by rw [ht]; exact hw.2.1, va_K.moved hW.alike hK, hw.2.2.1⟩, hw.2.2.2.1.F ht⟩) hw.2.2.2.1.2.2 dX10_isWord_25
    · have r_v_4 : RI v_4 0 0 := rc_eq1 r_v_4 rl_0 (ti_eq c_17) (by decide)
      refine lv_iconst (v := 1) hx hb dX10_isWord_20 (by decide) ?_
      refine lv_goto (tgt := 25) hx hb dX10_isWord_21 (by decide) ?_
      simp only [f_X10_isWord__4, ↓reduceIte, q_vu_1, eq_true c_5, q_vu_2, q_v_3, q_v_4, eq_true c_17] at hE
      subst hQ
      exact W.zret (v := 1) hx hb hr (rfl) (fun t ht hW => ⟨⟨1, (), rfl, ⟨⟨(by rw [hR, ← hE]), trivial⟩, rl_1.to (by decide), (fun _ => trivial), (fun h0 => trivial)⟩, by rw [ht]; exact hw.2.1, va_K.moved hW.alike hK, hw.2.2.1⟩, hw.2.2.2.1.F ht⟩) hw.2.2.2.1.2.2 dX10_isWord_25
abbrev wr_X10_bad__1 : List (Nat × Nat) := [(10, 10), (10, 11)]
abbrev wa_X10_bad__1 : List Nat := []
set_option maxHeartbeats 4000000 in
set_option maxRecDepth 100000 in
theorem c_X10_bad__1 (l : Launch) (D : va_G) (cy : Nat → ClassId) (z : Nat → Nat) (sz : Nat) (Ps : PSI) (w0 : va_W) (hT : HT cy GG Ps w0) (p0 : Nat) (p1 : Int32) (s0 : OS) (h_p0 : (p0, 55) ∈ Ps) (r_p1 : RI p1 (-2147483648) 2147483647) (o_p0 : OV vw_MODEL Ps w0 p0 s0) : Met l yX10_bad (Cond.code yX10_bad cX10_bad 2 (some .boolean) :: gT) ({ frames := 0, cells := 0, slots := 0, locals := 200 } : Room) (va_Pc [.ref p0, .int p1] (PRE D cy z w0 sz)) (va_Qi (fun (r : Int32) (u : va_W) => ((OV vw_MODEL Ps u p0 ((f_X10_bad__1 p1 s0).1) ∧ (f_X10_bad__1 p1 s0).2 = r ∧ True) ∧ (RI r 0 0 ∧ (r = 0 → True) ∧ (¬ r = 0 → True))) ∧ HT cy GG Ps u ∧ FR wr_X10_bad__1 wa_X10_bad__1 Ps w0 u) (BB D cy (va_A w0 sz) (fun (u : va_W) => u)) (va_A w0 sz)) 0 0 (va_A w0 sz) := by
  refine Met.ofW (cc := cX10_bad) (maxL := 2) (ret := (some .boolean)) (by decide) rfl ?_
  intro p e s m args below meth c s₁ B hml hv
  obtain ⟨rfl, hsz, hP, hK, hD0, hSD⟩ := hv
  have hx := B.exec
  have hb := B.bytes
  have hr := B.returns
  have hlocks := B.notSynchronized
  have hts : ∀ w ∈ gT, w.before _ s = true := fun w h => atoms_spec (ws := Cond.code yX10_bad cX10_bad 2 (some .boolean) :: gT) B.pre w (List.mem_cons_of_mem _ h)
  have hown : s.vm.findClass RX10 = some m.cls := findClass_of_methodNamed B.named
  subst hsz
  have hD := hD0.self (sz := s.heap.size)
  generalize hAe : va_A w0 s.heap.size = A at hD hSD ⊢
  have hA : ∀ q : Nat, s.heap.size ≤ q → A q := fun q h => by rw [← hAe]; exact Or.inr h
  have hl := lv_entry ([.ref p0, .int p1]) (n := 2) (Nat.le_of_ble_eq_true rfl)
  rw [lg_entry_eq]
  generalize (lg_sl ([.ref p0, .int p1]) ++ List.replicate (2 - (lg_sl ([.ref p0, .int p1])).length) Slot.unset).toArray = ls at hl ⊢
  have hl : lv_has ls 2 [(0, .ref p0), (1, .int p1)] := hl
  refine nameQ (fun Q hQ => ?_)
  have hw : WD D cy GG A s wr_X10_bad__1 wa_X10_bad__1 Ps w0 Ps w0 s.heap [] := ⟨hT, hP, hD, va_S.rf, FR.rf, hT.1, [], (List.append_nil _).symm⟩
  obtain ⟨R9, hR⟩ : ∃ q9 : OS × Int32, f_X10_bad__1 p1 s0 = q9 := ⟨_, rfl⟩
  have hE := hR
  have B14 : ∀ (y0 : Int32) (s0 : OS) (ws : va_W) (H : Heap) (locs : List Loc) (ls : Array Slot), RI p1 (-2147483648) 2147483647 → RI y0 (-2147483648) 2147483647 → OV vw_MODEL Ps ws p0 s0 → f_X10_bad__1_14 p1 y0 s0 = R9 → WD D cy GG A s wr_X10_bad__1 wa_X10_bad__1 Ps w0 Ps ws H locs → lv_has ls 2 [(0, .ref p0), (1, .int p1)] → W p l e (headSpec (Cond.code yX10_bad cX10_bad 2 (some .boolean) :: gT) ({ frames := 0, cells := 0, slots := 0, locals := 200 } : Room)).room s m ([.ref p0, .int p1] : List Value).toArray below meth c H locs 0 0 Q (F0 m 14 ls [.int y0, .ref p0]) := by
    intro y0 s0 ws H locs ls r_p1 r_y0 o_p0 hE hw hl
    refine tg_put (ci := 10) (ts := ty_MODEL) (v := .int y0) (ty := .int) (C := RX10) (T := TX10) (N := 49) hx hb hts inX10 tyX10 tyX10_ok nmX10 hown hK hw h_p0 rfl rfl 10 (by decide) (hts _ tw_1147) (fun _ h9 => h9) rfl (by decide +kernel) rfl rfl (ft := vI (-2147483648) 2147483647) rfl ⟨_, rfl, r_y0⟩ (by decide) dX10_bad_14 (fun ws H locs hw n_k_1 hF9 => ?_)
    obtain ⟨sg_2, q_sg_2⟩ : ∃ q9 : OS, sI s0 10 y0 = q9 := ⟨_, rfl⟩
    have o_p0 : OV vw_MODEL Ps ws p0 sg_2 := by rw [← q_sg_2]; exact OV.putI (V := vw_MODEL) hF9 n_k_1 o_p0 (by decide)
    refine lv_aload_n hx hb dX10_bad_17 rfl (lv_at hl 0 rfl) ?_
    refine lv_aload_n hx hb dX10_bad_18 rfl (lv_at hl 0 rfl) ?_
    refine tg_get (ci := 10) (ts := ty_MODEL) (C := RX10) (T := TX10) (N := 49) hx hb hts inX10 hown hK hw h_p0 rfl rfl 6 (by decide) (hts _ tw_1143) (fun _ h9 => h9) (ft := vI (-2147483648) 2147483647) rfl dX10_bad_19 (fun u_3 hv_u_3 m_u_3 => ?_)
    obtain ⟨vu_3, rfl, r_vu_3⟩ := hv_u_3
    have q_vu_3 : sg_2.1 6 = vu_3 := OV.eqI (V := vw_MODEL) hw.2.2.1 o_p0 m_u_3 (by decide)
    refine tg_put (ci := 10) (ts := ty_MODEL) (v := .int vu_3) (ty := .int) (C := RX10) (T := TX10) (N := 49) hx hb hts inX10 tyX10 tyX10_ok nmX10 hown hK hw h_p0 rfl rfl 11 (by decide) (hts _ tw_1148) (fun _ h9 => h9) rfl (by decide +kernel) rfl rfl (ft := vI (-2147483648) 2147483647) rfl ⟨_, rfl, r_vu_3⟩ (by decide) dX10_bad_22 (fun ws H locs hw n_k_4 hF9 => ?_)
    have n_k_1 := FLD.over hF9 n_k_1 (by decide)
    have m_u_3 := FLD.over hF9 m_u_3 (by decide)
    obtain ⟨sg_5, q_sg_5⟩ : ∃ q9 : OS, sI sg_2 11 vu_3 = q9 := ⟨_, rfl⟩
    have o_p0 : OV vw_MODEL Ps ws p0 sg_5 := by rw [← q_sg_5]; exact OV.putI (V := vw_MODEL) hF9 n_k_4 o_p0 (by decide)
    refine lv_iconst (v := 0) hx hb dX10_bad_25 (by decide) ?_
    simp only [f_X10_bad__1_14, ↓reduceIte, q_sg_2, q_vu_3, q_sg_5] at hE
    subst hQ
    exact W.zret (v := 0) hx hb hr (rfl) (fun t ht hW => ⟨⟨0, ws, rfl, ⟨⟨⟨(by rw [hR, ← hE]; exact o_p0), (by rw [hR, ← hE]), trivial⟩, rl_0.to (by decide), (fun h0 => trivial), (fun _ => trivial)⟩, hw.1, hw.2.2.2.2.1⟩, by rw [ht]; exact hw.2.1, va_K.moved hW.alike hK, hw.2.2.1⟩, hw.2.2.2.1.F ht⟩) hw.2.2.2.1.2.2 dX10_bad_26
  refine lv_aload_n hx hb dX10_bad_0 rfl (lv_at hl 0 rfl) ?_
  refine lv_aload_n hx hb dX10_bad_1 rfl (lv_at hl 0 rfl) ?_
  refine tg_get (ci := 10) (ts := ty_MODEL) (C := RX10) (T := TX10) (N := 49) hx hb hts inX10 hown hK hw h_p0 rfl rfl 7 (by decide) (hts _ tw_1144) (fun _ h9 => h9) (ft := vI (-2147483648) 2147483647) rfl dX10_bad_2 (fun u_6 hv_u_6 m_u_6 => ?_)
  obtain ⟨vu_6, rfl, r_vu_6⟩ := hv_u_6
  have q_vu_6 : s0.1 7 = vu_6 := OV.eqI (V := vw_MODEL) hw.2.2.1 o_p0 m_u_6 (by decide)
  refine lv_iconst (v := 1) hx hb dX10_bad_5 (by decide) ?_
  refine lv_icmp_ne (tgt := 13) hx hb dX10_bad_6 (by decide) (fun c_6 => ?_) (fun c_6 => ?_)
  · refine lv_iload_n hx hb dX10_bad_13 rfl (lv_at hl 1 rfl) ?_
    simp only [f_X10_bad__1, ↓reduceIte, q_vu_6, eq_false c_6] at hE
    exact B14 p1 s0 w0 _ _ ls r_p1 r_p1 o_p0 hE hw hl
  · have r_vu_6 : RI vu_6 1 1 := rc_eq1 r_vu_6 rl_1 (ti_eq c_6) (by decide)
    refine lv_iconst (v := 1) hx hb dX10_bad_9 (by decide) ?_
    refine lv_goto (tgt := 14) hx hb dX10_bad_10 (by decide) ?_
    simp only [f_X10_bad__1, ↓reduceIte, q_vu_6, eq_true c_6] at hE
    exact B14 1 s0 w0 _ _ ls r_p1 (rl_1.to (by decide)) o_p0 hE hw hl
abbrev wr_X10_isLetter__2 : List (Nat × Nat) := []
abbrev wa_X10_isLetter__2 : List Nat := []
set_option maxHeartbeats 4000000 in
set_option maxRecDepth 100000 in
theorem c_X10_isLetter__2 (l : Launch) (D : va_G) (cy : Nat → ClassId) (z : Nat → Nat) (sz : Nat) (Ps : PSI) (w0 : va_W) (hT : HT cy GG Ps w0) (p0 : Int32) (r_p0 : RI p0 0 255) : Met l yX10_isLetter (Cond.code yX10_isLetter cX10_isLetter 1 (some .boolean) :: gT) ({ frames := 0, cells := 0, slots := 0, locals := 200 } : Room) (va_Pc [.int p0] (PRE D cy z w0 sz)) (va_Qi (fun (r : Int32) (u : Unit) => ((f_X10_isLetter__2 p0) = r ∧ True) ∧ (RI r 0 1 ∧ (r = 0 → True) ∧ (¬ r = 0 → RI p0 97 122 ∧ True))) (BB D cy (va_A w0 sz) (fun (u : Unit) => w0)) (va_A w0 sz)) 0 0 (va_A w0 sz) := by
  refine Met.ofW (cc := cX10_isLetter) (maxL := 1) (ret := (some .boolean)) (by decide) rfl ?_
  intro p e s m args below meth c s₁ B hml hv
  obtain ⟨rfl, hsz, hP, hK, hD0, hSD⟩ := hv
  have hx := B.exec
  have hb := B.bytes
  have hr := B.returns
  have hlocks := B.notSynchronized
  have hts : ∀ w ∈ gT, w.before _ s = true := fun w h => atoms_spec (ws := Cond.code yX10_isLetter cX10_isLetter 1 (some .boolean) :: gT) B.pre w (List.mem_cons_of_mem _ h)
  have hown : s.vm.findClass RX10 = some m.cls := findClass_of_methodNamed B.named
  subst hsz
  have hD := hD0.self (sz := s.heap.size)
  generalize hAe : va_A w0 s.heap.size = A at hD hSD ⊢
  have hA : ∀ q : Nat, s.heap.size ≤ q → A q := fun q h => by rw [← hAe]; exact Or.inr h
  have hl := lv_entry ([.int p0]) (n := 1) (Nat.le_of_ble_eq_true rfl)
  rw [lg_entry_eq]
  generalize (lg_sl ([.int p0]) ++ List.replicate (1 - (lg_sl ([.int p0])).length) Slot.unset).toArray = ls at hl ⊢
  have hl : lv_has ls 1 [(0, .int p0)] := hl
  refine nameQ (fun Q hQ => ?_)
  have hw : WD D cy GG A s wr_X10_isLetter__2 wa_X10_isLetter__2 Ps w0 Ps w0 s.heap [] := ⟨hT, hP, hD, va_S.rf, FR.rf, hT.1, [], (List.append_nil _).symm⟩
  obtain ⟨R9, hR⟩ : ∃ q9 : Int32, f_X10_isLetter__2 p0 = q9 := ⟨_, rfl⟩
  have hE := hR
  refine lv_iload_n hx hb dX10_isLetter_0 rfl (lv_at hl 0 rfl) ?_
  refine lv_bipush (v := 97) hx hb dX10_isLetter_1 (by decide) ?_
  refine lv_icmp_lt (tgt := 16) hx hb dX10_isLetter_3 (by decide) (fun c_3 => ?_) (fun c_3 => ?_)
  · have r_p0 : RI p0 0 96 := rc_lt1 r_p0 rl_97 (ti_lt c_3) (by decide)
    refine lv_iconst (v := 0) hx hb dX10_isLetter_16 (by decide) ?_
    simp only [f_X10_isLetter__2, ↓reduceIte, eq_true c_3] at hE
    subst hQ
    exact W.zret (v := 0) hx hb hr (rfl) (fun t ht hW => ⟨⟨0, (), rfl, ⟨⟨(by rw [hR, ← hE]), trivial⟩, rl_0.to (by decide), (fun h0 => trivial), (fun h0 => absurd rfl h0)⟩, by rw [ht]; exact hw.2.1, va_K.moved hW.alike hK, hw.2.2.1⟩, hw.2.2.2.1.F ht⟩) hw.2.2.2.1.2.2 dX10_isLetter_17
  · have r_p0 : RI p0 97 255 := rc_le2 rl_97 r_p0 (ti_nlt c_3) (by decide)
    refine lv_iload_n hx hb dX10_isLetter_6 rfl (lv_at hl 0 rfl) ?_
    refine lv_bipush (v := 122) hx hb dX10_isLetter_7 (by decide) ?_
    refine lv_icmp_gt (tgt := 16) hx hb dX10_isLetter_9 (by decide) (fun c_9 => ?_) (fun c_9 => ?_)
    · have r_p0 : RI p0 123 255 := rc_lt2 rl_122 r_p0 (ti_lt c_9) (by decide)
      refine lv_iconst (v := 0) hx hb dX10_isLetter_16 (by decide) ?_
      simp only [f_X10_isLetter__2, ↓reduceIte, eq_false c_3, eq_true c_9] at hE
      subst hQ
      exact W.zret (v := 0) hx hb hr (rfl) (fun t ht hW => ⟨⟨0, (), rfl, ⟨⟨(by rw [hR, ← hE]), trivial⟩, rl_0.to (by decide), (fun h0 => trivial), (fun h0 => absurd rfl h0)⟩, by rw [ht]; exact hw.2.1, va_K.moved hW.alike hK, hw.2.2.1⟩, hw.2.2.2.1.F ht⟩) hw.2.2.2.1.2.2 dX10_isLetter_17
    · have r_p0 : RI p0 97 122 := rc_le1 r_p0 rl_122 (ti_nlt c_9) (by decide)
      refine lv_iconst (v := 1) hx hb dX10_isLetter_12 (by decide) ?_
      refine lv_goto (tgt := 17) hx hb dX10_isLetter_13 (by decide) ?_
      simp only [f_X10_isLetter__2, ↓reduceIte, eq_false c_3, eq_false c_9] at hE
      subst hQ
      exact W.zret (v := 1) hx hb hr (rfl) (fun t ht hW => ⟨⟨1, (), rfl, ⟨⟨(by rw [hR, ← hE]), trivial⟩, rl_1.to (by decide), (fun _ => trivial), (fun h0 => ⟨r_p0, trivial⟩)⟩, by rw [ht]; exact hw.2.1, va_K.moved hW.alike hK, hw.2.2.1⟩, hw.2.2.2.1.F ht⟩) hw.2.2.2.1.2.2 dX10_isLetter_17
abbrev wr_X10_tapeAt__1 : List (Nat × Nat) := []
abbrev wa_X10_tapeAt__1 : List Nat := []
set_option maxHeartbeats 4000000 in
set_option maxRecDepth 100000 in
theorem c_X10_tapeAt__1 (l : Launch) (D : va_G) (cy : Nat → ClassId) (z : Nat → Nat) (sz : Nat) (Ps : PSI) (w0 : va_W) (hT : HT cy GG Ps w0) (p0 : Nat) (p1 : Int32) (s0 : OS) (h_p0 : (p0, 55) ∈ Ps) (r_p1 : RI p1 0 940) (o_p0 : OV vw_MODEL Ps w0 p0 s0) : Met l yX10_tapeAt (Cond.code yX10_tapeAt cX10_tapeAt 2 (some .int) :: gT) ({ frames := 0, cells := 0, slots := 0, locals := 200 } : Room) (va_Pc [.ref p0, .int p1] (PRE D cy z w0 sz)) (va_Qi (fun (r : Int32) (u : Unit) => ((f_X10_tapeAt__1 p1 s0) = r ∧ True) ∧ (RI r 0 255 ∧ (r = 0 → True) ∧ (¬ r = 0 → RI p1 0 939 ∧ True))) (BB D cy (va_A w0 sz) (fun (u : Unit) => w0)) (va_A w0 sz)) 0 0 (va_A w0 sz) := by
  refine Met.ofW (cc := cX10_tapeAt) (maxL := 2) (ret := (some .int)) (by decide) rfl ?_
  intro p e s m args below meth c s₁ B hml hv
  obtain ⟨rfl, hsz, hP, hK, hD0, hSD⟩ := hv
  have hx := B.exec
  have hb := B.bytes
  have hr := B.returns
  have hlocks := B.notSynchronized
  have hts : ∀ w ∈ gT, w.before _ s = true := fun w h => atoms_spec (ws := Cond.code yX10_tapeAt cX10_tapeAt 2 (some .int) :: gT) B.pre w (List.mem_cons_of_mem _ h)
  have hown : s.vm.findClass RX10 = some m.cls := findClass_of_methodNamed B.named
  subst hsz
  have hD := hD0.self (sz := s.heap.size)
  generalize hAe : va_A w0 s.heap.size = A at hD hSD ⊢
  have hA : ∀ q : Nat, s.heap.size ≤ q → A q := fun q h => by rw [← hAe]; exact Or.inr h
  have hl := lv_entry ([.ref p0, .int p1]) (n := 2) (Nat.le_of_ble_eq_true rfl)
  rw [lg_entry_eq]
  generalize (lg_sl ([.ref p0, .int p1]) ++ List.replicate (2 - (lg_sl ([.ref p0, .int p1])).length) Slot.unset).toArray = ls at hl ⊢
  have hl : lv_has ls 2 [(0, .ref p0), (1, .int p1)] := hl
  refine nameQ (fun Q hQ => ?_)
  have hw : WD D cy GG A s wr_X10_tapeAt__1 wa_X10_tapeAt__1 Ps w0 Ps w0 s.heap [] := ⟨hT, hP, hD, va_S.rf, FR.rf, hT.1, [], (List.append_nil _).symm⟩
  obtain ⟨R9, hR⟩ : ∃ q9 : Int32, f_X10_tapeAt__1 p1 s0 = q9 := ⟨_, rfl⟩
  have hE := hR
  refine lv_iload_n hx hb dX10_tapeAt_0 rfl (lv_at hl 1 rfl) ?_
  refine lv_aload_n hx hb dX10_tapeAt_1 rfl (lv_at hl 0 rfl) ?_
  refine tg_get (ci := 10) (ts := ty_MODEL) (C := RX10) (T := TX10) (N := 49) hx hb hts inX10 hown hK hw h_p0 rfl rfl 3 (by decide) (hts _ tw_1140) (fun _ h9 => h9) (ft := vI 0 940) rfl dX10_tapeAt_2 (fun u_1 hv_u_1 m_u_1 => ?_)
  obtain ⟨vu_1, rfl, r_vu_1⟩ := hv_u_1
  have q_vu_1 : s0.1 3 = vu_1 := OV.eqI (V := vw_MODEL) hw.2.2.1 o_p0 m_u_1 (by decide)
  refine lv_icmp_ge (tgt := 17) hx hb dX10_tapeAt_5 (by decide) (fun c_5 => ?_) (fun c_5 => ?_)
  · refine lv_iconst (v := 0) hx hb dX10_tapeAt_17 (by decide) ?_
    simp only [f_X10_tapeAt__1, ↓reduceIte, q_vu_1, eq_true c_5] at hE
    subst hQ
    exact W.iret (v := 0) hx hb hr (fun t ht hW => ⟨⟨0, (), rfl, ⟨⟨(by rw [hR, ← hE]), trivial⟩, rl_0.to (by decide), (fun h0 => trivial), (fun h0 => absurd rfl h0)⟩, by rw [ht]; exact hw.2.1, va_K.moved hW.alike hK, hw.2.2.1⟩, hw.2.2.2.1.F ht⟩) hw.2.2.2.1.2.2 dX10_tapeAt_18
  · have r_p1 : RI p1 0 939 := rc_lt1 r_p1 r_vu_1 (ti_nle c_5) (by decide)
    have r_vu_1 : RI vu_1 1 940 := rc_lt2 r_p1 r_vu_1 (ti_nle c_5) (by decide)
    refine lv_aload_n hx hb dX10_tapeAt_8 rfl (lv_at hl 0 rfl) ?_
    refine tg_get (ci := 10) (ts := ty_MODEL) (C := RX10) (T := TX10) (N := 49) hx hb hts inX10 hown hK hw h_p0 rfl rfl 1 (by decide) (hts _ tw_1138) (fun _ h9 => h9) (ft := vR 40) rfl dX10_tapeAt_9 (fun u_2 hv_u_2 m_u_2 => ?_)
    obtain ⟨vu_2, rfl, h_vu_2⟩ := hv_u_2
    refine lv_iload_n hx hb dX10_tapeAt_12 rfl (lv_at hl 1 rfl) ?_
    refine tg_iald (lo := 0) (hi := 255) hx hb hK hw h_vu_2 rfl 0 939 r_p1 (by decide) (by exact fun _ _ _ => ⟨Int.le_refl _, Int.le_refl _⟩) dX10_tapeAt_13 (fun v_3 r_v_3 m_v_3 o_v_3 => ?_)
    have q_v_3 : s0.2.2.1 1 (Int32.toNatClampNeg p1) = v_3 := OV.eqA (V := vw_MODEL) (t := 40) hw.2.2.1 o_p0 m_u_2 m_v_3 (by decide)
    refine lv_goto (tgt := 18) hx hb dX10_tapeAt_14 (by decide) ?_
    simp only [f_X10_tapeAt__1, ↓reduceIte, q_vu_1, eq_false c_5, q_v_3] at hE
    subst hQ
    exact W.iret (v := v_3) hx hb hr (fun t ht hW => ⟨⟨v_3, (), rfl, ⟨⟨(by rw [hR, ← hE]), trivial⟩, r_v_3.to (by decide), (fun h0 => trivial), (fun h0 => ⟨r_p1, trivial⟩)⟩, by rw [ht]; exact hw.2.1, va_K.moved hW.alike hK, hw.2.2.1⟩, hw.2.2.2.1.F ht⟩) hw.2.2.2.1.2.2 dX10_tapeAt_18
abbrev wr_X10_isDigit__1 : List (Nat × Nat) := []
abbrev wa_X10_isDigit__1 : List Nat := []
set_option maxHeartbeats 4000000 in
set_option maxRecDepth 100000 in
theorem c_X10_isDigit__1 (l : Launch) (D : va_G) (cy : Nat → ClassId) (z : Nat → Nat) (sz : Nat) (Ps : PSI) (w0 : va_W) (hT : HT cy GG Ps w0) (p0 : Int32) (r_p0 : RI p0 0 255) : Met l yX10_isDigit (Cond.code yX10_isDigit cX10_isDigit 1 (some .boolean) :: gT) ({ frames := 0, cells := 0, slots := 0, locals := 200 } : Room) (va_Pc [.int p0] (PRE D cy z w0 sz)) (va_Qi (fun (r : Int32) (u : Unit) => ((f_X10_isDigit__1 p0) = r ∧ True) ∧ (RI r 0 1 ∧ (r = 0 → True) ∧ (¬ r = 0 → RI p0 48 57 ∧ True))) (BB D cy (va_A w0 sz) (fun (u : Unit) => w0)) (va_A w0 sz)) 0 0 (va_A w0 sz) := by
  refine Met.ofW (cc := cX10_isDigit) (maxL := 1) (ret := (some .boolean)) (by decide) rfl ?_
  intro p e s m args below meth c s₁ B hml hv
  obtain ⟨rfl, hsz, hP, hK, hD0, hSD⟩ := hv
  have hx := B.exec
  have hb := B.bytes
  have hr := B.returns
  have hlocks := B.notSynchronized
  have hts : ∀ w ∈ gT, w.before _ s = true := fun w h => atoms_spec (ws := Cond.code yX10_isDigit cX10_isDigit 1 (some .boolean) :: gT) B.pre w (List.mem_cons_of_mem _ h)
  have hown : s.vm.findClass RX10 = some m.cls := findClass_of_methodNamed B.named
  subst hsz
  have hD := hD0.self (sz := s.heap.size)
  generalize hAe : va_A w0 s.heap.size = A at hD hSD ⊢
  have hA : ∀ q : Nat, s.heap.size ≤ q → A q := fun q h => by rw [← hAe]; exact Or.inr h
  have hl := lv_entry ([.int p0]) (n := 1) (Nat.le_of_ble_eq_true rfl)
  rw [lg_entry_eq]
  generalize (lg_sl ([.int p0]) ++ List.replicate (1 - (lg_sl ([.int p0])).length) Slot.unset).toArray = ls at hl ⊢
  have hl : lv_has ls 1 [(0, .int p0)] := hl
  refine nameQ (fun Q hQ => ?_)
  have hw : WD D cy GG A s wr_X10_isDigit__1 wa_X10_isDigit__1 Ps w0 Ps w0 s.heap [] := ⟨hT, hP, hD, va_S.rf, FR.rf, hT.1, [], (List.append_nil _).symm⟩
  obtain ⟨R9, hR⟩ : ∃ q9 : Int32, f_X10_isDigit__1 p0 = q9 := ⟨_, rfl⟩
  have hE := hR
  refine lv_iload_n hx hb dX10_isDigit_0 rfl (lv_at hl 0 rfl) ?_
  refine lv_bipush (v := 48) hx hb dX10_isDigit_1 (by decide) ?_
  refine lv_icmp_lt (tgt := 16) hx hb dX10_isDigit_3 (by decide) (fun c_3 => ?_) (fun c_3 => ?_)
  · have r_p0 : RI p0 0 47 := rc_lt1 r_p0 rl_48 (ti_lt c_3) (by decide)
    refine lv_iconst (v := 0) hx hb dX10_isDigit_16 (by decide) ?_
    simp only [f_X10_isDigit__1, ↓reduceIte, eq_true c_3] at hE
    subst hQ
    exact W.zret (v := 0) hx hb hr (rfl) (fun t ht hW => ⟨⟨0, (), rfl, ⟨⟨(by rw [hR, ← hE]), trivial⟩, rl_0.to (by decide), (fun h0 => trivial), (fun h0 => absurd rfl h0)⟩, by rw [ht]; exact hw.2.1, va_K.moved hW.alike hK, hw.2.2.1⟩, hw.2.2.2.1.F ht⟩) hw.2.2.2.1.2.2 dX10_isDigit_17
  · have r_p0 : RI p0 48 255 := rc_le2 rl_48 r_p0 (ti_nlt c_3) (by decide)
    refine lv_iload_n hx hb dX10_isDigit_6 rfl (lv_at hl 0 rfl) ?_
    refine lv_bipush (v := 57) hx hb dX10_isDigit_7 (by decide) ?_
    refine lv_icmp_gt (tgt := 16) hx hb dX10_isDigit_9 (by decide) (fun c_9 => ?_) (fun c_9 => ?_)
    · have r_p0 : RI p0 58 255 := rc_lt2 rl_57 r_p0 (ti_lt c_9) (by decide)
      refine lv_iconst (v := 0) hx hb dX10_isDigit_16 (by decide) ?_
      simp only [f_X10_isDigit__1, ↓reduceIte, eq_false c_3, eq_true c_9] at hE
      subst hQ
      exact W.zret (v := 0) hx hb hr (rfl) (fun t ht hW => ⟨⟨0, (), rfl, ⟨⟨(by rw [hR, ← hE]), trivial⟩, rl_0.to (by decide), (fun h0 => trivial), (fun h0 => absurd rfl h0)⟩, by rw [ht]; exact hw.2.1, va_K.moved hW.alike hK, hw.2.2.1⟩, hw.2.2.2.1.F ht⟩) hw.2.2.2.1.2.2 dX10_isDigit_17
    · have r_p0 : RI p0 48 57 := rc_le1 r_p0 rl_57 (ti_nlt c_9) (by decide)
      refine lv_iconst (v := 1) hx hb dX10_isDigit_12 (by decide) ?_
      refine lv_goto (tgt := 17) hx hb dX10_isDigit_13 (by decide) ?_
      simp only [f_X10_isDigit__1, ↓reduceIte, eq_false c_3, eq_false c_9] at hE
      subst hQ
      exact W.zret (v := 1) hx hb hr (rfl) (fun t ht hW => ⟨⟨1, (), rfl, ⟨⟨(by rw [hR, ← hE]), trivial⟩, rl_1.to (by decide), (fun _ => trivial), (fun h0 => ⟨r_p0, trivial⟩)⟩, by rw [ht]; exact hw.2.1, va_K.moved hW.alike hK, hw.2.2.1⟩, hw.2.2.2.1.F ht⟩) hw.2.2.2.1.2.2 dX10_isDigit_17
abbrev wr_X10_isLetter__3 : List (Nat × Nat) := []
abbrev wa_X10_isLetter__3 : List Nat := []
set_option maxHeartbeats 4000000 in
set_option maxRecDepth 100000 in
theorem c_X10_isLetter__3 (l : Launch) (D : va_G) (cy : Nat → ClassId) (z : Nat → Nat) (sz : Nat) (Ps : PSI) (w0 : va_W) (hT : HT cy GG Ps w0) (p0 : Int32) (r_p0 : RI p0 48 122) : Met l yX10_isLetter (Cond.code yX10_isLetter cX10_isLetter 1 (some .boolean) :: gT) ({ frames := 0, cells := 0, slots := 0, locals := 200 } : Room) (va_Pc [.int p0] (PRE D cy z w0 sz)) (va_Qi (fun (r : Int32) (u : Unit) => ((f_X10_isLetter__3 p0) = r ∧ True) ∧ (RI r 0 1 ∧ (r = 0 → RI p0 48 96 ∧ True) ∧ (¬ r = 0 → RI p0 97 122 ∧ True))) (BB D cy (va_A w0 sz) (fun (u : Unit) => w0)) (va_A w0 sz)) 0 0 (va_A w0 sz) := by
  refine Met.ofW (cc := cX10_isLetter) (maxL := 1) (ret := (some .boolean)) (by decide) rfl ?_
  intro p e s m args below meth c s₁ B hml hv
  obtain ⟨rfl, hsz, hP, hK, hD0, hSD⟩ := hv
  have hx := B.exec
  have hb := B.bytes
  have hr := B.returns
  have hlocks := B.notSynchronized
  have hts : ∀ w ∈ gT, w.before _ s = true := fun w h => atoms_spec (ws := Cond.code yX10_isLetter cX10_isLetter 1 (some .boolean) :: gT) B.pre w (List.mem_cons_of_mem _ h)
  have hown : s.vm.findClass RX10 = some m.cls := findClass_of_methodNamed B.named
  subst hsz
  have hD := hD0.self (sz := s.heap.size)
  generalize hAe : va_A w0 s.heap.size = A at hD hSD ⊢
  have hA : ∀ q : Nat, s.heap.size ≤ q → A q := fun q h => by rw [← hAe]; exact Or.inr h
  have hl := lv_entry ([.int p0]) (n := 1) (Nat.le_of_ble_eq_true rfl)
  rw [lg_entry_eq]
  generalize (lg_sl ([.int p0]) ++ List.replicate (1 - (lg_sl ([.int p0])).length) Slot.unset).toArray = ls at hl ⊢
  have hl : lv_has ls 1 [(0, .int p0)] := hl
  refine nameQ (fun Q hQ => ?_)
  have hw : WD D cy GG A s wr_X10_isLetter__3 wa_X10_isLetter__3 Ps w0 Ps w0 s.heap [] := ⟨hT, hP, hD, va_S.rf, FR.rf, hT.1, [], (List.append_nil _).symm⟩
  obtain ⟨R9, hR⟩ : ∃ q9 : Int32, f_X10_isLetter__3 p0 = q9 := ⟨_, rfl⟩
  have hE := hR
  refine lv_iload_n hx hb dX10_isLetter_0 rfl (lv_at hl 0 rfl) ?_
  refine lv_bipush (v := 97) hx hb dX10_isLetter_1 (by decide) ?_
  refine lv_icmp_lt (tgt := 16) hx hb dX10_isLetter_3 (by decide) (fun c_3 => ?_) (fun c_3 => ?_)
  · have r_p0 : RI p0 48 96 := rc_lt1 r_p0 rl_97 (ti_lt c_3) (by decide)
    refine lv_iconst (v := 0) hx hb dX10_isLetter_16 (by decide) ?_
    simp only [f_X10_isLetter__3, ↓reduceIte, eq_true c_3] at hE
    subst hQ
    exact W.zret (v := 0) hx hb hr (rfl) (fun t ht hW => ⟨⟨0, (), rfl, ⟨⟨(by rw [hR, ← hE]), trivial⟩, rl_0.to (by decide), (fun h0 => ⟨r_p0, trivial⟩), (fun h0 => absurd rfl h0)⟩, by rw [ht]; exact hw.2.1, va_K.moved hW.alike hK, hw.2.2.1⟩, hw.2.2.2.1.F ht⟩) hw.2.2.2.1.2.2 dX10_isLetter_17
  · have r_p0 : RI p0 97 122 := rc_le2 rl_97 r_p0 (ti_nlt c_3) (by decide)
    refine lv_iload_n hx hb dX10_isLetter_6 rfl (lv_at hl 0 rfl) ?_
    refine lv_bipush (v := 122) hx hb dX10_isLetter_7 (by decide) ?_
    refine lv_icmp_gt (tgt := 16) hx hb dX10_isLetter_9 (by decide) (fun c_9 => ?_) (fun c_9 => ?_)
    · have r_p0 : RI p0 123 122 := rc_lt2 rl_122 r_p0 (ti_lt c_9) (by decide)
      exact (r_p0.no (by decide)).elim
    · refine lv_iconst (v := 1) hx hb dX10_isLetter_12 (by decide) ?_
      refine lv_goto (tgt := 17) hx hb dX10_isLetter_13 (by decide) ?_
      simp only [f_X10_isLetter__3, ↓reduceIte, eq_false c_3, eq_false c_9] at hE
      subst hQ
      exact W.zret (v := 1) hx hb hr (rfl) (fun t ht hW => ⟨⟨1, (), rfl, ⟨⟨(by rw [hR, ← hE]), trivial⟩, rl_1.to (by decide), (fun h0 => absurd h0 (by decide)), (fun h0 => ⟨r_p0, trivial⟩)⟩, by rw [ht]; exact hw.2.1, va_K.moved hW.alike hK, hw.2.2.1⟩, hw.2.2.2.1.F ht⟩) hw.2.2.2.1.2.2 dX10_isLetter_17
abbrev wr_X10_go__2 : List (Nat × Nat) := [(10, 5), (10, 6), (10, 7), (10, 8), (10, 9), (10, 12)]
abbrev wa_X10_go__2 : List Nat := []
set_option maxHeartbeats 4000000 in
set_option maxRecDepth 100000 in
theorem c_X10_go__2 (l : Launch) (D : va_G) (cy : Nat → ClassId) (z : Nat → Nat) (sz : Nat) (Ps : PSI) (w0 : va_W) (hT : HT cy GG Ps w0) (p0 : Nat) (gh : Int) (s0 : OS) (h_p0 : (p0, 55) ∈ Ps) (x_TO_p0_gh : TOP w0 p0 (gh)) (o_p0 : OV vw_MODEL Ps w0 p0 s0) : Met l yX10_go (Cond.code yX10_go cX10_go 5 none :: gT) ({ frames := 2, cells := 0, slots := 0, locals := 400 } : Room) (va_Pc [.ref p0] (PRE D cy z w0 sz)) (va_Qv (fun (u : va_W) => ((OV vw_MODEL Ps u p0 ((f_X10_go__2 s0)) ∧ True) ∧ (TKP u p0 (gh) ∧ True)) ∧ HT cy GG Ps u ∧ FR wr_X10_go__2 wa_X10_go__2 Ps w0 u) (BB D cy (va_A w0 sz) (fun (u : va_W) => u)) (va_A w0 sz)) 0 0 (va_A w0 sz) := by
  refine Met.ofW (cc := cX10_go) (maxL := 5) (ret := none) (by decide) rfl ?_
  intro p e s m args below meth c s₁ B hml hv
  obtain ⟨rfl, hsz, hP, hK, hD0, hSD⟩ := hv
  have hx := B.exec
  have hb := B.bytes
  have hr := B.returns
  have hlocks := B.notSynchronized
  have hts : ∀ w ∈ gT, w.before _ s = true := fun w h => atoms_spec (ws := Cond.code yX10_go cX10_go 5 none :: gT) B.pre w (List.mem_cons_of_mem _ h)
  have hown : s.vm.findClass RX10 = some m.cls := findClass_of_methodNamed B.named
  subst hsz
  have hD := hD0.self (sz := s.heap.size)
  generalize hAe : va_A w0 s.heap.size = A at hD hSD ⊢
  have hA : ∀ q : Nat, s.heap.size ≤ q → A q := fun q h => by rw [← hAe]; exact Or.inr h
  have hl := lv_entry ([.ref p0]) (n := 5) (Nat.le_of_ble_eq_true rfl)
  rw [lg_entry_eq]
  generalize (lg_sl ([.ref p0]) ++ List.replicate (5 - (lg_sl ([.ref p0])).length) Slot.unset).toArray = ls at hl ⊢
  have hl : lv_has ls 5 [(0, .ref p0)] := hl
  refine nameQ (fun Q hQ => ?_)
  have hw : WD D cy GG A s wr_X10_go__2 wa_X10_go__2 Ps w0 Ps w0 s.heap [] := ⟨hT, hP, hD, va_S.rf, FR.rf, hT.1, [], (List.append_nil _).symm⟩
  obtain ⟨R9, hR⟩ : ∃ q9 : OS, f_X10_go__2 s0 = q9 := ⟨_, rfl⟩
  have hE := hR
  have B390 : ∀ (x1 : Int32) (x2 : Int32) (x3 : Int32) (y0 : Int32) (z0_3 : Int32) (z0_4 : Int32) (z0_5 : Int32) (z0_6 : Int32) (s0 : OS) (ws : va_W) (H : Heap) (locs : List Loc) (ls : Array Slot), RI x1 48 122 → RI x2 0 1 → RI x3 0 1 → RI y0 1 3 → RI z0_3 1 940 → FLD ws p0 10 3 (.int z0_3) → RI z0_4 0 2147483647 → FLD ws p0 10 4 (.int z0_4) → RI z0_5 0 940 → FLD ws p0 10 5 (.int z0_5) → RI z0_6 0 940 → FLD ws p0 10 6 (.int z0_6) → TOP ws p0 (gh) → OV vw_MODEL Ps ws p0 s0 → f_X10_go__2_390 x1 x2 x3 y0 s0 = R9 → WD D cy GG A s wr_X10_go__2 wa_X10_go__2 Ps w0 Ps ws H locs → lv_has ls 5 [(0, .ref p0), (1, .int x1), (2, .int x2), (3, .int x3)] → W p l e (headSpec (Cond.code yX10_go cX10_go 5 none :: gT) ({ frames := 2, cells := 0, slots := 0, locals := 400 } : Room)).room s m ([.ref p0] : List Value).toArray below meth c H locs 0 0 Q (F0 m 390 ls [.int y0, .ref p0]) := by
    intro x1 x2 x3 y0 z0_3 z0_4 z0_5 z0_6 s0 ws H locs ls r_x1 r_x2 r_x3 r_y0 r_z0_3 m_z0_3 r_z0_4 m_z0_4 r_z0_5 m_z0_5 r_z0_6 m_z0_6 x_TO_p0_gh o_p0 hE hw hl
    have q_z0_3 : s0.1 3 = z0_3 := OV.eqI (V := vw_MODEL) hw.2.2.1 o_p0 m_z0_3 (by decide)
    have q_z0_4 : s0.1 4 = z0_4 := OV.eqI (V := vw_MODEL) hw.2.2.1 o_p0 m_z0_4 (by decide)
    have q_z0_5 : s0.1 5 = z0_5 := OV.eqI (V := vw_MODEL) hw.2.2.1 o_p0 m_z0_5 (by decide)
    have q_z0_6 : s0.1 6 = z0_6 := OV.eqI (V := vw_MODEL) hw.2.2.1 o_p0 m_z0_6 (by decide)
    refine tg_put (ci := 10) (ts := ty_MODEL) (v := .int y0) (ty := .int) (C := RX10) (T := TX10) (N := 49) hx hb hts inX10 tyX10 tyX10_ok nmX10 hown hK hw h_p0 rfl rfl 7 (by decide) (hts _ tw_1144) (fun _ h9 => h9) rfl (by decide +kernel) rfl rfl (ft := vI (-2147483648) 2147483647) rfl ⟨_, rfl, (r_y0.to (by decide))⟩ (by decide) dX10_go_390 (fun ws H locs hw n_k_1 hF9 => ?_)
    have m_z0_3 := FLD.over hF9 m_z0_3 (by decide)
    have m_z0_4 := FLD.over hF9 m_z0_4 (by decide)
    have m_z0_5 := FLD.over hF9 m_z0_5 (by decide)
    have m_z0_6 := FLD.over hF9 m_z0_6 (by decide)
    have x_TO_p0_gh := TOP.over hF9 x_TO_p0_gh (by decide)
    obtain ⟨sg_2, q_sg_2⟩ : ∃ q9 : OS, sI s0 7 y0 = q9 := ⟨_, rfl⟩
    have o_p0 : OV vw_MODEL Ps ws p0 sg_2 := by rw [← q_sg_2]; exact OV.putI (V := vw_MODEL) hF9 n_k_1 o_p0 (by decide)
    have g8 := TOP.get hw x_TO_p0_gh m_z0_5
    have x_TOK_p0_gh : TKP ws p0 (gh) := ⟨_, _, m_z0_5, n_k_1, g8, r_z0_5.2, fun h9 => by have k1 := r_y0; unfold RI at k1; omega⟩
    simp only [f_X10_go__2_390, ↓reduceIte, q_z0_3, q_z0_4, q_z0_5, q_z0_6, q_sg_2] at hE
    subst hQ
    exact W.vret hx hb hr (fun t ht hW => ⟨⟨ws, rfl, ⟨⟨⟨(by rw [hR, ← hE]; exact o_p0), trivial⟩, ⟨x_TOK_p0_gh, trivial⟩⟩, hw.1, hw.2.2.2.2.1⟩, by rw [ht]; exact hw.2.1, va_K.moved hW.alike hK, hw.2.2.1⟩, hw.2.2.2.1.F ht⟩) hw.2.2.2.1.2.2 dX10_go_393
  have B377 : ∀ (x1 : Int32) (x2 : Int32) (x3 : Int32) (z0_3 : Int32) (z0_4 : Int32) (z0_5 : Int32) (z0_6 : Int32) (s0 : OS) (ws : va_W) (H : Heap) (locs : List Loc) (ls : Array Slot), RI x1 48 122 → RI x2 0 1 → RI x3 0 1 → RI z0_3 1 940 → FLD ws p0 10 3 (.int z0_3) → RI z0_4 0 2147483647 → FLD ws p0 10 4 (.int z0_4) → RI z0_5 0 940 → FLD ws p0 10 5 (.int z0_5) → RI z0_6 0 940 → FLD ws p0 10 6 (.int z0_6) → TOP ws p0 (gh) → OV vw_MODEL Ps ws p0 s0 → f_X10_go__2_377 x1 x2 x3 s0 = R9 → WD D cy GG A s wr_X10_go__2 wa_X10_go__2 Ps w0 Ps ws H locs → lv_has ls 5 [(0, .ref p0), (1, .int x1), (2, .int x2), (3, .int x3)] → W p l e (headSpec (Cond.code yX10_go cX10_go 5 none :: gT) ({ frames := 2, cells := 0, slots := 0, locals := 400 } : Room)).room s m ([.ref p0] : List Value).toArray below meth c H locs 0 0 Q (F0 m 377 ls [.ref p0]) := by
    intro x1 x2 x3 z0_3 z0_4 z0_5 z0_6 s0 ws H locs ls r_x1 r_x2 r_x3 r_z0_3 m_z0_3 r_z0_4 m_z0_4 r_z0_5 m_z0_5 r_z0_6 m_z0_6 x_TO_p0_gh o_p0 hE hw hl
    have q_z0_3 : s0.1 3 = z0_3 := OV.eqI (V := vw_MODEL) hw.2.2.1 o_p0 m_z0_3 (by decide)
    have q_z0_4 : s0.1 4 = z0_4 := OV.eqI (V := vw_MODEL) hw.2.2.1 o_p0 m_z0_4 (by decide)
    have q_z0_5 : s0.1 5 = z0_5 := OV.eqI (V := vw_MODEL) hw.2.2.1 o_p0 m_z0_5 (by decide)
    have q_z0_6 : s0.1 6 = z0_6 := OV.eqI (V := vw_MODEL) hw.2.2.1 o_p0 m_z0_6 (by decide)
    refine lv_iconst (v := 1) hx hb dX10_go_377 (by decide) ?_
    refine lv_goto (tgt := 390) hx hb dX10_go_378 (by decide) ?_
    simp only [f_X10_go__2_377, ↓reduceIte, q_z0_3, q_z0_4, q_z0_5, q_z0_6] at hE
    exact B390 x1 x2 x3 1 z0_3 z0_4 z0_5 z0_6 s0 ws _ _ ls r_x1 r_x2 r_x3 (rl_1.to (by decide)) r_z0_3 m_z0_3 r_z0_4 m_z0_4 r_z0_5 m_z0_5 r_z0_6 m_z0_6 x_TO_p0_gh o_p0 hE hw hl
  have B374 : ∀ (x1 : Int32) (x2 : Int32) (x3 : Int32) (y0 : Int32) (y1 : Int32) (z0_3 : Int32) (z0_4 : Int32) (z0_5 : Int32) (z0_6 : Int32) (s0 : OS) (ws : va_W) (H : Heap) (locs : List Loc) (ls : Array Slot), RI x1 48 122 → RI x2 0 1 → RI x3 1 1 → RI y0 3 7 → RI y1 (-940) 940 → RI z0_3 1 940 → FLD ws p0 10 3 (.int z0_3) → RI z0_4 0 2147483647 → FLD ws p0 10 4 (.int z0_4) → RI z0_5 0 940 → FLD ws p0 10 5 (.int z0_5) → RI z0_6 0 940 → FLD ws p0 10 6 (.int z0_6) → TOP ws p0 (gh) → OV vw_MODEL Ps ws p0 s0 → f_X10_go__2_374 x1 x2 x3 y0 y1 s0 = R9 → WD D cy GG A s wr_X10_go__2 wa_X10_go__2 Ps w0 Ps ws H locs → lv_has ls 5 [(0, .ref p0), (1, .int x1), (2, .int x2), (3, .int x3)] → W p l e (headSpec (Cond.code yX10_go cX10_go 5 none :: gT) ({ frames := 2, cells := 0, slots := 0, locals := 400 } : Room)).room s m ([.ref p0] : List Value).toArray below meth c H locs 0 0 Q (F0 m 374 ls [.int y0, .int y1, .ref p0]) := by
    intro x1 x2 x3 y0 y1 z0_3 z0_4 z0_5 z0_6 s0 ws H locs ls r_x1 r_x2 r_x3 r_y0 r_y1 r_z0_3 m_z0_3 r_z0_4 m_z0_4 r_z0_5 m_z0_5 r_z0_6 m_z0_6 x_TO_p0_gh o_p0 hE hw hl
    have q_z0_3 : s0.1 3 = z0_3 := OV.eqI (V := vw_MODEL) hw.2.2.1 o_p0 m_z0_3 (by decide)
    have q_z0_4 : s0.1 4 = z0_4 := OV.eqI (V := vw_MODEL) hw.2.2.1 o_p0 m_z0_4 (by decide)
    have q_z0_5 : s0.1 5 = z0_5 := OV.eqI (V := vw_MODEL) hw.2.2.1 o_p0 m_z0_5 (by decide)
    have q_z0_6 : s0.1 6 = z0_6 := OV.eqI (V := vw_MODEL) hw.2.2.1 o_p0 m_z0_6 (by decide)
    refine lv_icmp_le (tgt := 381) hx hb dX10_go_374 (by decide) (fun c_374 => ?_) (fun c_374 => ?_)
    · have r_y1 : RI y1 (-940) 7 := rc_le1 r_y1 r_y0 (ti_le c_374) (by decide)
      refine lv_iload_n hx hb dX10_go_381 rfl (lv_at hl 2 rfl) ?_
      refine lv_if_eq (tgt := 389) hx hb dX10_go_382 (by decide) (fun c_382 => ?_) (fun c_382 => ?_)
      · have r_x2 : RI x2 0 0 := rc_eq1 r_x2 rl_0 (ti_eq c_382) (by decide)
        refine lv_iconst (v := 3) hx hb dX10_go_389 (by decide) ?_
        simp only [f_X10_go__2_374, ↓reduceIte, q_z0_3, q_z0_4, q_z0_5, q_z0_6, eq_true c_374, eq_true c_382] at hE
        exact B390 x1 x2 x3 3 z0_3 z0_4 z0_5 z0_6 s0 ws _ _ ls r_x1 (r_x2.to (by decide)) (r_x3.to (by decide)) (rl_3.to (by decide)) r_z0_3 m_z0_3 r_z0_4 m_z0_4 r_z0_5 m_z0_5 r_z0_6 m_z0_6 x_TO_p0_gh o_p0 hE hw hl
      · have r_x2 : RI x2 1 1 := rc_neL r_x2 rl_0 (ti_ne c_382) (by decide)
        refine lv_iconst (v := 2) hx hb dX10_go_385 (by decide) ?_
        refine lv_goto (tgt := 390) hx hb dX10_go_386 (by decide) ?_
        simp only [f_X10_go__2_374, ↓reduceIte, q_z0_3, q_z0_4, q_z0_5, q_z0_6, eq_true c_374, eq_false c_382] at hE
        exact B390 x1 x2 x3 2 z0_3 z0_4 z0_5 z0_6 s0 ws _ _ ls r_x1 (r_x2.to (by decide)) (r_x3.to (by decide)) (rl_2.to (by decide)) r_z0_3 m_z0_3 r_z0_4 m_z0_4 r_z0_5 m_z0_5 r_z0_6 m_z0_6 x_TO_p0_gh o_p0 hE hw hl
    · have r_y1 : RI y1 4 940 := rc_lt2 r_y0 r_y1 (ti_nle c_374) (by decide)
      simp only [f_X10_go__2_374, ↓reduceIte, q_z0_3, q_z0_4, q_z0_5, q_z0_6, eq_false c_374] at hE
      exact B377 x1 x2 x3 z0_3 z0_4 z0_5 z0_6 s0 ws _ _ ls r_x1 r_x2 (r_x3.to (by decide)) r_z0_3 m_z0_3 r_z0_4 m_z0_4 r_z0_5 m_z0_5 r_z0_6 m_z0_6 x_TO_p0_gh o_p0 hE hw hl
  have B215 : ∀ (nf : Nat) (x1 : Int32) (x2 : Int32) (x3 : Int32) (z0_3 : Int32) (z0_4 : Int32) (z0_5 : Int32) (z0_6 : Int32) (s0 : OS) (ws : va_W) (H : Heap) (locs : List Loc) (ls : Array Slot), 940 - z0_5.toInt < (nf : Int) → RI x1 48 122 → RI x2 0 1 → RI x3 0 1 → RI z0_3 1 940 → FLD ws p0 10 3 (.int z0_3) → RI z0_4 0 2147483647 → FLD ws p0 10 4 (.int z0_4) → RI z0_5 0 940 → FLD ws p0 10 5 (.int z0_5) → RI z0_6 0 940 → FLD ws p0 10 6 (.int z0_6) → TOP ws p0 (gh) → OV vw_MODEL Ps ws p0 s0 → f_X10_go__2_215 nf x1 x2 x3 s0 = R9 → WD D cy GG A s wr_X10_go__2 wa_X10_go__2 Ps w0 Ps ws H locs → lv_has ls 5 [(0, .ref p0), (1, .int x1), (2, .int x2), (3, .int x3)] → W p l e (headSpec (Cond.code yX10_go cX10_go 5 none :: gT) ({ frames := 2, cells := 0, slots := 0, locals := 400 } : Room)).room s m ([.ref p0] : List Value).toArray below meth c H locs 0 0 Q (F0 m 215 ls []) := by
    intro nf215
    induction nf215 with
    | zero =>
      intro x1 x2 x3 z0_3 z0_4 z0_5 z0_6 s0 ws H locs ls hn215 r_x1 r_x2 r_x3 r_z0_3 m_z0_3 r_z0_4 m_z0_4 r_z0_5 m_z0_5 r_z0_6 m_z0_6 x_TO_p0_gh o_p0 hE hw hl
      exact absurd hn215 (by have q0 := r_z0_5.1; have u0 := r_z0_5.2; omega)
    | succ nf215 ih215 =>
      have B337 : ∀ (x1 : Int32) (x2 : Int32) (x3 : Int32) (x4 : Int32) (z0_3 : Int32) (z0_4 : Int32) (z0_5 : Int32) (z0_6 : Int32) (s0 : OS) (ws : va_W) (H : Heap) (locs : List Loc) (ls : Array Slot), RI x1 48 122 → RI x2 0 1 → RI x3 0 1 → RI x4 0 255 → RI z0_3 1 940 → FLD ws p0 10 3 (.int z0_3) → RI z0_4 0 2147483647 → FLD ws p0 10 4 (.int z0_4) → RI z0_5 0 939 → FLD ws p0 10 5 (.int z0_5) → RI z0_6 0 940 → FLD ws p0 10 6 (.int z0_6) → TOP ws p0 (gh) → OV vw_MODEL Ps ws p0 s0 → 940 - z0_5.toInt < ((nf215 + 1 : Nat) : Int) → f_X10_go__2_337 (f_X10_go__2_215 nf215) x1 x2 x3 x4 s0 = R9 → WD D cy GG A s wr_X10_go__2 wa_X10_go__2 Ps w0 Ps ws H locs → lv_has ls 5 [(0, .ref p0), (1, .int x1), (2, .int x2), (3, .int x3), (4, .int x4)] → W p l e (headSpec (Cond.code yX10_go cX10_go 5 none :: gT) ({ frames := 2, cells := 0, slots := 0, locals := 400 } : Room)).room s m ([.ref p0] : List Value).toArray below meth c H locs 0 0 Q (F0 m 337 ls []) := by
        intro x1 x2 x3 x4 z0_3 z0_4 z0_5 z0_6 s0 ws H locs ls r_x1 r_x2 r_x3 r_x4 r_z0_3 m_z0_3 r_z0_4 m_z0_4 r_z0_5 m_z0_5 r_z0_6 m_z0_6 x_TO_p0_gh o_p0 hn215 hE hw hl
        have q_z0_3 : s0.1 3 = z0_3 := OV.eqI (V := vw_MODEL) hw.2.2.1 o_p0 m_z0_3 (by decide)
        have q_z0_4 : s0.1 4 = z0_4 := OV.eqI (V := vw_MODEL) hw.2.2.1 o_p0 m_z0_4 (by decide)
        have q_z0_5 : s0.1 5 = z0_5 := OV.eqI (V := vw_MODEL) hw.2.2.1 o_p0 m_z0_5 (by decide)
        have q_z0_6 : s0.1 6 = z0_6 := OV.eqI (V := vw_MODEL) hw.2.2.1 o_p0 m_z0_6 (by decide)
        refine lv_aload_n hx hb dX10_go_337 rfl (lv_at hl 0 rfl) ?_
        refine lv_dup hx hb dX10_go_338 rfl ?_
        refine tg_mem (ci := 10) (C := RX10) (T := TX10) (N := 49) hx hb hts inX10 hown hK hw 5 m_z0_5 rfl (by decide) (hts _ tw_1142) (fun _ h9 => h9) dX10_go_339 ?_
        refine lv_iconst (v := 1) hx hb dX10_go_342 (by decide) ?_
        refine lv_iadd hx hb dX10_go_343 (lv_topi (fun v_3 e_v_3 => ?_))
        obtain ⟨t_v_3, r_v_3⟩ := tq_add (lo := 1) (hi := 940) r_z0_5 rl_1 (by decide +kernel) e_v_3
        have t_v_3 : v_3.toInt = z0_5.toInt + 1 := t_v_3
        have q_v_3 : z0_5 + (1 : Int32) = v_3 := e_v_3.symm
        have g9 := TOP.get hw x_TO_p0_gh m_z0_5
        refine tg_put (ci := 10) (ts := ty_MODEL) (v := .int v_3) (ty := .int) (C := RX10) (T := TX10) (N := 49) hx hb hts inX10 tyX10 tyX10_ok nmX10 hown hK hw h_p0 rfl rfl 5 (by decide) (hts _ tw_1142) (fun _ h9 => h9) rfl (by decide +kernel) rfl rfl (ft := vI 0 940) rfl ⟨_, rfl, (r_v_3.to (by decide))⟩ (by decide) dX10_go_344 (fun ws H locs hw n_k_4 hF9 => ?_)
        have m_z0_3 := FLD.over hF9 m_z0_3 (by decide)
        have m_z0_4 := FLD.over hF9 m_z0_4 (by decide)
        have m_z0_6 := FLD.over hF9 m_z0_6 (by decide)
        obtain ⟨sg_5, q_sg_5⟩ : ∃ q9 : OS, sI s0 5 v_3 = q9 := ⟨_, rfl⟩
        have o_p0 : OV vw_MODEL Ps ws p0 sg_5 := by rw [← q_sg_5]; exact OV.putI (V := vw_MODEL) hF9 n_k_4 o_p0 (by decide)
        have x_TO_p0_gh : TOP ws p0 (gh) := ⟨_, n_k_4, by have k1 := r_v_3.2; omega, by have k1 := r_v_3.2; omega⟩
        refine lv_goto (tgt := 215) hx hb dX10_go_347 (by decide) ?_
        simp only [f_X10_go__2_337, ↓reduceIte, q_z0_3, q_z0_4, q_z0_5, q_z0_6, q_v_3, q_sg_5] at hE
        exact ih215 x1 x2 x3 z0_3 z0_4 v_3 z0_6 sg_5 ws _ _ ls (by have q0 := r_v_3.1; have u0 := r_v_3.2; have o0 := r_z0_5.1; have p0 := r_z0_5.2; omega) r_x1 r_x2 r_x3 r_z0_3 m_z0_3 r_z0_4 m_z0_4 (r_v_3.to (by decide)) n_k_4 r_z0_6 m_z0_6 x_TO_p0_gh o_p0 hE hw (lv_sub hl [0, 1, 2, 3] rfl)
      have B307 : ∀ (x1 : Int32) (x2 : Int32) (x3 : Int32) (x4 : Int32) (z0_3 : Int32) (z0_4 : Int32) (z0_5 : Int32) (z0_6 : Int32) (s0 : OS) (ws : va_W) (H : Heap) (locs : List Loc) (ls : Array Slot), RI x1 48 122 → RI x2 0 1 → RI x3 0 1 → RI x4 0 255 → RI z0_3 1 940 → FLD ws p0 10 3 (.int z0_3) → RI z0_4 0 2147483647 → FLD ws p0 10 4 (.int z0_4) → RI z0_5 0 939 → FLD ws p0 10 5 (.int z0_5) → RI z0_6 0 940 → FLD ws p0 10 6 (.int z0_6) → TOP ws p0 (gh) → OV vw_MODEL Ps ws p0 s0 → 940 - z0_5.toInt < ((nf215 + 1 : Nat) : Int) → f_X10_go__2_307 (f_X10_go__2_215 nf215) x1 x2 x3 x4 s0 = R9 → WD D cy GG A s wr_X10_go__2 wa_X10_go__2 Ps w0 Ps ws H locs → lv_has ls 5 [(0, .ref p0), (1, .int x1), (2, .int x2), (3, .int x3), (4, .int x4)] → W p l e (headSpec (Cond.code yX10_go cX10_go 5 none :: gT) ({ frames := 2, cells := 0, slots := 0, locals := 400 } : Room)).room s m ([.ref p0] : List Value).toArray below meth c H locs 0 0 Q (F0 m 307 ls []) := by
        intro x1 x2 x3 x4 z0_3 z0_4 z0_5 z0_6 s0 ws H locs ls r_x1 r_x2 r_x3 r_x4 r_z0_3 m_z0_3 r_z0_4 m_z0_4 r_z0_5 m_z0_5 r_z0_6 m_z0_6 x_TO_p0_gh o_p0 hn215 hE hw hl
        have q_z0_3 : s0.1 3 = z0_3 := OV.eqI (V := vw_MODEL) hw.2.2.1 o_p0 m_z0_3 (by decide)
        have q_z0_4 : s0.1 4 = z0_4 := OV.eqI (V := vw_MODEL) hw.2.2.1 o_p0 m_z0_4 (by decide)
        have q_z0_5 : s0.1 5 = z0_5 := OV.eqI (V := vw_MODEL) hw.2.2.1 o_p0 m_z0_5 (by decide)
        have q_z0_6 : s0.1 6 = z0_6 := OV.eqI (V := vw_MODEL) hw.2.2.1 o_p0 m_z0_6 (by decide)
        refine lv_aload_n hx hb dX10_go_307 rfl (lv_at hl 0 rfl) ?_
        refine tg_mem (ci := 10) (C := RX10) (T := TX10) (N := 49) hx hb hts inX10 hown hK hw 5 m_z0_5 rfl (by decide) (hts _ tw_1142) (fun _ h9 => h9) dX10_go_308 ?_
        refine lv_aload_n hx hb dX10_go_311 rfl (lv_at hl 0 rfl) ?_
        refine tg_mem (ci := 10) (C := RX10) (T := TX10) (N := 49) hx hb hts inX10 hown hK hw 6 m_z0_6 rfl (by decide) (hts _ tw_1143) (fun _ h9 => h9) dX10_go_312 ?_
        refine lv_isub hx hb dX10_go_315 (lv_topi (fun v_6 e_v_6 => ?_))
        obtain ⟨t_v_6, r_v_6⟩ := tq_sub (lo := (-940)) (hi := 939) r_z0_5 r_z0_6 (by decide +kernel) e_v_6
        have q_v_6 : z0_5 - z0_6 = v_6 := e_v_6.symm
        refine lv_iconst (v := 3) hx hb dX10_go_316 (by decide) ?_
        refine lv_icmp_ge (tgt := 337) hx hb dX10_go_317 (by decide) (fun c_317 => ?_) (fun c_317 => ?_)
        · have r_v_6 : RI v_6 3 939 := rc_le2 rl_3 r_v_6 (ti_le c_317) (by decide)
          simp only [f_X10_go__2_307, ↓reduceIte, q_z0_3, q_z0_4, q_z0_5, q_z0_6, q_v_6, eq_true c_317] at hE
          exact B337 x1 x2 x3 x4 z0_3 z0_4 z0_5 z0_6 s0 ws _ _ ls r_x1 r_x2 r_x3 r_x4 r_z0_3 m_z0_3 r_z0_4 m_z0_4 r_z0_5 m_z0_5 r_z0_6 m_z0_6 x_TO_p0_gh o_p0 (by have q0 := r_z0_5.1; have u0 := r_z0_5.2; omega) hE hw hl
        · have r_v_6 : RI v_6 (-940) 2 := rc_lt1 r_v_6 rl_3 (ti_nle c_317) (by decide)
          refine lv_aload_n hx hb dX10_go_320 rfl (lv_at hl 0 rfl) ?_
          refine lv_bipush (v := 10) hx hb dX10_go_321 (by decide) ?_
          refine lv_aload_n hx hb dX10_go_323 rfl (lv_at hl 0 rfl) ?_
          refine tg_get (ci := 10) (ts := ty_MODEL) (C := RX10) (T := TX10) (N := 49) hx hb hts inX10 hown hK hw h_p0 rfl rfl 8 (by decide) (hts _ tw_1145) (fun _ h9 => h9) (ft := vI (-2147483648) 2147483647) rfl dX10_go_324 (fun u_7 hv_u_7 m_u_7 => ?_)
          obtain ⟨vu_7, rfl, r_vu_7⟩ := hv_u_7
          have q_vu_7 : s0.1 8 = vu_7 := OV.eqI (V := vw_MODEL) hw.2.2.1 o_p0 m_u_7 (by decide)
          refine lv_imul hx hb dX10_go_327 (lv_topi (fun v_8 e_v_8 => ?_))
          have r_v_8 := ri_any v_8
          have q_v_8 : (10 : Int32) * vu_7 = v_8 := e_v_8.symm
          refine lv_iload hx hb dX10_go_328 (lv_at hl 4 rfl) ?_
          refine lv_iadd hx hb dX10_go_330 (lv_topi (fun v_9 e_v_9 => ?_))
          have r_v_9 := ri_any v_9
          have q_v_9 : v_8 + x4 = v_9 := e_v_9.symm
          refine lv_bipush (v := 48) hx hb dX10_go_331 (by decide) ?_
          refine lv_isub hx hb dX10_go_333 (lv_topi (fun v_10 e_v_10 => ?_))
          have r_v_10 := ri_any v_10
          have q_v_10 : v_9 - (48 : Int32) = v_10 := e_v_10.symm
          refine tg_put (ci := 10) (ts := ty_MODEL) (v := .int v_10) (ty := .int) (C := RX10) (T := TX10) (N := 49) hx hb hts inX10 tyX10 tyX10_ok nmX10 hown hK hw h_p0 rfl rfl 8 (by decide) (hts _ tw_1145) (fun _ h9 => h9) rfl (by decide +kernel) rfl rfl (ft := vI (-2147483648) 2147483647) rfl ⟨_, rfl, r_v_10⟩ (by decide) dX10_go_334 (fun ws H locs hw n_k_11 hF9 => ?_)
          have m_z0_3 := FLD.over hF9 m_z0_3 (by decide)
          have m_z0_4 := FLD.over hF9 m_z0_4 (by decide)
          have m_z0_5 := FLD.over hF9 m_z0_5 (by decide)
          have m_z0_6 := FLD.over hF9 m_z0_6 (by decide)
          have x_TO_p0_gh := TOP.over hF9 x_TO_p0_gh (by decide)
          obtain ⟨sg_12, q_sg_12⟩ : ∃ q9 : OS, sI s0 8 v_10 = q9 := ⟨_, rfl⟩
          have o_p0 : OV vw_MODEL Ps ws p0 sg_12 := by rw [← q_sg_12]; exact OV.putI (V := vw_MODEL) hF9 n_k_11 o_p0 (by decide)
          simp only [f_X10_go__2_307, ↓reduceIte, q_z0_3, q_z0_4, q_z0_5, q_z0_6, q_v_6, eq_false c_317, q_vu_7, q_v_8, q_v_9, q_v_10, q_sg_12] at hE
          exact B337 x1 x2 x3 x4 z0_3 z0_4 z0_5 z0_6 sg_12 ws _ _ ls r_x1 r_x2 r_x3 r_x4 r_z0_3 m_z0_3 r_z0_4 m_z0_4 r_z0_5 m_z0_5 r_z0_6 m_z0_6 x_TO_p0_gh o_p0 (by have q0 := r_z0_5.1; have u0 := r_z0_5.2; omega) hE hw hl
      have B272 : ∀ (x1 : Int32) (x2 : Int32) (x3 : Int32) (x4 : Int32) (y0 : Int32) (z0_3 : Int32) (z0_4 : Int32) (z0_5 : Int32) (z0_6 : Int32) (s0 : OS) (ws : va_W) (H : Heap) (locs : List Loc) (ls : Array Slot), RI x1 48 122 → RI x2 0 1 → RI x3 0 1 → RI x4 0 255 → RI y0 0 1 → RI z0_3 1 940 → FLD ws p0 10 3 (.int z0_3) → RI z0_4 0 2147483647 → FLD ws p0 10 4 (.int z0_4) → RI z0_5 0 939 → FLD ws p0 10 5 (.int z0_5) → RI z0_6 0 940 → FLD ws p0 10 6 (.int z0_6) → TOP ws p0 (gh) → OV vw_MODEL Ps ws p0 s0 → 940 - z0_5.toInt < ((nf215 + 1 : Nat) : Int) → f_X10_go__2_272 (f_X10_go__2_215 nf215) x1 x2 x3 x4 y0 s0 = R9 → WD D cy GG A s wr_X10_go__2 wa_X10_go__2 Ps w0 Ps ws H locs → lv_has ls 5 [(0, .ref p0), (1, .int x1), (2, .int x2), (3, .int x3), (4, .int x4)] → W p l e (headSpec (Cond.code yX10_go cX10_go 5 none :: gT) ({ frames := 2, cells := 0, slots := 0, locals := 400 } : Room)).room s m ([.ref p0] : List Value).toArray below meth c H locs 0 0 Q (F0 m 272 ls [.int y0]) := by
        intro x1 x2 x3 x4 y0 z0_3 z0_4 z0_5 z0_6 s0 ws H locs ls r_x1 r_x2 r_x3 r_x4 r_y0 r_z0_3 m_z0_3 r_z0_4 m_z0_4 r_z0_5 m_z0_5 r_z0_6 m_z0_6 x_TO_p0_gh o_p0 hn215 hE hw hl
        have q_z0_3 : s0.1 3 = z0_3 := OV.eqI (V := vw_MODEL) hw.2.2.1 o_p0 m_z0_3 (by decide)
        have q_z0_4 : s0.1 4 = z0_4 := OV.eqI (V := vw_MODEL) hw.2.2.1 o_p0 m_z0_4 (by decide)
        have q_z0_5 : s0.1 5 = z0_5 := OV.eqI (V := vw_MODEL) hw.2.2.1 o_p0 m_z0_5 (by decide)
        have q_z0_6 : s0.1 6 = z0_6 := OV.eqI (V := vw_MODEL) hw.2.2.1 o_p0 m_z0_6 (by decide)
        refine lv_istore_n (lv' := [(3, .int y0), (0, .ref p0), (1, .int x1), (2, .int x2), (4, .int x4)]) hx hb dX10_go_272 rfl hl (by decide) rfl (fun ls hl => ?_)
        refine lv_aload_n hx hb dX10_go_273 rfl (lv_at hl 1 rfl) ?_
        refine tg_mem (ci := 10) (C := RX10) (T := TX10) (N := 49) hx hb hts inX10 hown hK hw 5 m_z0_5 rfl (by decide) (hts _ tw_1142) (fun _ h9 => h9) dX10_go_274 ?_
        refine lv_aload_n hx hb dX10_go_277 rfl (lv_at hl 1 rfl) ?_
        refine tg_mem (ci := 10) (C := RX10) (T := TX10) (N := 49) hx hb hts inX10 hown hK hw 6 m_z0_6 rfl (by decide) (hts _ tw_1143) (fun _ h9 => h9) dX10_go_278 ?_
        refine lv_isub hx hb dX10_go_281 (lv_topi (fun v_13 e_v_13 => ?_))
        obtain ⟨t_v_13, r_v_13⟩ := tq_sub (lo := (-940)) (hi := 939) r_z0_5 r_z0_6 (by decide +kernel) e_v_13
        have q_v_13 : z0_5 - z0_6 = v_13 := e_v_13.symm
        refine lv_bipush (v := 7) hx hb dX10_go_282 (by decide) ?_
        refine lv_icmp_ge (tgt := 307) hx hb dX10_go_284 (by decide) (fun c_284 => ?_) (fun c_284 => ?_)
        · have r_v_13 : RI v_13 7 939 := rc_le2 rl_7 r_v_13 (ti_le c_284) (by decide)
          simp only [f_X10_go__2_272, ↓reduceIte, q_z0_3, q_z0_4, q_z0_5, q_z0_6, q_v_13, eq_true c_284] at hE
          exact B307 x1 x2 y0 x4 z0_3 z0_4 z0_5 z0_6 s0 ws _ _ ls r_x1 r_x2 r_y0 r_x4 r_z0_3 m_z0_3 r_z0_4 m_z0_4 r_z0_5 m_z0_5 r_z0_6 m_z0_6 x_TO_p0_gh o_p0 (by have q0 := r_z0_5.1; have u0 := r_z0_5.2; omega) hE hw (lv_sub hl [1, 2, 3, 0, 4] rfl)
        · have r_v_13 : RI v_13 (-940) 6 := rc_lt1 r_v_13 rl_7 (ti_nle c_284) (by decide)
          refine lv_aload_n hx hb dX10_go_287 rfl (lv_at hl 1 rfl) ?_
          refine lv_ldc2 (v := 27) hx hb hown (hts _ tw_1312) dX10_go_288 ?_
          refine lv_aload_n hx hb dX10_go_291 rfl (lv_at hl 1 rfl) ?_
          refine tg_get (ci := 10) (ts := ty_MODEL) (C := RX10) (T := TX10) (N := 49) hx hb hts inX10 hown hK hw h_p0 rfl rfl 12 (by decide) (hts _ tw_1149) (fun _ h9 => h9) (ft := vJ (-9223372036854775808) 9223372036854775807) rfl dX10_go_292 (fun u_14 hv_u_14 m_u_14 => ?_)
          obtain ⟨vu_14, rfl, r_vu_14⟩ := hv_u_14
          have q_vu_14 : s0.2.1 12 = vu_14 := OV.eqL (V := vw_MODEL) hw.2.2.1 o_p0 m_u_14 (by decide)
          refine lv_lmul hx hb dX10_go_295 (lv_topl (fun w_15 e_w_15 => ?_))
          have r_w_15 := rj_any w_15
          have q_w_15 : (27 : Int64) * vu_14 = w_15 := e_w_15.symm
          refine lv_iload hx hb dX10_go_296 (lv_at hl 4 rfl) ?_
          obtain ⟨w_16, e_w_16⟩ : ∃ q9 : Int64, (x4 : Int32).toInt64 = q9 := ⟨_, rfl⟩
          refine lv_i2l (v := w_16) hx hb dX10_go_298 e_w_16 ?_
          have r_w_16 := tq_i2l r_x4 e_w_16
          have q_w_16 : Int32.toInt64 x4 = w_16 := e_w_16
          refine lv_ladd hx hb dX10_go_299 (lv_topl (fun w_17 e_w_17 => ?_))
          have r_w_17 := rj_any w_17
          have q_w_17 : w_15 + w_16 = w_17 := e_w_17.symm
          refine lv_ldc2 (v := 96) hx hb hown (hts _ tw_1313) dX10_go_300 ?_
          refine lv_lsub hx hb dX10_go_303 (lv_topl (fun w_18 e_w_18 => ?_))
          have r_w_18 := rj_any w_18
          have q_w_18 : w_17 - (96 : Int64) = w_18 := e_w_18.symm
          refine tg_put (ci := 10) (ts := ty_MODEL) (v := .long w_18) (ty := .long) (C := RX10) (T := TX10) (N := 49) hx hb hts inX10 tyX10 tyX10_ok nmX10 hown hK hw h_p0 rfl rfl 12 (by decide) (hts _ tw_1149) (fun _ h9 => h9) rfl (by decide +kernel) rfl rfl (ft := vJ (-9223372036854775808) 9223372036854775807) rfl ⟨_, rfl, r_w_18.to (by decide)⟩ (by decide) dX10_go_304 (fun ws H locs hw n_k_19 hF9 => ?_)
          have m_z0_3 := FLD.over hF9 m_z0_3 (by decide)
          have m_z0_4 := FLD.over hF9 m_z0_4 (by decide)
          have m_z0_5 := FLD.over hF9 m_z0_5 (by decide)
          have m_z0_6 := FLD.over hF9 m_z0_6 (by decide)
          have x_TO_p0_gh := TOP.over hF9 x_TO_p0_gh (by decide)
          obtain ⟨sg_20, q_sg_20⟩ : ∃ q9 : OS, sL s0 12 w_18 = q9 := ⟨_, rfl⟩
          have o_p0 : OV vw_MODEL Ps ws p0 sg_20 := by rw [← q_sg_20]; exact OV.putL (V := vw_MODEL) hF9 n_k_19 o_p0 (by decide)
          simp only [f_X10_go__2_272, ↓reduceIte, q_z0_3, q_z0_4, q_z0_5, q_z0_6, q_v_13, eq_false c_284, q_vu_14, q_w_15, q_w_16, q_w_17, q_w_18, q_sg_20] at hE
          exact B307 x1 x2 y0 x4 z0_3 z0_4 z0_5 z0_6 sg_20 ws _ _ ls r_x1 r_x2 r_y0 r_x4 r_z0_3 m_z0_3 r_z0_4 m_z0_4 r_z0_5 m_z0_5 r_z0_6 m_z0_6 x_TO_p0_gh o_p0 (by have q0 := r_z0_5.1; have u0 := r_z0_5.2; omega) hE hw (lv_sub hl [1, 2, 3, 0, 4] rfl)
      have B271 : ∀ (x1 : Int32) (x2 : Int32) (x3 : Int32) (x4 : Int32) (z0_3 : Int32) (z0_4 : Int32) (z0_5 : Int32) (z0_6 : Int32) (s0 : OS) (ws : va_W) (H : Heap) (locs : List Loc) (ls : Array Slot), RI x1 48 122 → RI x2 0 1 → RI x3 0 1 → RI x4 0 255 → RI z0_3 1 940 → FLD ws p0 10 3 (.int z0_3) → RI z0_4 0 2147483647 → FLD ws p0 10 4 (.int z0_4) → RI z0_5 0 939 → FLD ws p0 10 5 (.int z0_5) → RI z0_6 0 940 → FLD ws p0 10 6 (.int z0_6) → TOP ws p0 (gh) → OV vw_MODEL Ps ws p0 s0 → 940 - z0_5.toInt < ((nf215 + 1 : Nat) : Int) → f_X10_go__2_271 (f_X10_go__2_215 nf215) x1 x2 x3 x4 s0 = R9 → WD D cy GG A s wr_X10_go__2 wa_X10_go__2 Ps w0 Ps ws H locs → lv_has ls 5 [(0, .ref p0), (1, .int x1), (2, .int x2), (3, .int x3), (4, .int x4)] → W p l e (headSpec (Cond.code yX10_go cX10_go 5 none :: gT) ({ frames := 2, cells := 0, slots := 0, locals := 400 } : Room)).room s m ([.ref p0] : List Value).toArray below meth c H locs 0 0 Q (F0 m 271 ls []) := by
        intro x1 x2 x3 x4 z0_3 z0_4 z0_5 z0_6 s0 ws H locs ls r_x1 r_x2 r_x3 r_x4 r_z0_3 m_z0_3 r_z0_4 m_z0_4 r_z0_5 m_z0_5 r_z0_6 m_z0_6 x_TO_p0_gh o_p0 hn215 hE hw hl
        have q_z0_3 : s0.1 3 = z0_3 := OV.eqI (V := vw_MODEL) hw.2.2.1 o_p0 m_z0_3 (by decide)
        have q_z0_4 : s0.1 4 = z0_4 := OV.eqI (V := vw_MODEL) hw.2.2.1 o_p0 m_z0_4 (by decide)
        have q_z0_5 : s0.1 5 = z0_5 := OV.eqI (V := vw_MODEL) hw.2.2.1 o_p0 m_z0_5 (by decide)
        have q_z0_6 : s0.1 6 = z0_6 := OV.eqI (V := vw_MODEL) hw.2.2.1 o_p0 m_z0_6 (by decide)
        refine lv_iconst (v := 0) hx hb dX10_go_271 (by decide) ?_
        simp only [f_X10_go__2_271, ↓reduceIte, q_z0_3, q_z0_4, q_z0_5, q_z0_6] at hE
        exact B272 x1 x2 x3 x4 0 z0_3 z0_4 z0_5 z0_6 s0 ws _ _ ls r_x1 r_x2 r_x3 r_x4 (rl_0.to (by decide)) r_z0_3 m_z0_3 r_z0_4 m_z0_4 r_z0_5 m_z0_5 r_z0_6 m_z0_6 x_TO_p0_gh o_p0 (by have q0 := r_z0_5.1; have u0 := r_z0_5.2; omega) hE hw hl
      have B243 : ∀ (x1 : Int32) (x2 : Int32) (x3 : Int32) (z0_3 : Int32) (z0_4 : Int32) (z0_5 : Int32) (z0_6 : Int32) (s0 : OS) (ws : va_W) (H : Heap) (locs : List Loc) (ls : Array Slot), RI x1 48 122 → RI x2 0 1 → RI x3 0 1 → RI z0_3 1 940 → FLD ws p0 10 3 (.int z0_3) → RI z0_4 0 2147483647 → FLD ws p0 10 4 (.int z0_4) → RI z0_5 0 939 → FLD ws p0 10 5 (.int z0_5) → RI z0_6 0 940 → FLD ws p0 10 6 (.int z0_6) → TOP ws p0 (gh) → OV vw_MODEL Ps ws p0 s0 → 940 - z0_5.toInt < ((nf215 + 1 : Nat) : Int) → f_X10_go__2_243 (f_X10_go__2_215 nf215) x1 x2 x3 s0 = R9 → WD D cy GG A s wr_X10_go__2 wa_X10_go__2 Ps w0 Ps ws H locs → lv_has ls 5 [(0, .ref p0), (1, .int x1), (2, .int x2), (3, .int x3)] → W p l e (headSpec (Cond.code yX10_go cX10_go 5 none :: gT) ({ frames := 2, cells := 0, slots := 0, locals := 400 } : Room)).room s m ([.ref p0] : List Value).toArray below meth c H locs 0 0 Q (F0 m 243 ls []) := by
        intro x1 x2 x3 z0_3 z0_4 z0_5 z0_6 s0 ws H locs ls r_x1 r_x2 r_x3 r_z0_3 m_z0_3 r_z0_4 m_z0_4 r_z0_5 m_z0_5 r_z0_6 m_z0_6 x_TO_p0_gh o_p0 hn215 hE hw hl
        have q_z0_3 : s0.1 3 = z0_3 := OV.eqI (V := vw_MODEL) hw.2.2.1 o_p0 m_z0_3 (by decide)
        have q_z0_4 : s0.1 4 = z0_4 := OV.eqI (V := vw_MODEL) hw.2.2.1 o_p0 m_z0_4 (by decide)
        have q_z0_5 : s0.1 5 = z0_5 := OV.eqI (V := vw_MODEL) hw.2.2.1 o_p0 m_z0_5 (by decide)
        have q_z0_6 : s0.1 6 = z0_6 := OV.eqI (V := vw_MODEL) hw.2.2.1 o_p0 m_z0_6 (by decide)
        refine lv_aload_n hx hb dX10_go_243 rfl (lv_at hl 0 rfl) ?_
        refine tg_get (ci := 10) (ts := ty_MODEL) (C := RX10) (T := TX10) (N := 49) hx hb hts inX10 hown hK hw h_p0 rfl rfl 1 (by decide) (hts _ tw_1138) (fun _ h9 => h9) (ft := vR 40) rfl dX10_go_244 (fun u_21 hv_u_21 m_u_21 => ?_)
        obtain ⟨vu_21, rfl, h_vu_21⟩ := hv_u_21
        refine lv_aload_n hx hb dX10_go_247 rfl (lv_at hl 0 rfl) ?_
        refine tg_mem (ci := 10) (C := RX10) (T := TX10) (N := 49) hx hb hts inX10 hown hK hw 5 m_z0_5 rfl (by decide) (hts _ tw_1142) (fun _ h9 => h9) dX10_go_248 ?_
        refine tg_iald (lo := 0) (hi := 255) hx hb hK hw h_vu_21 rfl 0 939 r_z0_5 (by decide) (by exact fun _ _ _ => ⟨Int.le_refl _, Int.le_refl _⟩) dX10_go_251 (fun v_22 r_v_22 m_v_22 o_v_22 => ?_)
        have q_v_22 : s0.2.2.1 1 (Int32.toNatClampNeg z0_5) = v_22 := OV.eqA (V := vw_MODEL) (t := 40) hw.2.2.1 o_p0 m_u_21 m_v_22 (by decide)
        refine lv_istore (lv' := [(4, .int v_22), (0, .ref p0), (1, .int x1), (2, .int x2), (3, .int x3)]) hx hb dX10_go_252 hl (by decide) rfl (fun ls hl => ?_)
        refine lv_iload_n hx hb dX10_go_254 rfl (lv_at hl 4 rfl) ?_
        refine lv_if_eq (tgt := 271) hx hb dX10_go_255 (by decide) (fun c_255 => ?_) (fun c_255 => ?_)
        · have r_x3 : RI x3 0 0 := rc_eq1 r_x3 rl_0 (ti_eq c_255) (by decide)
          simp only [f_X10_go__2_243, ↓reduceIte, q_z0_3, q_z0_4, q_z0_5, q_z0_6, q_v_22, eq_true c_255] at hE
          exact B271 x1 x2 x3 v_22 z0_3 z0_4 z0_5 z0_6 s0 ws _ _ ls r_x1 r_x2 (r_x3.to (by decide)) r_v_22 r_z0_3 m_z0_3 r_z0_4 m_z0_4 r_z0_5 m_z0_5 r_z0_6 m_z0_6 x_TO_p0_gh o_p0 (by have q0 := r_z0_5.1; have u0 := r_z0_5.2; omega) hE hw (lv_sub hl [1, 2, 3, 4, 0] rfl)
        · have r_x3 : RI x3 1 1 := rc_neL r_x3 rl_0 (ti_ne c_255) (by decide)
          refine lv_iload hx hb dX10_go_258 (lv_at hl 0 rfl) ?_
          refine tk_ir (va_runS (As := [.int v_22]) (rest := []) ⟨hx, hb, hml, hown, hts⟩ (c_X10_isLetter__2 l D cy z H.size Ps ws hw.1 v_22 r_v_22) (va_cwS 1 hts (gS tw_1302 tw_1303 tw_15 tw_1304) rfl rfl rfl (by decide +kernel) ⟨Nat.le_of_ble_eq_true rfl, Nat.le_of_ble_eq_true rfl⟩) (tg_preS hw hK hSD hA) rfl rfl hl.1 rfl (lv_room (Nat.le_of_ble_eq_true rfl)) dX10_go_260 ⟨Nat.le_of_ble_eq_true rfl, Nat.le_of_ble_eq_true rfl⟩) hw hA (fun v_23  H locs hp_v_23 hw => ?_)
          obtain ⟨hfn, hp_v_23⟩ := hp_v_23
          have q_v_23 : (f_X10_isLetter__2 v_22) = v_23 := hfn.1
          have r_v_23 : RI v_23 0 1 := hp_v_23.1
          refine lv_iload_n hx hb dX10_go_263 rfl (lv_at hl 3 rfl) ?_
          refine lv_icmp_ne (tgt := 271) hx hb dX10_go_264 (by decide) (fun c_264 => ?_) (fun c_264 => ?_)
          · simp only [f_X10_go__2_243, ↓reduceIte, q_z0_3, q_z0_4, q_z0_5, q_z0_6, q_v_22, eq_false c_255, q_v_23, eq_false c_264] at hE
            exact B271 x1 x2 x3 v_22 z0_3 z0_4 z0_5 z0_6 s0 ws _ _ ls r_x1 r_x2 (r_x3.to (by decide)) r_v_22 r_z0_3 m_z0_3 r_z0_4 m_z0_4 r_z0_5 m_z0_5 r_z0_6 m_z0_6 x_TO_p0_gh o_p0 (by have q0 := r_z0_5.1; have u0 := r_z0_5.2; omega) hE hw (lv_sub hl [1, 2, 3, 4, 0] rfl)
          · refine lv_iconst (v := 1) hx hb dX10_go_267 (by decide) ?_
            refine lv_goto (tgt := 272) hx hb dX10_go_268 (by decide) ?_
            simp only [f_X10_go__2_243, ↓reduceIte, q_z0_3, q_z0_4, q_z0_5, q_z0_6, q_v_22, eq_false c_255, q_v_23, eq_true c_264] at hE
            exact B272 x1 x2 x3 v_22 1 z0_3 z0_4 z0_5 z0_6 s0 ws _ _ ls r_x1 r_x2 (r_x3.to (by decide)) r_v_22 (rl_1.to (by decide)) r_z0_3 m_z0_3 r_z0_4 m_z0_4 r_z0_5 m_z0_5 r_z0_6 m_z0_6 x_TO_p0_gh o_p0 (by have q0 := r_z0_5.1; have u0 := r_z0_5.2; omega) hE hw (lv_sub hl [1, 2, 3, 4, 0] rfl)
      intro x1 x2 x3 z0_3 z0_4 z0_5 z0_6 s0 ws H locs ls hn215 r_x1 r_x2 r_x3 r_z0_3 m_z0_3 r_z0_4 m_z0_4 r_z0_5 m_z0_5 r_z0_6 m_z0_6 x_TO_p0_gh o_p0 hE hw hl
      have q_z0_3 : s0.1 3 = z0_3 := OV.eqI (V := vw_MODEL) hw.2.2.1 o_p0 m_z0_3 (by decide)
      have q_z0_4 : s0.1 4 = z0_4 := OV.eqI (V := vw_MODEL) hw.2.2.1 o_p0 m_z0_4 (by decide)
      have q_z0_5 : s0.1 5 = z0_5 := OV.eqI (V := vw_MODEL) hw.2.2.1 o_p0 m_z0_5 (by decide)
      have q_z0_6 : s0.1 6 = z0_6 := OV.eqI (V := vw_MODEL) hw.2.2.1 o_p0 m_z0_6 (by decide)
      refine lv_aload_n hx hb dX10_go_215 rfl (lv_at hl 0 rfl) ?_
      refine lv_aload_n hx hb dX10_go_216 rfl (lv_at hl 0 rfl) ?_
      refine tg_mem (ci := 10) (C := RX10) (T := TX10) (N := 49) hx hb hts inX10 hown hK hw 5 m_z0_5 rfl (by decide) (hts _ tw_1142) (fun _ h9 => h9) dX10_go_217 ?_
      refine tk_ir (va_runV (As := [.int z0_5]) (rest := []) ⟨hx, hb, hml, hown, hts⟩ (c_X10_tapeAt__1 l D cy z H.size Ps ws hw.1 p0 z0_5 s0 h_p0 r_z0_5 o_p0) (cwV 1 hts (gV tw_1308 tw_1310 ts_41 tw_15 tw_1311) rfl rfl rfl (by decide +kernel) ⟨Nat.le_of_ble_eq_true rfl, Nat.le_of_ble_eq_true rfl⟩) (tg_preV hw hK hSD hA (ci := 10) (q := (RX10, TX10, 49)) rfl h_p0 rfl) rfl rfl hl.1 rfl (lv_room (Nat.le_of_ble_eq_true rfl)) dX10_go_220 ⟨Nat.le_of_ble_eq_true rfl, Nat.le_of_ble_eq_true rfl⟩) hw hA (fun v_24  H locs hp_v_24 hw => ?_)
      obtain ⟨hfn, hp_v_24⟩ := hp_v_24
      have q_v_24 : (f_X10_tapeAt__1 z0_5 s0) = v_24 := hfn.1
      have r_v_24 : RI v_24 0 255 := hp_v_24.1
      refine tk_ir (va_runS (As := [.int v_24]) (rest := []) ⟨hx, hb, hml, hown, hts⟩ (c_X10_isLetter__2 l D cy z H.size Ps ws hw.1 v_24 r_v_24) (va_cwS 1 hts (gS tw_1302 tw_1303 tw_15 tw_1304) rfl rfl rfl (by decide +kernel) ⟨Nat.le_of_ble_eq_true rfl, Nat.le_of_ble_eq_true rfl⟩) (tg_preS hw hK hSD hA) rfl rfl hl.1 rfl (lv_room (Nat.le_of_ble_eq_true rfl)) dX10_go_223 ⟨Nat.le_of_ble_eq_true rfl, Nat.le_of_ble_eq_true rfl⟩) hw hA (fun v_25  H locs hp_v_25 hw => ?_)
      obtain ⟨hfn, hp_v_25⟩ := hp_v_25
      have q_v_25 : (f_X10_isLetter__2 v_24) = v_25 := hfn.1
      have r_v_25 : RI v_25 0 1 := hp_v_25.1
      refine lv_if_ne (tgt := 243) hx hb dX10_go_226 (by decide) (fun c_226 => ?_) (fun c_226 => ?_)
      · have r_v_25 : RI v_25 1 1 := rc_neL r_v_25 rl_0 (ti_ne c_226) (by decide)
        have r_v_24 : RI v_24 97 122 := ((hp_v_25.2.2 c_226).1)
        have r_z0_5 : RI z0_5 0 939 := ((hp_v_24.2.2 (ri_ne0 r_v_24 (by decide))).1)
        simp only [f_X10_go__2_215, ↓reduceIte, q_z0_3, q_z0_4, q_z0_5, q_z0_6, q_v_24, q_v_25, eq_false c_226] at hE
        exact B243 x1 x2 x3 z0_3 z0_4 z0_5 z0_6 s0 ws _ _ ls r_x1 r_x2 r_x3 r_z0_3 m_z0_3 r_z0_4 m_z0_4 r_z0_5 m_z0_5 r_z0_6 m_z0_6 x_TO_p0_gh o_p0 (by have q0 := r_z0_5.1; have u0 := r_z0_5.2; omega) hE hw hl
      · have r_v_25 : RI v_25 0 0 := rc_eq1 r_v_25 rl_0 (ti_eq c_226) (by decide)
        refine lv_aload_n hx hb dX10_go_229 rfl (lv_at hl 0 rfl) ?_
        refine lv_aload_n hx hb dX10_go_230 rfl (lv_at hl 0 rfl) ?_
        refine tg_mem (ci := 10) (C := RX10) (T := TX10) (N := 49) hx hb hts inX10 hown hK hw 5 m_z0_5 rfl (by decide) (hts _ tw_1142) (fun _ h9 => h9) dX10_go_231 ?_
        refine tk_ir (va_runV (As := [.int z0_5]) (rest := []) ⟨hx, hb, hml, hown, hts⟩ (c_X10_tapeAt__1 l D cy z H.size Ps ws hw.1 p0 z0_5 s0 h_p0 r_z0_5 o_p0) (cwV 1 hts (gV tw_1308 tw_1310 ts_41 tw_15 tw_1311) rfl rfl rfl (by decide +kernel) ⟨Nat.le_of_ble_eq_true rfl, Nat.le_of_ble_eq_true rfl⟩) (tg_preV hw hK hSD hA (ci := 10) (q := (RX10, TX10, 49)) rfl h_p0 rfl) rfl rfl hl.1 rfl (lv_room (Nat.le_of_ble_eq_true rfl)) dX10_go_234 ⟨Nat.le_of_ble_eq_true rfl, Nat.le_of_ble_eq_true rfl⟩) hw hA (fun v_26  H locs hp_v_26 hw => ?_)
        obtain ⟨hfn, hp_v_26⟩ := hp_v_26
        have z9 : v_24 = v_26 := q_v_24.symm.trans (hfn.1)
        subst z9
        have r_v_24 : RI v_24 0 255 := hp_v_26.1
        refine tk_ir (va_runS (As := [.int v_24]) (rest := []) ⟨hx, hb, hml, hown, hts⟩ (c_X10_isDigit__1 l D cy z H.size Ps ws hw.1 v_24 r_v_24) (va_cwS 1 hts (gS tw_1305 tw_1306 tw_15 tw_1307) rfl rfl rfl (by decide +kernel) ⟨Nat.le_of_ble_eq_true rfl, Nat.le_of_ble_eq_true rfl⟩) (tg_preS hw hK hSD hA) rfl rfl hl.1 rfl (lv_room (Nat.le_of_ble_eq_true rfl)) dX10_go_237 ⟨Nat.le_of_ble_eq_true rfl, Nat.le_of_ble_eq_true rfl⟩) hw hA (fun v_27  H locs hp_v_27 hw => ?_)
        obtain ⟨hfn, hp_v_27⟩ := hp_v_27
        have q_v_27 : (f_X10_isDigit__1 v_24) = v_27 := hfn.1
        have r_v_27 : RI v_27 0 1 := hp_v_27.1
        refine lv_if_eq (tgt := 350) hx hb dX10_go_240 (by decide) (fun c_240 => ?_) (fun c_240 => ?_)
        · have r_v_27 : RI v_27 0 0 := rc_eq1 r_v_27 rl_0 (ti_eq c_240) (by decide)
          refine lv_aload_n hx hb dX10_go_350 rfl (lv_at hl 0 rfl) ?_
          refine lv_iload_n hx hb dX10_go_351 rfl (lv_at hl 3 rfl) ?_
          refine lv_if_eq (tgt := 377) hx hb dX10_go_352 (by decide) (fun c_352 => ?_) (fun c_352 => ?_)
          · have r_x3 : RI x3 0 0 := rc_eq1 r_x3 rl_0 (ti_eq c_352) (by decide)
            simp only [f_X10_go__2_215, ↓reduceIte, q_z0_3, q_z0_4, q_z0_5, q_z0_6, q_v_24, q_v_25, eq_true c_226, q_v_27, eq_true c_240, eq_true c_352] at hE
            exact B377 x1 x2 x3 z0_3 z0_4 z0_5 z0_6 s0 ws _ _ ls r_x1 r_x2 (r_x3.to (by decide)) r_z0_3 m_z0_3 r_z0_4 m_z0_4 r_z0_5 m_z0_5 r_z0_6 m_z0_6 x_TO_p0_gh o_p0 hE hw hl
          · have r_x3 : RI x3 1 1 := rc_neL r_x3 rl_0 (ti_ne c_352) (by decide)
            refine lv_aload_n hx hb dX10_go_355 rfl (lv_at hl 0 rfl) ?_
            refine tg_mem (ci := 10) (C := RX10) (T := TX10) (N := 49) hx hb hts inX10 hown hK hw 5 m_z0_5 rfl (by decide) (hts _ tw_1142) (fun _ h9 => h9) dX10_go_356 ?_
            refine lv_aload_n hx hb dX10_go_359 rfl (lv_at hl 0 rfl) ?_
            refine tg_mem (ci := 10) (C := RX10) (T := TX10) (N := 49) hx hb hts inX10 hown hK hw 6 m_z0_6 rfl (by decide) (hts _ tw_1143) (fun _ h9 => h9) dX10_go_360 ?_
            refine lv_isub hx hb dX10_go_363 (lv_topi (fun v_28 e_v_28 => ?_))
            obtain ⟨t_v_28, r_v_28⟩ := tq_sub (lo := (-940)) (hi := 940) r_z0_5 r_z0_6 (by decide +kernel) e_v_28
            have q_v_28 : z0_5 - z0_6 = v_28 := e_v_28.symm
            refine lv_iload_n hx hb dX10_go_364 rfl (lv_at hl 2 rfl) ?_
            refine lv_if_eq (tgt := 373) hx hb dX10_go_365 (by decide) (fun c_365 => ?_) (fun c_365 => ?_)
            · have r_x2 : RI x2 0 0 := rc_eq1 r_x2 rl_0 (ti_eq c_365) (by decide)
              refine lv_iconst (v := 3) hx hb dX10_go_373 (by decide) ?_
              simp only [f_X10_go__2_215, ↓reduceIte, q_z0_3, q_z0_4, q_z0_5, q_z0_6, q_v_24, q_v_25, eq_true c_226, q_v_27, eq_true c_240, eq_false c_352, q_v_28, eq_true c_365] at hE
              exact B374 x1 x2 x3 3 v_28 z0_3 z0_4 z0_5 z0_6 s0 ws _ _ ls r_x1 (r_x2.to (by decide)) r_x3 (rl_3.to (by decide)) r_v_28 r_z0_3 m_z0_3 r_z0_4 m_z0_4 r_z0_5 m_z0_5 r_z0_6 m_z0_6 x_TO_p0_gh o_p0 hE hw hl
            · have r_x2 : RI x2 1 1 := rc_neL r_x2 rl_0 (ti_ne c_365) (by decide)
              refine lv_bipush (v := 7) hx hb dX10_go_368 (by decide) ?_
              refine lv_goto (tgt := 374) hx hb dX10_go_370 (by decide) ?_
              simp only [f_X10_go__2_215, ↓reduceIte, q_z0_3, q_z0_4, q_z0_5, q_z0_6, q_v_24, q_v_25, eq_true c_226, q_v_27, eq_true c_240, eq_false c_352, q_v_28, eq_false c_365] at hE
              exact B374 x1 x2 x3 7 v_28 z0_3 z0_4 z0_5 z0_6 s0 ws _ _ ls r_x1 (r_x2.to (by decide)) r_x3 (rl_7.to (by decide)) r_v_28 r_z0_3 m_z0_3 r_z0_4 m_z0_4 r_z0_5 m_z0_5 r_z0_6 m_z0_6 x_TO_p0_gh o_p0 hE hw hl
        · have r_v_27 : RI v_27 1 1 := rc_neL r_v_27 rl_0 (ti_ne c_240) (by decide)
          have r_v_24 : RI v_24 48 57 := ((hp_v_27.2.2 c_240).1)
          have r_z0_5 : RI z0_5 0 939 := ((hp_v_26.2.2 (ri_ne0 r_v_24 (by decide))).1)
          simp only [f_X10_go__2_215, ↓reduceIte, q_z0_3, q_z0_4, q_z0_5, q_z0_6, q_v_24, q_v_25, eq_true c_226, q_v_27, eq_false c_240] at hE
          exact B243 x1 x2 x3 z0_3 z0_4 z0_5 z0_6 s0 ws _ _ ls r_x1 r_x2 r_x3 r_z0_3 m_z0_3 r_z0_4 m_z0_4 r_z0_5 m_z0_5 r_z0_6 m_z0_6 x_TO_p0_gh o_p0 (by have q0 := r_z0_5.1; have u0 := r_z0_5.2; omega) hE hw hl
  have B198 : ∀ (x1 : Int32) (z0_3 : Int32) (z0_4 : Int32) (z0_5 : Int32) (z0_6 : Int32) (s0 : OS) (ws : va_W) (H : Heap) (locs : List Loc) (ls : Array Slot), RI x1 48 122 → RI z0_3 1 940 → FLD ws p0 10 3 (.int z0_3) → RI z0_4 0 2147483647 → FLD ws p0 10 4 (.int z0_4) → RI z0_5 0 939 → FLD ws p0 10 5 (.int z0_5) → RI z0_6 0 940 → FLD ws p0 10 6 (.int z0_6) → TOP ws p0 (gh) → OV vw_MODEL Ps ws p0 s0 → f_X10_go__2_198 x1 s0 = R9 → WD D cy GG A s wr_X10_go__2 wa_X10_go__2 Ps w0 Ps ws H locs → lv_has ls 5 [(0, .ref p0), (1, .int x1)] → W p l e (headSpec (Cond.code yX10_go cX10_go 5 none :: gT) ({ frames := 2, cells := 0, slots := 0, locals := 400 } : Room)).room s m ([.ref p0] : List Value).toArray below meth c H locs 0 0 Q (F0 m 198 ls []) := by
    intro x1 z0_3 z0_4 z0_5 z0_6 s0 ws H locs ls r_x1 r_z0_3 m_z0_3 r_z0_4 m_z0_4 r_z0_5 m_z0_5 r_z0_6 m_z0_6 x_TO_p0_gh o_p0 hE hw hl
    have q_z0_3 : s0.1 3 = z0_3 := OV.eqI (V := vw_MODEL) hw.2.2.1 o_p0 m_z0_3 (by decide)
    have q_z0_4 : s0.1 4 = z0_4 := OV.eqI (V := vw_MODEL) hw.2.2.1 o_p0 m_z0_4 (by decide)
    have q_z0_5 : s0.1 5 = z0_5 := OV.eqI (V := vw_MODEL) hw.2.2.1 o_p0 m_z0_5 (by decide)
    have q_z0_6 : s0.1 6 = z0_6 := OV.eqI (V := vw_MODEL) hw.2.2.1 o_p0 m_z0_6 (by decide)
    refine lv_iload_n hx hb dX10_go_198 rfl (lv_at hl 1 rfl) ?_
    refine tk_ir (va_runS (As := [.int x1]) (rest := []) ⟨hx, hb, hml, hown, hts⟩ (c_X10_isLetter__3 l D cy z H.size Ps ws hw.1 x1 r_x1) (va_cwS 1 hts (gS tw_1302 tw_1303 tw_15 tw_1304) rfl rfl rfl (by decide +kernel) ⟨Nat.le_of_ble_eq_true rfl, Nat.le_of_ble_eq_true rfl⟩) (tg_preS hw hK hSD hA) rfl rfl hl.1 rfl (lv_room (Nat.le_of_ble_eq_true rfl)) dX10_go_199 ⟨Nat.le_of_ble_eq_true rfl, Nat.le_of_ble_eq_true rfl⟩) hw hA (fun v_29  H locs hp_v_29 hw => ?_)
    obtain ⟨hfn, hp_v_29⟩ := hp_v_29
    have q_v_29 : (f_X10_isLetter__3 x1) = v_29 := hfn.1
    have r_v_29 : RI v_29 0 1 := hp_v_29.1
    refine lv_istore_n (lv' := [(2, .int v_29), (0, .ref p0), (1, .int x1)]) hx hb dX10_go_202 rfl hl (by decide) rfl (fun ls hl => ?_)
    refine lv_iconst (v := 1) hx hb dX10_go_203 (by decide) ?_
    refine lv_istore_n (lv' := [(3, .int 1), (2, .int v_29), (0, .ref p0), (1, .int x1)]) hx hb dX10_go_204 rfl hl (by decide) rfl (fun ls hl => ?_)
    refine lv_aload_n hx hb dX10_go_205 rfl (lv_at hl 2 rfl) ?_
    refine lv_lconst (v := 0) hx hb dX10_go_206 (by decide) ?_
    refine tg_put (ci := 10) (ts := ty_MODEL) (v := .long 0) (ty := .long) (C := RX10) (T := TX10) (N := 49) hx hb hts inX10 tyX10 tyX10_ok nmX10 hown hK hw h_p0 rfl rfl 12 (by decide) (hts _ tw_1149) (fun _ h9 => h9) rfl (by decide +kernel) rfl rfl (ft := vJ (-9223372036854775808) 9223372036854775807) rfl ⟨_, rfl, rk_0.to (by decide)⟩ (by decide) dX10_go_207 (fun ws H locs hw n_k_30 hF9 => ?_)
    have m_z0_3 := FLD.over hF9 m_z0_3 (by decide)
    have m_z0_4 := FLD.over hF9 m_z0_4 (by decide)
    have m_z0_5 := FLD.over hF9 m_z0_5 (by decide)
    have m_z0_6 := FLD.over hF9 m_z0_6 (by decide)
    have x_TO_p0_gh := TOP.over hF9 x_TO_p0_gh (by decide)
    obtain ⟨sg_31, q_sg_31⟩ : ∃ q9 : OS, sL s0 12 (0 : Int64) = q9 := ⟨_, rfl⟩
    have o_p0 : OV vw_MODEL Ps ws p0 sg_31 := by rw [← q_sg_31]; exact OV.putL (V := vw_MODEL) hF9 n_k_30 o_p0 (by decide)
    refine lv_aload_n hx hb dX10_go_210 rfl (lv_at hl 2 rfl) ?_
    refine lv_iconst (v := 0) hx hb dX10_go_211 (by decide) ?_
    refine tg_put (ci := 10) (ts := ty_MODEL) (v := .int 0) (ty := .int) (C := RX10) (T := TX10) (N := 49) hx hb hts inX10 tyX10 tyX10_ok nmX10 hown hK hw h_p0 rfl rfl 8 (by decide) (hts _ tw_1145) (fun _ h9 => h9) rfl (by decide +kernel) rfl rfl (ft := vI (-2147483648) 2147483647) rfl ⟨_, rfl, (rl_0.to (by decide))⟩ (by decide) dX10_go_212 (fun ws H locs hw n_k_32 hF9 => ?_)
    have m_z0_3 := FLD.over hF9 m_z0_3 (by decide)
    have m_z0_4 := FLD.over hF9 m_z0_4 (by decide)
    have m_z0_5 := FLD.over hF9 m_z0_5 (by decide)
    have m_z0_6 := FLD.over hF9 m_z0_6 (by decide)
    have x_TO_p0_gh := TOP.over hF9 x_TO_p0_gh (by decide)
    obtain ⟨sg_33, q_sg_33⟩ : ∃ q9 : OS, sI sg_31 8 (0 : Int32) = q9 := ⟨_, rfl⟩
    have o_p0 : OV vw_MODEL Ps ws p0 sg_33 := by rw [← q_sg_33]; exact OV.putI (V := vw_MODEL) hF9 n_k_32 o_p0 (by decide)
    simp only [f_X10_go__2_198, ↓reduceIte, q_z0_3, q_z0_4, q_z0_5, q_z0_6, q_v_29, q_sg_31, q_sg_33] at hE
    exact B215 4294967298 x1 v_29 1 z0_3 z0_4 z0_5 z0_6 sg_33 ws _ _ ls (by have q0 := r_z0_5.1; have u0 := r_z0_5.2; omega) r_x1 r_v_29 (rl_1.to (by decide)) r_z0_3 m_z0_3 r_z0_4 m_z0_4 (r_z0_5.to (by decide)) m_z0_5 r_z0_6 m_z0_6 x_TO_p0_gh o_p0 hE hw (lv_sub hl [2, 3, 1, 0] rfl)
  have B179 : ∀ (x1 : Int32) (y0 : Int32) (z0_3 : Int32) (z0_4 : Int32) (z0_5 : Int32) (z0_6 : Int32) (s0 : OS) (ws : va_W) (H : Heap) (locs : List Loc) (ls : Array Slot), RI x1 0 255 → RI y0 1 4 → RI z0_3 1 940 → FLD ws p0 10 3 (.int z0_3) → RI z0_4 0 2147483647 → FLD ws p0 10 4 (.int z0_4) → RI z0_5 0 939 → FLD ws p0 10 5 (.int z0_5) → RI z0_6 0 940 → FLD ws p0 10 6 (.int z0_6) → TOP ws p0 (gh) → OV vw_MODEL Ps ws p0 s0 → f_X10_go__2_179 x1 y0 s0 = R9 → WD D cy GG A s wr_X10_go__2 wa_X10_go__2 Ps w0 Ps ws H locs → lv_has ls 5 [(0, .ref p0), (1, .int x1)] → W p l e (headSpec (Cond.code yX10_go cX10_go 5 none :: gT) ({ frames := 2, cells := 0, slots := 0, locals := 400 } : Room)).room s m ([.ref p0] : List Value).toArray below meth c H locs 0 0 Q (F0 m 179 ls [.int y0, .ref p0]) := by
    intro x1 y0 z0_3 z0_4 z0_5 z0_6 s0 ws H locs ls r_x1 r_y0 r_z0_3 m_z0_3 r_z0_4 m_z0_4 r_z0_5 m_z0_5 r_z0_6 m_z0_6 x_TO_p0_gh o_p0 hE hw hl
    have q_z0_3 : s0.1 3 = z0_3 := OV.eqI (V := vw_MODEL) hw.2.2.1 o_p0 m_z0_3 (by decide)
    have q_z0_4 : s0.1 4 = z0_4 := OV.eqI (V := vw_MODEL) hw.2.2.1 o_p0 m_z0_4 (by decide)
    have q_z0_5 : s0.1 5 = z0_5 := OV.eqI (V := vw_MODEL) hw.2.2.1 o_p0 m_z0_5 (by decide)
    have q_z0_6 : s0.1 6 = z0_6 := OV.eqI (V := vw_MODEL) hw.2.2.1 o_p0 m_z0_6 (by decide)
    refine tg_put (ci := 10) (ts := ty_MODEL) (v := .int y0) (ty := .int) (C := RX10) (T := TX10) (N := 49) hx hb hts inX10 tyX10 tyX10_ok nmX10 hown hK hw h_p0 rfl rfl 7 (by decide) (hts _ tw_1144) (fun _ h9 => h9) rfl (by decide +kernel) rfl rfl (ft := vI (-2147483648) 2147483647) rfl ⟨_, rfl, (r_y0.to (by decide))⟩ (by decide) dX10_go_179 (fun ws H locs hw n_k_34 hF9 => ?_)
    have m_z0_3 := FLD.over hF9 m_z0_3 (by decide)
    have m_z0_4 := FLD.over hF9 m_z0_4 (by decide)
    have m_z0_5 := FLD.over hF9 m_z0_5 (by decide)
    have m_z0_6 := FLD.over hF9 m_z0_6 (by decide)
    have x_TO_p0_gh := TOP.over hF9 x_TO_p0_gh (by decide)
    obtain ⟨sg_35, q_sg_35⟩ : ∃ q9 : OS, sI s0 7 y0 = q9 := ⟨_, rfl⟩
    have o_p0 : OV vw_MODEL Ps ws p0 sg_35 := by rw [← q_sg_35]; exact OV.putI (V := vw_MODEL) hF9 n_k_34 o_p0 (by decide)
    refine lv_aload_n hx hb dX10_go_182 rfl (lv_at hl 0 rfl) ?_
    refine lv_iload_n hx hb dX10_go_183 rfl (lv_at hl 1 rfl) ?_
    refine tg_put (ci := 10) (ts := ty_MODEL) (v := .int x1) (ty := .int) (C := RX10) (T := TX10) (N := 49) hx hb hts inX10 tyX10 tyX10_ok nmX10 hown hK hw h_p0 rfl rfl 9 (by decide) (hts _ tw_1146) (fun _ h9 => h9) rfl (by decide +kernel) rfl rfl (ft := vI (-2147483648) 2147483647) rfl ⟨_, rfl, (r_x1.to (by decide))⟩ (by decide) dX10_go_184 (fun ws H locs hw n_k_36 hF9 => ?_)
    have m_z0_3 := FLD.over hF9 m_z0_3 (by decide)
    have m_z0_4 := FLD.over hF9 m_z0_4 (by decide)
    have m_z0_5 := FLD.over hF9 m_z0_5 (by decide)
    have m_z0_6 := FLD.over hF9 m_z0_6 (by decide)
    have n_k_34 := FLD.over hF9 n_k_34 (by decide)
    have x_TO_p0_gh := TOP.over hF9 x_TO_p0_gh (by decide)
    obtain ⟨sg_37, q_sg_37⟩ : ∃ q9 : OS, sI sg_35 9 x1 = q9 := ⟨_, rfl⟩
    have o_p0 : OV vw_MODEL Ps ws p0 sg_37 := by rw [← q_sg_37]; exact OV.putI (V := vw_MODEL) hF9 n_k_36 o_p0 (by decide)
    refine lv_aload_n hx hb dX10_go_187 rfl (lv_at hl 0 rfl) ?_
    refine lv_dup hx hb dX10_go_188 rfl ?_
    refine tg_mem (ci := 10) (C := RX10) (T := TX10) (N := 49) hx hb hts inX10 hown hK hw 5 m_z0_5 rfl (by decide) (hts _ tw_1142) (fun _ h9 => h9) dX10_go_189 ?_
    refine lv_iconst (v := 1) hx hb dX10_go_192 (by decide) ?_
    refine lv_iadd hx hb dX10_go_193 (lv_topi (fun v_38 e_v_38 => ?_))
    obtain ⟨t_v_38, r_v_38⟩ := tq_add (lo := 1) (hi := 940) r_z0_5 rl_1 (by decide +kernel) e_v_38
    have t_v_38 : v_38.toInt = z0_5.toInt + 1 := t_v_38
    have q_v_38 : z0_5 + (1 : Int32) = v_38 := e_v_38.symm
    have g9 := TOP.get hw x_TO_p0_gh m_z0_5
    refine tg_put (ci := 10) (ts := ty_MODEL) (v := .int v_38) (ty := .int) (C := RX10) (T := TX10) (N := 49) hx hb hts inX10 tyX10 tyX10_ok nmX10 hown hK hw h_p0 rfl rfl 5 (by decide) (hts _ tw_1142) (fun _ h9 => h9) rfl (by decide +kernel) rfl rfl (ft := vI 0 940) rfl ⟨_, rfl, (r_v_38.to (by decide))⟩ (by decide) dX10_go_194 (fun ws H locs hw n_k_39 hF9 => ?_)
    have m_z0_3 := FLD.over hF9 m_z0_3 (by decide)
    have m_z0_4 := FLD.over hF9 m_z0_4 (by decide)
    have m_z0_6 := FLD.over hF9 m_z0_6 (by decide)
    have n_k_34 := FLD.over hF9 n_k_34 (by decide)
    have n_k_36 := FLD.over hF9 n_k_36 (by decide)
    obtain ⟨sg_40, q_sg_40⟩ : ∃ q9 : OS, sI sg_37 5 v_38 = q9 := ⟨_, rfl⟩
    have o_p0 : OV vw_MODEL Ps ws p0 sg_40 := by rw [← q_sg_40]; exact OV.putI (V := vw_MODEL) hF9 n_k_39 o_p0 (by decide)
    have x_TO_p0_gh : TOP ws p0 (gh) := ⟨_, n_k_39, by have k1 := r_v_38.2; omega, by have k1 := r_v_38.2; omega⟩
    have g8 := TOP.get hw x_TO_p0_gh n_k_39
    have x_TOK_p0_gh : TKP ws p0 (gh) := ⟨_, _, n_k_39, n_k_34, g8, r_v_38.2, fun h9 => by have k1 := r_y0; unfold RI at k1; omega⟩
    simp only [f_X10_go__2_179, ↓reduceIte, q_z0_3, q_z0_4, q_z0_5, q_z0_6, q_sg_35, q_sg_37, q_v_38, q_sg_40] at hE
    subst hQ
    exact W.vret hx hb hr (fun t ht hW => ⟨⟨ws, rfl, ⟨⟨⟨(by rw [hR, ← hE]; exact o_p0), trivial⟩, ⟨x_TOK_p0_gh, trivial⟩⟩, hw.1, hw.2.2.2.2.1⟩, by rw [ht]; exact hw.2.1, va_K.moved hW.alike hK, hw.2.2.1⟩, hw.2.2.2.1.F ht⟩) hw.2.2.2.1.2.2 dX10_go_197
  have B174 : ∀ (x1 : Int32) (z0_3 : Int32) (z0_4 : Int32) (z0_5 : Int32) (z0_6 : Int32) (s0 : OS) (ws : va_W) (H : Heap) (locs : List Loc) (ls : Array Slot), RI x1 40 62 → RI z0_3 1 940 → FLD ws p0 10 3 (.int z0_3) → RI z0_4 0 2147483647 → FLD ws p0 10 4 (.int z0_4) → RI z0_5 0 939 → FLD ws p0 10 5 (.int z0_5) → RI z0_6 0 940 → FLD ws p0 10 6 (.int z0_6) → TOP ws p0 (gh) → OV vw_MODEL Ps ws p0 s0 → f_X10_go__2_174 x1 s0 = R9 → WD D cy GG A s wr_X10_go__2 wa_X10_go__2 Ps w0 Ps ws H locs → lv_has ls 5 [(0, .ref p0), (1, .int x1)] → W p l e (headSpec (Cond.code yX10_go cX10_go 5 none :: gT) ({ frames := 2, cells := 0, slots := 0, locals := 400 } : Room)).room s m ([.ref p0] : List Value).toArray below meth c H locs 0 0 Q (F0 m 174 ls [.ref p0]) := by
    intro x1 z0_3 z0_4 z0_5 z0_6 s0 ws H locs ls r_x1 r_z0_3 m_z0_3 r_z0_4 m_z0_4 r_z0_5 m_z0_5 r_z0_6 m_z0_6 x_TO_p0_gh o_p0 hE hw hl
    have q_z0_3 : s0.1 3 = z0_3 := OV.eqI (V := vw_MODEL) hw.2.2.1 o_p0 m_z0_3 (by decide)
    have q_z0_4 : s0.1 4 = z0_4 := OV.eqI (V := vw_MODEL) hw.2.2.1 o_p0 m_z0_4 (by decide)
    have q_z0_5 : s0.1 5 = z0_5 := OV.eqI (V := vw_MODEL) hw.2.2.1 o_p0 m_z0_5 (by decide)
    have q_z0_6 : s0.1 6 = z0_6 := OV.eqI (V := vw_MODEL) hw.2.2.1 o_p0 m_z0_6 (by decide)
    refine lv_iconst (v := 4) hx hb dX10_go_174 (by decide) ?_
    refine lv_goto (tgt := 179) hx hb dX10_go_175 (by decide) ?_
    simp only [f_X10_go__2_174, ↓reduceIte, q_z0_3, q_z0_4, q_z0_5, q_z0_6] at hE
    exact B179 x1 4 z0_3 z0_4 z0_5 z0_6 s0 ws _ _ ls (r_x1.to (by decide)) (rl_4.to (by decide)) r_z0_3 m_z0_3 r_z0_4 m_z0_4 r_z0_5 m_z0_5 r_z0_6 m_z0_6 x_TO_p0_gh o_p0 hE hw hl
  have B96 : ∀ (z0_4 : Int32) (z0_5 : Int32) (z0_6 : Int32) (s0 : OS) (ws : va_W) (H : Heap) (locs : List Loc) (ls : Array Slot), RI z0_4 0 2147483647 → FLD ws p0 10 4 (.int z0_4) → RI z0_5 0 940 → FLD ws p0 10 5 (.int z0_5) → RI z0_6 0 940 → FLD ws p0 10 6 (.int z0_6) → TOP ws p0 (gh) → OV vw_MODEL Ps ws p0 s0 → f_X10_go__2_96 s0 = R9 → WD D cy GG A s wr_X10_go__2 wa_X10_go__2 Ps w0 Ps ws H locs → lv_has ls 5 [(0, .ref p0)] → W p l e (headSpec (Cond.code yX10_go cX10_go 5 none :: gT) ({ frames := 2, cells := 0, slots := 0, locals := 400 } : Room)).room s m ([.ref p0] : List Value).toArray below meth c H locs 0 0 Q (F0 m 96 ls []) := by
    intro z0_4 z0_5 z0_6 s0 ws H locs ls r_z0_4 m_z0_4 r_z0_5 m_z0_5 r_z0_6 m_z0_6 x_TO_p0_gh o_p0 hE hw hl
    have q_z0_4 : s0.1 4 = z0_4 := OV.eqI (V := vw_MODEL) hw.2.2.1 o_p0 m_z0_4 (by decide)
    have q_z0_5 : s0.1 5 = z0_5 := OV.eqI (V := vw_MODEL) hw.2.2.1 o_p0 m_z0_5 (by decide)
    have q_z0_6 : s0.1 6 = z0_6 := OV.eqI (V := vw_MODEL) hw.2.2.1 o_p0 m_z0_6 (by decide)
    refine lv_aload_n hx hb dX10_go_96 rfl (lv_at hl 0 rfl) ?_
    refine tg_mem (ci := 10) (C := RX10) (T := TX10) (N := 49) hx hb hts inX10 hown hK hw 5 m_z0_5 rfl (by decide) (hts _ tw_1142) (fun _ h9 => h9) dX10_go_97 ?_
    refine lv_aload_n hx hb dX10_go_100 rfl (lv_at hl 0 rfl) ?_
    refine tg_get (ci := 10) (ts := ty_MODEL) (C := RX10) (T := TX10) (N := 49) hx hb hts inX10 hown hK hw h_p0 rfl rfl 3 (by decide) (hts _ tw_1140) (fun _ h9 => h9) (ft := vI 0 940) rfl dX10_go_101 (fun u_41 hv_u_41 m_u_41 => ?_)
    obtain ⟨vu_41, rfl, r_vu_41⟩ := hv_u_41
    have q_vu_41 : s0.1 3 = vu_41 := OV.eqI (V := vw_MODEL) hw.2.2.1 o_p0 m_u_41 (by decide)
    refine lv_icmp_lt (tgt := 113) hx hb dX10_go_104 (by decide) (fun c_104 => ?_) (fun c_104 => ?_)
    · have r_z0_5 : RI z0_5 0 939 := rc_lt1 r_z0_5 r_vu_41 (ti_lt c_104) (by decide)
      have r_vu_41 : RI vu_41 1 940 := rc_lt2 r_z0_5 r_vu_41 (ti_lt c_104) (by decide)
      refine lv_aload_n hx hb dX10_go_113 rfl (lv_at hl 0 rfl) ?_
      refine tg_get (ci := 10) (ts := ty_MODEL) (C := RX10) (T := TX10) (N := 49) hx hb hts inX10 hown hK hw h_p0 rfl rfl 1 (by decide) (hts _ tw_1138) (fun _ h9 => h9) (ft := vR 40) rfl dX10_go_114 (fun u_42 hv_u_42 m_u_42 => ?_)
      obtain ⟨vu_42, rfl, h_vu_42⟩ := hv_u_42
      refine lv_aload_n hx hb dX10_go_117 rfl (lv_at hl 0 rfl) ?_
      refine tg_mem (ci := 10) (C := RX10) (T := TX10) (N := 49) hx hb hts inX10 hown hK hw 5 m_z0_5 rfl (by decide) (hts _ tw_1142) (fun _ h9 => h9) dX10_go_118 ?_
      refine tg_iald (lo := 0) (hi := 255) hx hb hK hw h_vu_42 rfl 0 939 r_z0_5 (by decide) (by exact fun _ _ _ => ⟨Int.le_refl _, Int.le_refl _⟩) dX10_go_121 (fun v_43 r_v_43 m_v_43 o_v_43 => ?_)
      have q_v_43 : s0.2.2.1 1 (Int32.toNatClampNeg z0_5) = v_43 := OV.eqA (V := vw_MODEL) (t := 40) hw.2.2.1 o_p0 m_u_42 m_v_43 (by decide)
      refine lv_istore_n (lv' := [(1, .int v_43), (0, .ref p0)]) hx hb dX10_go_122 rfl hl (by decide) rfl (fun ls hl => ?_)
      refine lv_iload_n hx hb dX10_go_123 rfl (lv_at hl 0 rfl) ?_
      refine tk_ir (va_runS (As := [.int v_43]) (rest := []) ⟨hx, hb, hml, hown, hts⟩ (c_X10_isLetter__2 l D cy z H.size Ps ws hw.1 v_43 r_v_43) (va_cwS 1 hts (gS tw_1302 tw_1303 tw_15 tw_1304) rfl rfl rfl (by decide +kernel) ⟨Nat.le_of_ble_eq_true rfl, Nat.le_of_ble_eq_true rfl⟩) (tg_preS hw hK hSD hA) rfl rfl hl.1 rfl (lv_room (Nat.le_of_ble_eq_true rfl)) dX10_go_124 ⟨Nat.le_of_ble_eq_true rfl, Nat.le_of_ble_eq_true rfl⟩) hw hA (fun v_44  H locs hp_v_44 hw => ?_)
      obtain ⟨hfn, hp_v_44⟩ := hp_v_44
      have q_v_44 : (f_X10_isLetter__2 v_43) = v_44 := hfn.1
      have r_v_44 : RI v_44 0 1 := hp_v_44.1
      refine lv_if_ne (tgt := 198) hx hb dX10_go_127 (by decide) (fun c_127 => ?_) (fun c_127 => ?_)
      · have r_v_44 : RI v_44 1 1 := rc_neL r_v_44 rl_0 (ti_ne c_127) (by decide)
        have r_v_43 : RI v_43 97 122 := ((hp_v_44.2.2 c_127).1)
        simp only [f_X10_go__2_96, ↓reduceIte, q_z0_4, q_z0_5, q_z0_6, q_vu_41, eq_true c_104, q_v_43, q_v_44, eq_false c_127] at hE
        exact B198 v_43 vu_41 z0_4 z0_5 z0_6 s0 ws _ _ ls (r_v_43.to (by decide)) r_vu_41 m_u_41 r_z0_4 m_z0_4 r_z0_5 m_z0_5 r_z0_6 m_z0_6 x_TO_p0_gh o_p0 hE hw (lv_sub hl [1, 0] rfl)
      · have r_v_44 : RI v_44 0 0 := rc_eq1 r_v_44 rl_0 (ti_eq c_127) (by decide)
        refine lv_iload_n hx hb dX10_go_130 rfl (lv_at hl 0 rfl) ?_
        refine tk_ir (va_runS (As := [.int v_43]) (rest := []) ⟨hx, hb, hml, hown, hts⟩ (c_X10_isDigit__1 l D cy z H.size Ps ws hw.1 v_43 r_v_43) (va_cwS 1 hts (gS tw_1305 tw_1306 tw_15 tw_1307) rfl rfl rfl (by decide +kernel) ⟨Nat.le_of_ble_eq_true rfl, Nat.le_of_ble_eq_true rfl⟩) (tg_preS hw hK hSD hA) rfl rfl hl.1 rfl (lv_room (Nat.le_of_ble_eq_true rfl)) dX10_go_131 ⟨Nat.le_of_ble_eq_true rfl, Nat.le_of_ble_eq_true rfl⟩) hw hA (fun v_45  H locs hp_v_45 hw => ?_)
        obtain ⟨hfn, hp_v_45⟩ := hp_v_45
        have q_v_45 : (f_X10_isDigit__1 v_43) = v_45 := hfn.1
        have r_v_45 : RI v_45 0 1 := hp_v_45.1
        refine lv_if_ne (tgt := 198) hx hb dX10_go_134 (by decide) (fun c_134 => ?_) (fun c_134 => ?_)
        · have r_v_45 : RI v_45 1 1 := rc_neL r_v_45 rl_0 (ti_ne c_134) (by decide)
          have r_v_43 : RI v_43 48 57 := ((hp_v_45.2.2 c_134).1)
          simp only [f_X10_go__2_96, ↓reduceIte, q_z0_4, q_z0_5, q_z0_6, q_vu_41, eq_true c_104, q_v_43, q_v_44, eq_true c_127, q_v_45, eq_false c_134] at hE
          exact B198 v_43 vu_41 z0_4 z0_5 z0_6 s0 ws _ _ ls (r_v_43.to (by decide)) r_vu_41 m_u_41 r_z0_4 m_z0_4 r_z0_5 m_z0_5 r_z0_6 m_z0_6 x_TO_p0_gh o_p0 hE hw (lv_sub hl [1, 0] rfl)
        · have r_v_45 : RI v_45 0 0 := rc_eq1 r_v_45 rl_0 (ti_eq c_134) (by decide)
          refine lv_aload_n hx hb dX10_go_137 rfl (lv_at hl 1 rfl) ?_
          refine lv_iload_n hx hb dX10_go_138 rfl (lv_at hl 0 rfl) ?_
          refine lv_bipush (v := 59) hx hb dX10_go_139 (by decide) ?_
          refine lv_icmp_eq (tgt := 174) hx hb dX10_go_141 (by decide) (fun c_141 => ?_) (fun c_141 => ?_)
          · have r_v_43 : RI v_43 59 59 := rc_eq1 r_v_43 rl_59 (ti_eq c_141) (by decide)
            simp only [f_X10_go__2_96, ↓reduceIte, q_z0_4, q_z0_5, q_z0_6, q_vu_41, eq_true c_104, q_v_43, q_v_44, eq_true c_127, q_v_45, eq_true c_134, eq_true c_141] at hE
            exact B174 v_43 vu_41 z0_4 z0_5 z0_6 s0 ws _ _ ls (r_v_43.to (by decide)) r_vu_41 m_u_41 r_z0_4 m_z0_4 r_z0_5 m_z0_5 r_z0_6 m_z0_6 x_TO_p0_gh o_p0 hE hw (lv_sub hl [1, 0] rfl)
          · refine lv_iload_n hx hb dX10_go_144 rfl (lv_at hl 0 rfl) ?_
            refine lv_bipush (v := 60) hx hb dX10_go_145 (by decide) ?_
            refine lv_icmp_eq (tgt := 174) hx hb dX10_go_147 (by decide) (fun c_147 => ?_) (fun c_147 => ?_)
            · have r_v_43 : RI v_43 60 60 := rc_eq1 r_v_43 rl_60 (ti_eq c_147) (by decide)
              simp only [f_X10_go__2_96, ↓reduceIte, q_z0_4, q_z0_5, q_z0_6, q_vu_41, eq_true c_104, q_v_43, q_v_44, eq_true c_127, q_v_45, eq_true c_134, eq_false c_141, eq_true c_147] at hE
              exact B174 v_43 vu_41 z0_4 z0_5 z0_6 s0 ws _ _ ls (r_v_43.to (by decide)) r_vu_41 m_u_41 r_z0_4 m_z0_4 r_z0_5 m_z0_5 r_z0_6 m_z0_6 x_TO_p0_gh o_p0 hE hw (lv_sub hl [1, 0] rfl)
            · refine lv_iload_n hx hb dX10_go_150 rfl (lv_at hl 0 rfl) ?_
              refine lv_bipush (v := 61) hx hb dX10_go_151 (by decide) ?_
              refine lv_icmp_eq (tgt := 174) hx hb dX10_go_153 (by decide) (fun c_153 => ?_) (fun c_153 => ?_)
              · have r_v_43 : RI v_43 61 61 := rc_eq1 r_v_43 rl_61 (ti_eq c_153) (by decide)
                simp only [f_X10_go__2_96, ↓reduceIte, q_z0_4, q_z0_5, q_z0_6, q_vu_41, eq_true c_104, q_v_43, q_v_44, eq_true c_127, q_v_45, eq_true c_134, eq_false c_141, eq_false c_147, eq_true c_153] at hE
                exact B174 v_43 vu_41 z0_4 z0_5 z0_6 s0 ws _ _ ls (r_v_43.to (by decide)) r_vu_41 m_u_41 r_z0_4 m_z0_4 r_z0_5 m_z0_5 r_z0_6 m_z0_6 x_TO_p0_gh o_p0 hE hw (lv_sub hl [1, 0] rfl)
              · refine lv_iload_n hx hb dX10_go_156 rfl (lv_at hl 0 rfl) ?_
                refine lv_bipush (v := 62) hx hb dX10_go_157 (by decide) ?_
                refine lv_icmp_eq (tgt := 174) hx hb dX10_go_159 (by decide) (fun c_159 => ?_) (fun c_159 => ?_)
                · have r_v_43 : RI v_43 62 62 := rc_eq1 r_v_43 rl_62 (ti_eq c_159) (by decide)
                  simp only [f_X10_go__2_96, ↓reduceIte, q_z0_4, q_z0_5, q_z0_6, q_vu_41, eq_true c_104, q_v_43, q_v_44, eq_true c_127, q_v_45, eq_true c_134, eq_false c_141, eq_false c_147, eq_false c_153, eq_true c_159] at hE
                  exact B174 v_43 vu_41 z0_4 z0_5 z0_6 s0 ws _ _ ls (r_v_43.to (by decide)) r_vu_41 m_u_41 r_z0_4 m_z0_4 r_z0_5 m_z0_5 r_z0_6 m_z0_6 x_TO_p0_gh o_p0 hE hw (lv_sub hl [1, 0] rfl)
                · refine lv_iload_n hx hb dX10_go_162 rfl (lv_at hl 0 rfl) ?_
                  refine lv_bipush (v := 40) hx hb dX10_go_163 (by decide) ?_
                  refine lv_icmp_eq (tgt := 174) hx hb dX10_go_165 (by decide) (fun c_165 => ?_) (fun c_165 => ?_)
                  · have r_v_43 : RI v_43 40 40 := rc_eq1 r_v_43 rl_40 (ti_eq c_165) (by decide)
                    simp only [f_X10_go__2_96, ↓reduceIte, q_z0_4, q_z0_5, q_z0_6, q_vu_41, eq_true c_104, q_v_43, q_v_44, eq_true c_127, q_v_45, eq_true c_134, eq_false c_141, eq_false c_147, eq_false c_153, eq_false c_159, eq_true c_165] at hE
                    exact B174 v_43 vu_41 z0_4 z0_5 z0_6 s0 ws _ _ ls (r_v_43.to (by decide)) r_vu_41 m_u_41 r_z0_4 m_z0_4 r_z0_5 m_z0_5 r_z0_6 m_z0_6 x_TO_p0_gh o_p0 hE hw (lv_sub hl [1, 0] rfl)
                  · refine lv_iload_n hx hb dX10_go_168 rfl (lv_at hl 0 rfl) ?_
                    refine lv_bipush (v := 41) hx hb dX10_go_169 (by decide) ?_
                    refine lv_icmp_ne (tgt := 178) hx hb dX10_go_171 (by decide) (fun c_171 => ?_) (fun c_171 => ?_)
                    · refine lv_iconst (v := 1) hx hb dX10_go_178 (by decide) ?_
                      simp only [f_X10_go__2_96, ↓reduceIte, q_z0_4, q_z0_5, q_z0_6, q_vu_41, eq_true c_104, q_v_43, q_v_44, eq_true c_127, q_v_45, eq_true c_134, eq_false c_141, eq_false c_147, eq_false c_153, eq_false c_159, eq_false c_165, eq_false c_171] at hE
                      exact B179 v_43 1 vu_41 z0_4 z0_5 z0_6 s0 ws _ _ ls r_v_43 (rl_1.to (by decide)) r_vu_41 m_u_41 r_z0_4 m_z0_4 r_z0_5 m_z0_5 r_z0_6 m_z0_6 x_TO_p0_gh o_p0 hE hw (lv_sub hl [1, 0] rfl)
                    · have r_v_43 : RI v_43 41 41 := rc_eq1 r_v_43 rl_41 (ti_eq c_171) (by decide)
                      simp only [f_X10_go__2_96, ↓reduceIte, q_z0_4, q_z0_5, q_z0_6, q_vu_41, eq_true c_104, q_v_43, q_v_44, eq_true c_127, q_v_45, eq_true c_134, eq_false c_141, eq_false c_147, eq_false c_153, eq_false c_159, eq_false c_165, eq_true c_171] at hE
                      exact B174 v_43 vu_41 z0_4 z0_5 z0_6 s0 ws _ _ ls (r_v_43.to (by decide)) r_vu_41 m_u_41 r_z0_4 m_z0_4 r_z0_5 m_z0_5 r_z0_6 m_z0_6 x_TO_p0_gh o_p0 hE hw (lv_sub hl [1, 0] rfl)
    · refine lv_aload_n hx hb dX10_go_107 rfl (lv_at hl 0 rfl) ?_
      refine lv_iconst (v := 0) hx hb dX10_go_108 (by decide) ?_
      refine tg_put (ci := 10) (ts := ty_MODEL) (v := .int 0) (ty := .int) (C := RX10) (T := TX10) (N := 49) hx hb hts inX10 tyX10 tyX10_ok nmX10 hown hK hw h_p0 rfl rfl 7 (by decide) (hts _ tw_1144) (fun _ h9 => h9) rfl (by decide +kernel) rfl rfl (ft := vI (-2147483648) 2147483647) rfl ⟨_, rfl, (rl_0.to (by decide))⟩ (by decide) dX10_go_109 (fun ws H locs hw n_k_46 hF9 => ?_)
      have m_z0_4 := FLD.over hF9 m_z0_4 (by decide)
      have m_z0_5 := FLD.over hF9 m_z0_5 (by decide)
      have m_z0_6 := FLD.over hF9 m_z0_6 (by decide)
      have m_u_41 := FLD.over hF9 m_u_41 (by decide)
      have x_TO_p0_gh := TOP.over hF9 x_TO_p0_gh (by decide)
      obtain ⟨sg_47, q_sg_47⟩ : ∃ q9 : OS, sI s0 7 (0 : Int32) = q9 := ⟨_, rfl⟩
      have o_p0 : OV vw_MODEL Ps ws p0 sg_47 := by rw [← q_sg_47]; exact OV.putI (V := vw_MODEL) hF9 n_k_46 o_p0 (by decide)
      have g8 := TOP.get hw x_TO_p0_gh m_z0_5
      have x_TOK_p0_gh : TKP ws p0 (gh) := ⟨_, _, m_z0_5, n_k_46, g8, r_z0_5.2, fun h9 => by have k1 := rl_0; unfold RI at k1; omega⟩
      simp only [f_X10_go__2_96, ↓reduceIte, q_z0_4, q_z0_5, q_z0_6, q_vu_41, eq_false c_104, q_sg_47] at hE
      subst hQ
      exact W.vret hx hb hr (fun t ht hW => ⟨⟨ws, rfl, ⟨⟨⟨(by rw [hR, ← hE]; exact o_p0), trivial⟩, ⟨x_TOK_p0_gh, trivial⟩⟩, hw.1, hw.2.2.2.2.1⟩, by rw [ht]; exact hw.2.1, va_K.moved hW.alike hK, hw.2.2.1⟩, hw.2.2.2.1.F ht⟩) hw.2.2.2.1.2.2 dX10_go_112
  have B52 : ∀ (z0_5 : Int32) (s0 : OS) (ws : va_W) (H : Heap) (locs : List Loc) (ls : Array Slot), RI z0_5 0 940 → FLD ws p0 10 5 (.int z0_5) → TOP ws p0 (gh) → OV vw_MODEL Ps ws p0 s0 → f_X10_go__2_52 s0 = R9 → WD D cy GG A s wr_X10_go__2 wa_X10_go__2 Ps w0 Ps ws H locs → lv_has ls 5 [(0, .ref p0)] → W p l e (headSpec (Cond.code yX10_go cX10_go 5 none :: gT) ({ frames := 2, cells := 0, slots := 0, locals := 400 } : Room)).room s m ([.ref p0] : List Value).toArray below meth c H locs 0 0 Q (F0 m 52 ls []) := by
    intro z0_5 s0 ws H locs ls r_z0_5 m_z0_5 x_TO_p0_gh o_p0 hE hw hl
    have q_z0_5 : s0.1 5 = z0_5 := OV.eqI (V := vw_MODEL) hw.2.2.1 o_p0 m_z0_5 (by decide)
    refine lv_aload_n hx hb dX10_go_52 rfl (lv_at hl 0 rfl) ?_
    refine lv_aload_n hx hb dX10_go_53 rfl (lv_at hl 0 rfl) ?_
    refine tg_mem (ci := 10) (C := RX10) (T := TX10) (N := 49) hx hb hts inX10 hown hK hw 5 m_z0_5 rfl (by decide) (hts _ tw_1142) (fun _ h9 => h9) dX10_go_54 ?_
    refine tg_put (ci := 10) (ts := ty_MODEL) (v := .int z0_5) (ty := .int) (C := RX10) (T := TX10) (N := 49) hx hb hts inX10 tyX10 tyX10_ok nmX10 hown hK hw h_p0 rfl rfl 6 (by decide) (hts _ tw_1143) (fun _ h9 => h9) rfl (by decide +kernel) rfl rfl (ft := vI (-2147483648) 2147483647) rfl ⟨_, rfl, (r_z0_5.to (by decide))⟩ (by decide) dX10_go_57 (fun ws H locs hw n_k_48 hF9 => ?_)
    have m_z0_5 := FLD.over hF9 m_z0_5 (by decide)
    have x_TO_p0_gh := TOP.over hF9 x_TO_p0_gh (by decide)
    obtain ⟨sg_49, q_sg_49⟩ : ∃ q9 : OS, sI s0 6 z0_5 = q9 := ⟨_, rfl⟩
    have o_p0 : OV vw_MODEL Ps ws p0 sg_49 := by rw [← q_sg_49]; exact OV.putI (V := vw_MODEL) hF9 n_k_48 o_p0 (by decide)
    refine lv_aload_n hx hb dX10_go_60 rfl (lv_at hl 0 rfl) ?_
    refine tg_get (ci := 10) (ts := ty_MODEL) (C := RX10) (T := TX10) (N := 49) hx hb hts inX10 hown hK hw h_p0 rfl rfl 3 (by decide) (hts _ tw_1140) (fun _ h9 => h9) (ft := vI 0 940) rfl dX10_go_61 (fun u_50 hv_u_50 m_u_50 => ?_)
    obtain ⟨vu_50, rfl, r_vu_50⟩ := hv_u_50
    have q_vu_50 : sg_49.1 3 = vu_50 := OV.eqI (V := vw_MODEL) hw.2.2.1 o_p0 m_u_50 (by decide)
    refine lv_aload_n hx hb dX10_go_64 rfl (lv_at hl 0 rfl) ?_
    refine tg_get (ci := 10) (ts := ty_MODEL) (C := RX10) (T := TX10) (N := 49) hx hb hts inX10 hown hK hw h_p0 rfl rfl 4 (by decide) (hts _ tw_1141) (fun _ h9 => h9) (ft := vI (-2147483648) 2147483647) rfl dX10_go_65 (fun u_51 hv_u_51 m_u_51 => ?_)
    obtain ⟨vu_51, rfl, r_vu_51⟩ := hv_u_51
    have q_vu_51 : sg_49.1 4 = vu_51 := OV.eqI (V := vw_MODEL) hw.2.2.1 o_p0 m_u_51 (by decide)
    refine lv_icmp_le (tgt := 96) hx hb dX10_go_68 (by decide) (fun c_68 => ?_) (fun c_68 => ?_)
    · have r_vu_51 : RI vu_51 0 2147483647 := rc_le2 r_vu_50 r_vu_51 (ti_le c_68) (by decide)
      simp only [f_X10_go__2_52, ↓reduceIte, q_z0_5, q_sg_49, q_vu_50, q_vu_51, eq_true c_68] at hE
      exact B96 vu_51 z0_5 z0_5 sg_49 ws _ _ ls r_vu_51 m_u_51 r_z0_5 m_z0_5 r_z0_5 n_k_48 x_TO_p0_gh o_p0 hE hw hl
    · have r_vu_51 : RI vu_51 (-2147483648) 939 := rc_lt1 r_vu_51 r_vu_50 (ti_nle c_68) (by decide)
      refine lv_aload_n hx hb dX10_go_71 rfl (lv_at hl 0 rfl) ?_
      refine tg_mem (ci := 10) (C := RX10) (T := TX10) (N := 49) hx hb hts inX10 hown hK hw 6 n_k_48 rfl (by decide) (hts _ tw_1143) (fun _ h9 => h9) dX10_go_72 ?_
      refine lv_aload_n hx hb dX10_go_75 rfl (lv_at hl 0 rfl) ?_
      refine tg_mem (ci := 10) (C := RX10) (T := TX10) (N := 49) hx hb hts inX10 hown hK hw 4 m_u_51 rfl (by decide) (hts _ tw_1141) (fun _ h9 => h9) dX10_go_76 ?_
      refine lv_icmp_lt (tgt := 96) hx hb dX10_go_79 (by decide) (fun c_79 => ?_) (fun c_79 => ?_)
      · have r_z0_5 : RI z0_5 0 938 := rc_lt1 r_z0_5 r_vu_51 (ti_lt c_79) (by decide)
        have r_vu_51 : RI vu_51 1 939 := rc_lt2 r_z0_5 r_vu_51 (ti_lt c_79) (by decide)
        simp only [f_X10_go__2_52, ↓reduceIte, q_z0_5, q_sg_49, q_vu_50, q_vu_51, eq_false c_68, eq_true c_79] at hE
        exact B96 vu_51 z0_5 z0_5 sg_49 ws _ _ ls (r_vu_51.to (by decide)) m_u_51 (r_z0_5.to (by decide)) m_z0_5 (r_z0_5.to (by decide)) n_k_48 x_TO_p0_gh o_p0 hE hw hl
      · refine lv_aload_n hx hb dX10_go_82 rfl (lv_at hl 0 rfl) ?_
        refine lv_aload_n hx hb dX10_go_83 rfl (lv_at hl 0 rfl) ?_
        refine tg_mem (ci := 10) (C := RX10) (T := TX10) (N := 49) hx hb hts inX10 hown hK hw 4 m_u_51 rfl (by decide) (hts _ tw_1141) (fun _ h9 => h9) dX10_go_84 ?_
        refine tg_put (ci := 10) (ts := ty_MODEL) (v := .int vu_51) (ty := .int) (C := RX10) (T := TX10) (N := 49) hx hb hts inX10 tyX10 tyX10_ok nmX10 hown hK hw h_p0 rfl rfl 6 (by decide) (hts _ tw_1143) (fun _ h9 => h9) rfl (by decide +kernel) rfl rfl (ft := vI (-2147483648) 2147483647) rfl ⟨_, rfl, (r_vu_51.to (by decide))⟩ (by decide) dX10_go_87 (fun ws H locs hw n_k_52 hF9 => ?_)
        have m_z0_5 := FLD.over hF9 m_z0_5 (by decide)
        have m_u_50 := FLD.over hF9 m_u_50 (by decide)
        have m_u_51 := FLD.over hF9 m_u_51 (by decide)
        have x_TO_p0_gh := TOP.over hF9 x_TO_p0_gh (by decide)
        obtain ⟨sg_53, q_sg_53⟩ : ∃ q9 : OS, sI sg_49 6 vu_51 = q9 := ⟨_, rfl⟩
        have o_p0 : OV vw_MODEL Ps ws p0 sg_53 := by rw [← q_sg_53]; exact OV.putI (V := vw_MODEL) hF9 n_k_52 o_p0 (by decide)
        refine lv_aload_n hx hb dX10_go_90 rfl (lv_at hl 0 rfl) ?_
        refine lv_iconst (v := 1) hx hb dX10_go_91 (by decide) ?_
        refine tg_put (ci := 10) (ts := ty_MODEL) (v := .int 1) (ty := .int) (C := RX10) (T := TX10) (N := 49) hx hb hts inX10 tyX10 tyX10_ok nmX10 hown hK hw h_p0 rfl rfl 7 (by decide) (hts _ tw_1144) (fun _ h9 => h9) rfl (by decide +kernel) rfl rfl (ft := vI (-2147483648) 2147483647) rfl ⟨_, rfl, (rl_1.to (by decide))⟩ (by decide) dX10_go_92 (fun ws H locs hw n_k_54 hF9 => ?_)
        have m_z0_5 := FLD.over hF9 m_z0_5 (by decide)
        have m_u_50 := FLD.over hF9 m_u_50 (by decide)
        have m_u_51 := FLD.over hF9 m_u_51 (by decide)
        have n_k_52 := FLD.over hF9 n_k_52 (by decide)
        have x_TO_p0_gh := TOP.over hF9 x_TO_p0_gh (by decide)
        obtain ⟨sg_55, q_sg_55⟩ : ∃ q9 : OS, sI sg_53 7 (1 : Int32) = q9 := ⟨_, rfl⟩
        have o_p0 : OV vw_MODEL Ps ws p0 sg_55 := by rw [← q_sg_55]; exact OV.putI (V := vw_MODEL) hF9 n_k_54 o_p0 (by decide)
        have g8 := TOP.get hw x_TO_p0_gh m_z0_5
        have x_TOK_p0_gh : TKP ws p0 (gh) := ⟨_, _, m_z0_5, n_k_54, g8, r_z0_5.2, fun h9 => by have k1 := rl_1; unfold RI at k1; omega⟩
        simp only [f_X10_go__2_52, ↓reduceIte, q_z0_5, q_sg_49, q_vu_50, q_vu_51, eq_false c_68, eq_false c_79, q_sg_53, q_sg_55] at hE
        subst hQ
        exact W.vret hx hb hr (fun t ht hW => ⟨⟨ws, rfl, ⟨⟨⟨(by rw [hR, ← hE]; exact o_p0), trivial⟩, ⟨x_TOK_p0_gh, trivial⟩⟩, hw.1, hw.2.2.2.2.1⟩, by rw [ht]; exact hw.2.1, va_K.moved hW.alike hK, hw.2.2.1⟩, hw.2.2.2.1.F ht⟩) hw.2.2.2.1.2.2 dX10_go_95
  have B0 : ∀ (nf : Nat) (z0_5 : Int32) (s0 : OS) (ws : va_W) (H : Heap) (locs : List Loc) (ls : Array Slot), 940 - z0_5.toInt < (nf : Int) → RI z0_5 0 940 → FLD ws p0 10 5 (.int z0_5) → TOP ws p0 (gh) → OV vw_MODEL Ps ws p0 s0 → f_X10_go__2_0 nf s0 = R9 → WD D cy GG A s wr_X10_go__2 wa_X10_go__2 Ps w0 Ps ws H locs → lv_has ls 5 [(0, .ref p0)] → W p l e (headSpec (Cond.code yX10_go cX10_go 5 none :: gT) ({ frames := 2, cells := 0, slots := 0, locals := 400 } : Room)).room s m ([.ref p0] : List Value).toArray below meth c H locs 0 0 Q (F0 m 0 ls []) := by
    intro nf0
    induction nf0 with
    | zero =>
      intro z0_5 s0 ws H locs ls hn0 r_z0_5 m_z0_5 x_TO_p0_gh o_p0 hE hw hl
      exact absurd hn0 (by have q0 := r_z0_5.1; have u0 := r_z0_5.2; omega)
    | succ nf0 ih0 =>
      have B39 : ∀ (z0_3 : Int32) (z0_5 : Int32) (s0 : OS) (ws : va_W) (H : Heap) (locs : List Loc) (ls : Array Slot), RI z0_3 1 940 → FLD ws p0 10 3 (.int z0_3) → RI z0_5 0 939 → FLD ws p0 10 5 (.int z0_5) → TOP ws p0 (gh) → OV vw_MODEL Ps ws p0 s0 → 940 - z0_5.toInt < ((nf0 + 1 : Nat) : Int) → f_X10_go__2_39 (f_X10_go__2_0 nf0) s0 = R9 → WD D cy GG A s wr_X10_go__2 wa_X10_go__2 Ps w0 Ps ws H locs → lv_has ls 5 [(0, .ref p0)] → W p l e (headSpec (Cond.code yX10_go cX10_go 5 none :: gT) ({ frames := 2, cells := 0, slots := 0, locals := 400 } : Room)).room s m ([.ref p0] : List Value).toArray below meth c H locs 0 0 Q (F0 m 39 ls []) := by
        intro z0_3 z0_5 s0 ws H locs ls r_z0_3 m_z0_3 r_z0_5 m_z0_5 x_TO_p0_gh o_p0 hn0 hE hw hl
        have q_z0_3 : s0.1 3 = z0_3 := OV.eqI (V := vw_MODEL) hw.2.2.1 o_p0 m_z0_3 (by decide)
        have q_z0_5 : s0.1 5 = z0_5 := OV.eqI (V := vw_MODEL) hw.2.2.1 o_p0 m_z0_5 (by decide)
        refine lv_aload_n hx hb dX10_go_39 rfl (lv_at hl 0 rfl) ?_
        refine lv_dup hx hb dX10_go_40 rfl ?_
        refine tg_mem (ci := 10) (C := RX10) (T := TX10) (N := 49) hx hb hts inX10 hown hK hw 5 m_z0_5 rfl (by decide) (hts _ tw_1142) (fun _ h9 => h9) dX10_go_41 ?_
        refine lv_iconst (v := 1) hx hb dX10_go_44 (by decide) ?_
        refine lv_iadd hx hb dX10_go_45 (lv_topi (fun v_56 e_v_56 => ?_))
        obtain ⟨t_v_56, r_v_56⟩ := tq_add (lo := 1) (hi := 940) r_z0_5 rl_1 (by decide +kernel) e_v_56
        have t_v_56 : v_56.toInt = z0_5.toInt + 1 := t_v_56
        have q_v_56 : z0_5 + (1 : Int32) = v_56 := e_v_56.symm
        have g9 := TOP.get hw x_TO_p0_gh m_z0_5
        refine tg_put (ci := 10) (ts := ty_MODEL) (v := .int v_56) (ty := .int) (C := RX10) (T := TX10) (N := 49) hx hb hts inX10 tyX10 tyX10_ok nmX10 hown hK hw h_p0 rfl rfl 5 (by decide) (hts _ tw_1142) (fun _ h9 => h9) rfl (by decide +kernel) rfl rfl (ft := vI 0 940) rfl ⟨_, rfl, (r_v_56.to (by decide))⟩ (by decide) dX10_go_46 (fun ws H locs hw n_k_57 hF9 => ?_)
        have m_z0_3 := FLD.over hF9 m_z0_3 (by decide)
        obtain ⟨sg_58, q_sg_58⟩ : ∃ q9 : OS, sI s0 5 v_56 = q9 := ⟨_, rfl⟩
        have o_p0 : OV vw_MODEL Ps ws p0 sg_58 := by rw [← q_sg_58]; exact OV.putI (V := vw_MODEL) hF9 n_k_57 o_p0 (by decide)
        have x_TO_p0_gh : TOP ws p0 (gh) := ⟨_, n_k_57, by have k1 := r_v_56.2; omega, by have k1 := r_v_56.2; omega⟩
        refine lv_goto (tgt := 0) hx hb dX10_go_49 (by decide) ?_
        simp only [f_X10_go__2_39, ↓reduceIte, q_z0_3, q_z0_5, q_v_56, q_sg_58] at hE
        exact ih0 v_56 sg_58 ws _ _ ls (by have q0 := r_v_56.1; have u0 := r_v_56.2; have o0 := r_z0_5.1; have p0 := r_z0_5.2; omega) (r_v_56.to (by decide)) n_k_57 x_TO_p0_gh o_p0 hE hw hl
      intro z0_5 s0 ws H locs ls hn0 r_z0_5 m_z0_5 x_TO_p0_gh o_p0 hE hw hl
      have q_z0_5 : s0.1 5 = z0_5 := OV.eqI (V := vw_MODEL) hw.2.2.1 o_p0 m_z0_5 (by decide)
      refine lv_aload_n hx hb dX10_go_0 rfl (lv_at hl 0 rfl) ?_
      refine tg_mem (ci := 10) (C := RX10) (T := TX10) (N := 49) hx hb hts inX10 hown hK hw 5 m_z0_5 rfl (by decide) (hts _ tw_1142) (fun _ h9 => h9) dX10_go_1 ?_
      refine lv_aload_n hx hb dX10_go_4 rfl (lv_at hl 0 rfl) ?_
      refine tg_get (ci := 10) (ts := ty_MODEL) (C := RX10) (T := TX10) (N := 49) hx hb hts inX10 hown hK hw h_p0 rfl rfl 3 (by decide) (hts _ tw_1140) (fun _ h9 => h9) (ft := vI 0 940) rfl dX10_go_5 (fun u_59 hv_u_59 m_u_59 => ?_)
      obtain ⟨vu_59, rfl, r_vu_59⟩ := hv_u_59
      have q_vu_59 : s0.1 3 = vu_59 := OV.eqI (V := vw_MODEL) hw.2.2.1 o_p0 m_u_59 (by decide)
      refine lv_icmp_ge (tgt := 52) hx hb dX10_go_8 (by decide) (fun c_8 => ?_) (fun c_8 => ?_)
      · simp only [f_X10_go__2_0, ↓reduceIte, q_z0_5, q_vu_59, eq_true c_8] at hE
        exact B52 z0_5 s0 ws _ _ ls r_z0_5 m_z0_5 x_TO_p0_gh o_p0 hE hw hl
      · have r_z0_5 : RI z0_5 0 939 := rc_lt1 r_z0_5 r_vu_59 (ti_nle c_8) (by decide)
        have r_vu_59 : RI vu_59 1 940 := rc_lt2 r_z0_5 r_vu_59 (ti_nle c_8) (by decide)
        refine lv_aload_n hx hb dX10_go_11 rfl (lv_at hl 0 rfl) ?_
        refine tg_get (ci := 10) (ts := ty_MODEL) (C := RX10) (T := TX10) (N := 49) hx hb hts inX10 hown hK hw h_p0 rfl rfl 1 (by decide) (hts _ tw_1138) (fun _ h9 => h9) (ft := vR 40) rfl dX10_go_12 (fun u_60 hv_u_60 m_u_60 => ?_)
        obtain ⟨vu_60, rfl, h_vu_60⟩ := hv_u_60
        refine lv_aload_n hx hb dX10_go_15 rfl (lv_at hl 0 rfl) ?_
        refine tg_mem (ci := 10) (C := RX10) (T := TX10) (N := 49) hx hb hts inX10 hown hK hw 5 m_z0_5 rfl (by decide) (hts _ tw_1142) (fun _ h9 => h9) dX10_go_16 ?_
        refine tg_iald (lo := 0) (hi := 255) hx hb hK hw h_vu_60 rfl 0 939 r_z0_5 (by decide) (by exact fun _ _ _ => ⟨Int.le_refl _, Int.le_refl _⟩) dX10_go_19 (fun v_61 r_v_61 m_v_61 o_v_61 => ?_)
        have q_v_61 : s0.2.2.1 1 (Int32.toNatClampNeg z0_5) = v_61 := OV.eqA (V := vw_MODEL) (t := 40) hw.2.2.1 o_p0 m_u_60 m_v_61 (by decide)
        refine lv_bipush (v := 32) hx hb dX10_go_20 (by decide) ?_
        refine lv_icmp_eq (tgt := 39) hx hb dX10_go_22 (by decide) (fun c_22 => ?_) (fun c_22 => ?_)
        · have r_v_61 : RI v_61 32 32 := rc_eq1 r_v_61 rl_32 (ti_eq c_22) (by decide)
          simp only [f_X10_go__2_0, ↓reduceIte, q_z0_5, q_vu_59, eq_false c_8, q_v_61, eq_true c_22] at hE
          exact B39 vu_59 z0_5 s0 ws _ _ ls r_vu_59 m_u_59 r_z0_5 m_z0_5 x_TO_p0_gh o_p0 (by have q0 := r_z0_5.1; have u0 := r_z0_5.2; omega) hE hw hl
        · refine lv_aload_n hx hb dX10_go_25 rfl (lv_at hl 0 rfl) ?_
          refine tg_mem (ci := 10) (C := RX10) (T := TX10) (N := 49) hx hb hts inX10 hown hK hw 1 m_u_60 rfl (by decide) (hts _ tw_1138) (fun _ h9 => h9) dX10_go_26 ?_
          refine lv_aload_n hx hb dX10_go_29 rfl (lv_at hl 0 rfl) ?_
          refine tg_mem (ci := 10) (C := RX10) (T := TX10) (N := 49) hx hb hts inX10 hown hK hw 5 m_z0_5 rfl (by decide) (hts _ tw_1142) (fun _ h9 => h9) dX10_go_30 ?_
          refine tg_imem hx hb hK hw h_vu_60 rfl r_z0_5 (by decide) m_v_61 dX10_go_33 ?_
          refine lv_bipush (v := 10) hx hb dX10_go_34 (by decide) ?_
          refine lv_icmp_ne (tgt := 52) hx hb dX10_go_36 (by decide) (fun c_36 => ?_) (fun c_36 => ?_)
          · simp only [f_X10_go__2_0, ↓reduceIte, q_z0_5, q_vu_59, eq_false c_8, q_v_61, eq_false c_22, eq_false c_36] at hE
            exact B52 z0_5 s0 ws _ _ ls (r_z0_5.to (by decide)) m_z0_5 x_TO_p0_gh o_p0 hE hw hl
          · have r_v_61 : RI v_61 10 10 := rc_eq1 r_v_61 rl_10 (ti_eq c_36) (by decide)
            simp only [f_X10_go__2_0, ↓reduceIte, q_z0_5, q_vu_59, eq_false c_8, q_v_61, eq_false c_22, eq_true c_36] at hE
            exact B39 vu_59 z0_5 s0 ws _ _ ls r_vu_59 m_u_59 r_z0_5 m_z0_5 x_TO_p0_gh o_p0 (by have q0 := r_z0_5.1; have u0 := r_z0_5.2; omega) hE hw hl
  simp only [f_X10_go__2, ↓reduceIte] at hE
  obtain ⟨v_63, m_v_63, r_v_63⟩ := tg_fld (k := 5) (ci := 10) (ts := ty_MODEL) (lo := 0) (hi := 940) hw h_p0 rfl rfl
  exact B0 4294967298 v_63 s0 w0 _ _ ls (by have q0 := r_v_63.1; have u0 := r_v_63.2; omega) r_v_63 m_v_63 x_TO_p0_gh o_p0 hE hw hl
abbrev wr_X10_isIn__14 : List (Nat × Nat) := []
abbrev wa_X10_isIn__14 : List Nat := []
set_option maxHeartbeats 4000000 in
set_option maxRecDepth 100000 in
theorem c_X10_isIn__14 (l : Launch) (D : va_G) (cy : Nat → ClassId) (z : Nat → Nat) (sz : Nat) (Ps : PSI) (w0 : va_W) (hT : HT cy GG Ps w0) (p0 : Int32) (p1 : Int32) (p2 : Int32) (r_p0 : RI p0 (-2147483648) 2147483647) (r_p1 : RI p1 1 1) (r_p2 : RI p2 20 20) : Met l yX10_isIn (Cond.code yX10_isIn cX10_isIn 3 (some .boolean) :: gT) ({ frames := 0, cells := 0, slots := 0, locals := 200 } : Room) (va_Pc [.int p0, .int p1, .int p2] (PRE D cy z w0 sz)) (va_Qi (fun (r : Int32) (u : Unit) => ((f_X10_isIn__14 p0 p1 p2) = r ∧ True) ∧ (RI r 0 1 ∧ (r = 0 → True) ∧ (¬ r = 0 → RI p0 1 20 ∧ True))) (BB D cy (va_A w0 sz) (fun (u : Unit) => w0)) (va_A w0 sz)) 0 0 (va_A w0 sz) := by
  refine Met.ofW (cc := cX10_isIn) (maxL := 3) (ret := (some .boolean)) (by decide) rfl ?_
  intro p e s m args below meth c s₁ B hml hv
  obtain ⟨rfl, hsz, hP, hK, hD0, hSD⟩ := hv
  have hx := B.exec
  have hb := B.bytes
  have hr := B.returns
  have hlocks := B.notSynchronized
  have hts : ∀ w ∈ gT, w.before _ s = true := fun w h => atoms_spec (ws := Cond.code yX10_isIn cX10_isIn 3 (some .boolean) :: gT) B.pre w (List.mem_cons_of_mem _ h)
  have hown : s.vm.findClass RX10 = some m.cls := findClass_of_methodNamed B.named
  subst hsz
  have hD := hD0.self (sz := s.heap.size)
  generalize hAe : va_A w0 s.heap.size = A at hD hSD ⊢
  have hA : ∀ q : Nat, s.heap.size ≤ q → A q := fun q h => by rw [← hAe]; exact Or.inr h
  have hl := lv_entry ([.int p0, .int p1, .int p2]) (n := 3) (Nat.le_of_ble_eq_true rfl)
  rw [lg_entry_eq]
  generalize (lg_sl ([.int p0, .int p1, .int p2]) ++ List.replicate (3 - (lg_sl ([.int p0, .int p1, .int p2])).length) Slot.unset).toArray = ls at hl ⊢
  have hl : lv_has ls 3 [(0, .int p0), (1, .int p1), (2, .int p2)] := hl
  refine nameQ (fun Q hQ => ?_)
  have hw : WD D cy GG A s wr_X10_isIn__14 wa_X10_isIn__14 Ps w0 Ps w0 s.heap [] := ⟨hT, hP, hD, va_S.rf, FR.rf, hT.1, [], (List.append_nil _).symm⟩
  obtain ⟨R9, hR⟩ : ∃ q9 : Int32, f_X10_isIn__14 p0 p1 p2 = q9 := ⟨_, rfl⟩
  have hE := hR
  refine lv_iload_n hx hb dX10_isIn_0 rfl (lv_at hl 0 rfl) ?_
  refine lv_iload_n hx hb dX10_isIn_1 rfl (lv_at hl 1 rfl) ?_
  refine lv_icmp_lt (tgt := 14) hx hb dX10_isIn_2 (by decide) (fun c_2 => ?_) (fun c_2 => ?_)
  · have r_p0 : RI p0 (-2147483648) 0 := rc_lt1 r_p0 r_p1 (ti_lt c_2) (by decide)
    refine lv_iconst (v := 0) hx hb dX10_isIn_14 (by decide) ?_
    simp only [f_X10_isIn__14, ↓reduceIte, eq_true c_2] at hE
    subst hQ
    exact W.zret (v := 0) hx hb hr (rfl) (fun t ht hW => ⟨⟨0, (), rfl, ⟨⟨(by rw [hR, ← hE]), trivial⟩, rl_0.to (by decide), (fun h0 => trivial), (fun h0 => absurd rfl h0)⟩, by rw [ht]; exact hw.2.1, va_K.moved hW.alike hK, hw.2.2.1⟩, hw.2.2.2.1.F ht⟩) hw.2.2.2.1.2.2 dX10_isIn_15
  · have r_p0 : RI p0 1 2147483647 := rc_le2 r_p1 r_p0 (ti_nlt c_2) (by decide)
    refine lv_iload_n hx hb dX10_isIn_5 rfl (lv_at hl 0 rfl) ?_
    refine lv_iload_n hx hb dX10_isIn_6 rfl (lv_at hl 2 rfl) ?_
    refine lv_icmp_gt (tgt := 14) hx hb dX10_isIn_7 (by decide) (fun c_7 => ?_) (fun c_7 => ?_)
    · have r_p0 : RI p0 21 2147483647 := rc_lt2 r_p2 r_p0 (ti_lt c_7) (by decide)
      refine lv_iconst (v := 0) hx hb dX10_isIn_14 (by decide) ?_
      simp only [f_X10_isIn__14, ↓reduceIte, eq_false c_2, eq_true c_7] at hE
      subst hQ
      exact W.zret (v := 0) hx hb hr (rfl) (fun t ht hW => ⟨⟨0, (), rfl, ⟨⟨(by rw [hR, ← hE]), trivial⟩, rl_0.to (by decide), (fun h0 => trivial), (fun h0 => absurd rfl h0)⟩, by rw [ht]; exact hw.2.1, va_K.moved hW.alike hK, hw.2.2.1⟩, hw.2.2.2.1.F ht⟩) hw.2.2.2.1.2.2 dX10_isIn_15
    · have r_p0 : RI p0 1 20 := rc_le1 r_p0 r_p2 (ti_nlt c_7) (by decide)
      refine lv_iconst (v := 1) hx hb dX10_isIn_10 (by decide) ?_
      refine lv_goto (tgt := 15) hx hb dX10_isIn_11 (by decide) ?_
      simp only [f_X10_isIn__14, ↓reduceIte, eq_false c_2, eq_false c_7] at hE
      subst hQ
      exact W.zret (v := 1) hx hb hr (rfl) (fun t ht hW => ⟨⟨1, (), rfl, ⟨⟨(by rw [hR, ← hE]), trivial⟩, rl_1.to (by decide), (fun _ => trivial), (fun h0 => ⟨r_p0, trivial⟩)⟩, by rw [ht]; exact hw.2.1, va_K.moved hW.alike hK, hw.2.2.1⟩, hw.2.2.2.1.F ht⟩) hw.2.2.2.1.2.2 dX10_isIn_15
abbrev wr_X10_readNumber__7 : List (Nat × Nat) := [(10, 5), (10, 6), (10, 7), (10, 8), (10, 9), (10, 10), (10, 11), (10, 12), (10, 13)]
abbrev wa_X10_readNumber__7 : List Nat := []
set_option maxHeartbeats 4000000 in
set_option maxRecDepth 100000 in
theorem c_X10_readNumber__7 (l : Launch) (D : va_G) (cy : Nat → ClassId) (z : Nat → Nat) (sz : Nat) (Ps : PSI) (w0 : va_W) (hT : HT cy GG Ps w0) (p0 : Nat) (p1 : Int32) (p2 : Int32) (gh : Int) (s0 : OS) (h_p0 : (p0, 55) ∈ Ps) (r_p1 : RI p1 1 1) (r_p2 : RI p2 20 20) (x_TO_p0_gh : TOP w0 p0 (gh)) (o_p0 : OV vw_MODEL Ps w0 p0 s0) : Met l yX10_readNumber (Cond.code yX10_readNumber cX10_readNumber 3 (some .boolean) :: gT) ({ frames := 3, cells := 0, slots := 0, locals := 600 } : Room) (va_Pc [.ref p0, .int p1, .int p2] (PRE D cy z w0 sz)) (va_Qi (fun (r : Int32) (u : va_W) => ((OV vw_MODEL Ps u p0 ((f_X10_readNumber__7 p1 p2 s0).1) ∧ (f_X10_readNumber__7 p1 p2 s0).2 = r ∧ True) ∧ (RI r 0 1 ∧ (r = 0 → True) ∧ (¬ r = 0 → (∃ v9 : Int32, FLD u p0 10 13 (.int v9) ∧ RI v9 1 20) ∧ TKP u p0 (gh) ∧ True))) ∧ HT cy GG Ps u ∧ FR wr_X10_readNumber__7 wa_X10_readNumber__7 Ps w0 u) (BB D cy (va_A w0 sz) (fun (u : va_W) => u)) (va_A w0 sz)) 0 0 (va_A w0 sz) := by
  refine Met.ofW (cc := cX10_readNumber) (maxL := 3) (ret := (some .boolean)) (by decide) rfl ?_
  intro p e s m args below meth c s₁ B hml hv
  obtain ⟨rfl, hsz, hP, hK, hD0, hSD⟩ := hv
  have hx := B.exec
  have hb := B.bytes
  have hr := B.returns
  have hlocks := B.notSynchronized
  have hts : ∀ w ∈ gT, w.before _ s = true := fun w h => atoms_spec (ws := Cond.code yX10_readNumber cX10_readNumber 3 (some .boolean) :: gT) B.pre w (List.mem_cons_of_mem _ h)
  have hown : s.vm.findClass RX10 = some m.cls := findClass_of_methodNamed B.named
  subst hsz
  have hD := hD0.self (sz := s.heap.size)
  generalize hAe : va_A w0 s.heap.size = A at hD hSD ⊢
  have hA : ∀ q : Nat, s.heap.size ≤ q → A q := fun q h => by rw [← hAe]; exact Or.inr h
  have hl := lv_entry ([.ref p0, .int p1, .int p2]) (n := 3) (Nat.le_of_ble_eq_true rfl)
  rw [lg_entry_eq]
  generalize (lg_sl ([.ref p0, .int p1, .int p2]) ++ List.replicate (3 - (lg_sl ([.ref p0, .int p1, .int p2])).length) Slot.unset).toArray = ls at hl ⊢
  have hl : lv_has ls 3 [(0, .ref p0), (1, .int p1), (2, .int p2)] := hl
  refine nameQ (fun Q hQ => ?_)
  have hw : WD D cy GG A s wr_X10_readNumber__7 wa_X10_readNumber__7 Ps w0 Ps w0 s.heap [] := ⟨hT, hP, hD, va_S.rf, FR.rf, hT.1, [], (List.append_nil _).symm⟩
  obtain ⟨R9, hR⟩ : ∃ q9 : OS × Int32, f_X10_readNumber__7 p1 p2 s0 = q9 := ⟨_, rfl⟩
  have hE := hR
  refine lv_aload_n hx hb dX10_readNumber_0 rfl (lv_at hl 0 rfl) ?_
  refine tg_get (ci := 10) (ts := ty_MODEL) (C := RX10) (T := TX10) (N := 49) hx hb hts inX10 hown hK hw h_p0 rfl rfl 7 (by decide) (hts _ tw_1144) (fun _ h9 => h9) (ft := vI (-2147483648) 2147483647) rfl dX10_readNumber_1 (fun u_1 hv_u_1 m_u_1 => ?_)
  obtain ⟨vu_1, rfl, r_vu_1⟩ := hv_u_1
  have q_vu_1 : s0.1 7 = vu_1 := OV.eqI (V := vw_MODEL) hw.2.2.1 o_p0 m_u_1 (by decide)
  refine lv_iconst (v := 3) hx hb dX10_readNumber_4 (by decide) ?_
  refine lv_icmp_eq (tgt := 14) hx hb dX10_readNumber_5 (by decide) (fun c_5 => ?_) (fun c_5 => ?_)
  · have r_vu_1 : RI vu_1 3 3 := rc_eq1 r_vu_1 rl_3 (ti_eq c_5) (by decide)
    refine lv_aload_n hx hb dX10_readNumber_14 rfl (lv_at hl 0 rfl) ?_
    refine tg_get (ci := 10) (ts := ty_MODEL) (C := RX10) (T := TX10) (N := 49) hx hb hts inX10 hown hK hw h_p0 rfl rfl 8 (by decide) (hts _ tw_1145) (fun _ h9 => h9) (ft := vI (-2147483648) 2147483647) rfl dX10_readNumber_15 (fun u_2 hv_u_2 m_u_2 => ?_)
    obtain ⟨vu_2, rfl, r_vu_2⟩ := hv_u_2
    have q_vu_2 : s0.1 8 = vu_2 := OV.eqI (V := vw_MODEL) hw.2.2.1 o_p0 m_u_2 (by decide)
    refine lv_iload_n hx hb dX10_readNumber_18 rfl (lv_at hl 1 rfl) ?_
    refine lv_iload_n hx hb dX10_readNumber_19 rfl (lv_at hl 2 rfl) ?_
    refine tk_ir (va_runS (As := [.int vu_2, .int p1, .int p2]) (rest := []) ⟨hx, hb, hml, hown, hts⟩ (c_X10_isIn__14 l D cy z s.heap.size Ps w0 hw.1 vu_2 p1 p2 r_vu_2 r_p1 r_p2) (va_cwS 3 hts (gS tw_1359 tw_1360 tw_15 tw_1361) rfl rfl rfl (by decide +kernel) ⟨Nat.le_of_ble_eq_true rfl, Nat.le_of_ble_eq_true rfl⟩) (tg_preS hw hK hSD hA) rfl rfl hl.1 rfl (lv_room (Nat.le_of_ble_eq_true rfl)) dX10_readNumber_20 ⟨Nat.le_of_ble_eq_true rfl, Nat.le_of_ble_eq_true rfl⟩) hw hA (fun v_3  H locs hp_v_3 hw => ?_)
    obtain ⟨hfn, hp_v_3⟩ := hp_v_3
    have q_v_3 : (f_X10_isIn__14 vu_2 p1 p2) = v_3 := hfn.1
    have r_v_3 : RI v_3 0 1 := hp_v_3.1
    refine lv_if_ne (tgt := 32) hx hb dX10_readNumber_23 (by decide) (fun c_23 => ?_) (fun c_23 => ?_)
    · have r_v_3 : RI v_3 1 1 := rc_neL r_v_3 rl_0 (ti_ne c_23) (by decide)
      have r_vu_2 : RI vu_2 1 20 := ((hp_v_3.2.2 c_23).1)
      refine lv_aload_n hx hb dX10_readNumber_32 rfl (lv_at hl 0 rfl) ?_
      refine lv_aload_n hx hb dX10_readNumber_33 rfl (lv_at hl 0 rfl) ?_
      refine tg_mem (ci := 10) (C := RX10) (T := TX10) (N := 49) hx hb hts inX10 hown hK hw 8 m_u_2 rfl (by decide) (hts _ tw_1145) (fun _ h9 => h9) dX10_readNumber_34 ?_
      refine tg_put (ci := 10) (ts := ty_MODEL) (v := .int vu_2) (ty := .int) (C := RX10) (T := TX10) (N := 49) hx hb hts inX10 tyX10 tyX10_ok nmX10 hown hK hw h_p0 rfl rfl 13 (by decide) (hts _ tw_1150) (fun _ h9 => h9) rfl (by decide +kernel) rfl rfl (ft := vI (-2147483648) 2147483647) rfl ⟨_, rfl, (r_vu_2.to (by decide))⟩ (by decide) dX10_readNumber_37 (fun ws H locs hw n_k_4 hF9 => ?_)
      have m_u_1 := FLD.over hF9 m_u_1 (by decide)
      have m_u_2 := FLD.over hF9 m_u_2 (by decide)
      have x_TO_p0_gh := TOP.over hF9 x_TO_p0_gh (by decide)
      obtain ⟨sg_5, q_sg_5⟩ : ∃ q9 : OS, sI s0 13 vu_2 = q9 := ⟨_, rfl⟩
      have o_p0 : OV vw_MODEL Ps ws p0 sg_5 := by rw [← q_sg_5]; exact OV.putI (V := vw_MODEL) hF9 n_k_4 o_p0 (by decide)
      refine lv_aload_n hx hb dX10_readNumber_40 rfl (lv_at hl 0 rfl) ?_
      refine tk_v (va_runV (As := []) (rest := []) ⟨hx, hb, hml, hown, hts⟩ (c_X10_go__2 l D cy z H.size Ps ws hw.1 p0 (gh) sg_5 h_p0 x_TO_p0_gh o_p0) (cwV 0 hts (gV tw_1298 tw_1300 ts_40 tw_15 tw_1301) rfl rfl rfl (by decide +kernel) ⟨Nat.le_of_ble_eq_true rfl, Nat.le_of_ble_eq_true rfl⟩) (tg_preV hw hK hSD hA (ci := 10) (q := (RX10, TX10, 49)) rfl h_p0 rfl) rfl rfl hl.1 rfl (lv_room (Nat.le_of_ble_eq_true rfl)) dX10_readNumber_41 ⟨Nat.le_of_ble_eq_true rfl, Nat.le_of_ble_eq_true rfl⟩) hw hA ⟨by decide, by decide⟩ (fun ws H locs hp_v_6 hw hF9 => ?_)
      have n_k_4 := FLD.over hF9 n_k_4 (by decide)
      obtain ⟨hfn, hp_v_6⟩ := hp_v_6
      obtain ⟨sg_7, q_sg_7⟩ : ∃ q9 : OS, (f_X10_go__2 sg_5) = q9 := ⟨_, rfl⟩
      have o_p0 : OV vw_MODEL Ps ws p0 sg_7 := by rw [← q_sg_7]; exact hfn.1
      have x_TOK_p0_gh := (hp_v_6.1)
      refine lv_iconst (v := 1) hx hb dX10_readNumber_44 (by decide) ?_
      simp only [f_X10_readNumber__7, ↓reduceIte, q_vu_1, eq_true c_5, q_vu_2, q_v_3, eq_false c_23, q_sg_5, q_sg_7] at hE
      subst hQ
      exact W.zret (v := 1) hx hb hr (rfl) (fun t ht hW => ⟨⟨1, ws, rfl, ⟨⟨⟨(by rw [hR, ← hE]; exact o_p0), (by rw [hR, ← hE]), trivial⟩, rl_1.to (by decide), (fun _ => trivial), (fun h0 => ⟨⟨_, n_k_4, r_vu_2⟩, x_TOK_p0_gh, trivial⟩)⟩, hw.1, hw.2.2.2.2.1⟩, by rw [ht]; exact hw.2.1, va_K.moved hW.alike hK, hw.2.2.1⟩, hw.2.2.2.1.F ht⟩) hw.2.2.2.1.2.2 dX10_readNumber_45
    · have r_v_3 : RI v_3 0 0 := rc_eq1 r_v_3 rl_0 (ti_eq c_23) (by decide)
      refine lv_aload_n hx hb dX10_readNumber_26 rfl (lv_at hl 0 rfl) ?_
      refine lv_iconst (v := 2) hx hb dX10_readNumber_27 (by decide) ?_
      refine tk_i (va_runV (As := [.int 2]) (rest := []) ⟨hx, hb, hml, hown, hts⟩ (c_X10_bad__1 l D cy z H.size Ps w0 hw.1 p0 2 s0 h_p0 (rl_2.to (by decide)) o_p0) (cwV 1 hts (gV tw_1336 tw_1338 ts_46 tw_15 tw_1339) rfl rfl rfl (by decide +kernel) ⟨Nat.le_of_ble_eq_true rfl, Nat.le_of_ble_eq_true rfl⟩) (tg_preV hw hK hSD hA (ci := 10) (q := (RX10, TX10, 49)) rfl h_p0 rfl) rfl rfl hl.1 rfl (lv_room (Nat.le_of_ble_eq_true rfl)) dX10_readNumber_28 ⟨Nat.le_of_ble_eq_true rfl, Nat.le_of_ble_eq_true rfl⟩) hw hA ⟨by decide, by decide⟩ (fun v_8 ws H locs hp_v_8 hw hF9 => ?_)
      have m_u_1 := FLD.over hF9 m_u_1 (by decide)
      have m_u_2 := FLD.over hF9 m_u_2 (by decide)
      have x_TO_p0_gh := TOP.over hF9 x_TO_p0_gh (by decide)
      obtain ⟨hfn, hp_v_8⟩ := hp_v_8
      obtain ⟨sg_9, q_sg_9⟩ : ∃ q9 : OS, (f_X10_bad__1 (2 : Int32) s0).1 = q9 := ⟨_, rfl⟩
      have o_p0 : OV vw_MODEL Ps ws p0 sg_9 := by rw [← q_sg_9]; exact hfn.1
      have q_v_8 : (f_X10_bad__1 (2 : Int32) s0).2 = v_8 := hfn.2.1
      have r_v_8 : RI v_8 0 0 := hp_v_8.1
      simp only [f_X10_readNumber__7, ↓reduceIte, q_vu_1, eq_true c_5, q_vu_2, q_v_3, eq_true c_23, q_sg_9, q_v_8] at hE
      subst hQ
      exact W.zret (v := v_8) hx hb hr (tq_nz (r_v_8.to (by decide))) (fun t ht hW => ⟨⟨v_8, ws, rfl, ⟨⟨⟨(by rw [hR, ← hE]; exact o_p0), (by rw [hR, ← hE]), trivial⟩, r_v_8.to (by decide), (fun h0 => trivial), (fun h0 => absurd (Int32.toInt_inj.mp (by have h8 := r_v_8; unfold RI at h8; rw [Int32.toInt_zero]; omega)) h0)⟩, hw.1, hw.2.2.2.2.1⟩, by rw [ht]; exact hw.2.1, va_K.moved hW.alike hK, hw.2.2.1⟩, hw.2.2.2.1.F ht⟩) hw.2.2.2.1.2.2 dX10_readNumber_31
  · refine lv_aload_n hx hb dX10_readNumber_8 rfl (lv_at hl 0 rfl) ?_
    refine lv_iconst (v := 1) hx hb dX10_readNumber_9 (by decide) ?_
    refine tk_i (va_runV (As := [.int 1]) (rest := []) ⟨hx, hb, hml, hown, hts⟩ (c_X10_bad__1 l D cy z s.heap.size Ps w0 hw.1 p0 1 s0 h_p0 (rl_1.to (by decide)) o_p0) (cwV 1 hts (gV tw_1336 tw_1338 ts_46 tw_15 tw_1339) rfl rfl rfl (by decide +kernel) ⟨Nat.le_of_ble_eq_true rfl, Nat.le_of_ble_eq_true rfl⟩) (tg_preV hw hK hSD hA (ci := 10) (q := (RX10, TX10, 49)) rfl h_p0 rfl) rfl rfl hl.1 rfl (lv_room (Nat.le_of_ble_eq_true rfl)) dX10_readNumber_10 ⟨Nat.le_of_ble_eq_true rfl, Nat.le_of_ble_eq_true rfl⟩) hw hA ⟨by decide, by decide⟩ (fun v_10 ws H locs hp_v_10 hw hF9 => ?_)
    have m_u_1 := FLD.over hF9 m_u_1 (by decide)
    have x_TO_p0_gh := TOP.over hF9 x_TO_p0_gh (by decide)
    obtain ⟨hfn, hp_v_10⟩ := hp_v_10
    obtain ⟨sg_11, q_sg_11⟩ : ∃ q9 : OS, (f_X10_bad__1 (1 : Int32) s0).1 = q9 := ⟨_, rfl⟩
    have o_p0 : OV vw_MODEL Ps ws p0 sg_11 := by rw [← q_sg_11]; exact hfn.1
    have q_v_10 : (f_X10_bad__1 (1 : Int32) s0).2 = v_10 := hfn.2.1
    have r_v_10 : RI v_10 0 0 := hp_v_10.1
    simp only [f_X10_readNumber__7, ↓reduceIte, q_vu_1, eq_false c_5, q_sg_11, q_v_10] at hE
    subst hQ
    exact W.zret (v := v_10) hx hb hr (tq_nz (r_v_10.to (by decide))) (fun t ht hW => ⟨⟨v_10, ws, rfl, ⟨⟨⟨(by rw [hR, ← hE]; exact o_p0), (by rw [hR, ← hE]), trivial⟩, r_v_10.to (by decide), (fun h0 => trivial), (fun h0 => absurd (Int32.toInt_inj.mp (by have h8 := r_v_10; unfold RI at h8; rw [Int32.toInt_zero]; omega)) h0)⟩, hw.1, hw.2.2.2.2.1⟩, by rw [ht]; exact hw.2.1, va_K.moved hW.alike hK, hw.2.2.1⟩, hw.2.2.2.1.F ht⟩) hw.2.2.2.1.2.2 dX10_readNumber_13
abbrev wr_X10_put__16 : List (Nat × Nat) := []
abbrev wa_X10_put__16 : List Nat := []
set_option maxHeartbeats 4000000 in
set_option maxRecDepth 100000 in
theorem c_X10_put__16 (l : Launch) (D : va_G) (cy : Nat → ClassId) (z : Nat → Nat) (sz : Nat) (Ps : PSI) (w0 : va_W) (hT : HT cy GG Ps w0) (p0 : Nat) (p1 : Int32) (p2 : Int32) (F : (Nat → Int32) → Prop) (F2 : (Nat → Int32) → Prop) (s0 : OS) (h_p0 : (p0, 55) ∈ Ps) (r_p1 : RI p1 5 5) (r_p2 : RI p2 0 0) (x_F : AX 15 35 F Ps w0 p0) (hF : ∀ (f : Nat → Int32) (v : Int32), RI v (-2147483648) 2147483647 → F f → F2 (upd f (Int32.toNatClampNeg p1) v)) (o_p0 : OV vw_MODEL Ps w0 p0 s0) : Met l yX10_put (Cond.code yX10_put cX10_put 3 (some .boolean) :: gT) ({ frames := 0, cells := 0, slots := 0, locals := 200 } : Room) (va_Pc [.ref p0, .int p1, .int p2] (PRE D cy z w0 sz)) (va_Qi (fun (r : Int32) (u : Unit) => ((f_X10_put__16 p1 p2 s0) = r ∧ True) ∧ (RI r 0 0 ∧ (r = 0 → AX 15 35 F Ps w0 p0 ∧ True) ∧ (¬ r = 0 → AX 15 35 F2 Ps w0 p0 ∧ True))) (BB D cy (va_A w0 sz) (fun (u : Unit) => w0)) (va_A w0 sz)) 0 0 (va_A w0 sz) := by
  refine Met.ofW (cc := cX10_put) (maxL := 3) (ret := (some .boolean)) (by decide) rfl ?_
  intro p e s m args below meth c s₁ B hml hv
  obtain ⟨rfl, hsz, hP, hK, hD0, hSD⟩ := hv
  have hx := B.exec
  have hb := B.bytes
  have hr := B.returns
  have hlocks := B.notSynchronized
  have hts : ∀ w ∈ gT, w.before _ s = true := fun w h => atoms_spec (ws := Cond.code yX10_put cX10_put 3 (some .boolean) :: gT) B.pre w (List.mem_cons_of_mem _ h)
  have hown : s.vm.findClass RX10 = some m.cls := findClass_of_methodNamed B.named
  subst hsz
  have hD := hD0.self (sz := s.heap.size)
  generalize hAe : va_A w0 s.heap.size = A at hD hSD ⊢
  have hA : ∀ q : Nat, s.heap.size ≤ q → A q := fun q h => by rw [← hAe]; exact Or.inr h
  have hl := lv_entry ([.ref p0, .int p1, .int p2]) (n := 3) (Nat.le_of_ble_eq_true rfl)
  rw [lg_entry_eq]
  generalize (lg_sl ([.ref p0, .int p1, .int p2]) ++ List.replicate (3 - (lg_sl ([.ref p0, .int p1, .int p2])).length) Slot.unset).toArray = ls at hl ⊢
  have hl : lv_has ls 3 [(0, .ref p0), (1, .int p1), (2, .int p2)] := hl
  refine nameQ (fun Q hQ => ?_)
  have hw : WD D cy GG A s wr_X10_put__16 wa_X10_put__16 Ps w0 Ps w0 s.heap [] := ⟨hT, hP, hD, va_S.rf, FR.rf, hT.1, [], (List.append_nil _).symm⟩
  obtain ⟨R9, hR⟩ : ∃ q9 : Int32, f_X10_put__16 p1 p2 s0 = q9 := ⟨_, rfl⟩
  have hE := hR
  refine lv_iload_n hx hb dX10_put_0 rfl (lv_at hl 2 rfl) ?_
  refine lv_if_eq (tgt := 14) hx hb dX10_put_1 (by decide) (fun c_1 => ?_) (fun c_1 => ?_)
  · refine lv_iload_n hx hb dX10_put_14 rfl (lv_at hl 2 rfl) ?_
    simp only [f_X10_put__16, ↓reduceIte, eq_true c_1] at hE
    subst hQ
    exact W.zret (v := p2) hx hb hr (tq_nz (r_p2.to (by decide))) (fun t ht hW => ⟨⟨p2, (), rfl, ⟨⟨(by rw [hR, ← hE]), trivial⟩, r_p2.to (by decide), (fun h0 => ⟨x_F, trivial⟩), (fun h0 => absurd (Int32.toInt_inj.mp (by have h8 := r_p2; unfold RI at h8; rw [Int32.toInt_zero]; omega)) h0)⟩, by rw [ht]; exact hw.2.1, va_K.moved hW.alike hK, hw.2.2.1⟩, hw.2.2.2.1.F ht⟩) hw.2.2.2.1.2.2 dX10_put_15
  · exact absurd (r_p2.eq.trans rl_0.eq.symm) ((ti_ne c_1))
abbrev wr_X10_put__17 : List (Nat × Nat) := []
abbrev wa_X10_put__17 : List Nat := [35]
set_option maxHeartbeats 4000000 in
set_option maxRecDepth 100000 in
theorem c_X10_put__17 (l : Launch) (D : va_G) (cy : Nat → ClassId) (z : Nat → Nat) (sz : Nat) (Ps : PSI) (w0 : va_W) (hT : HT cy GG Ps w0) (p0 : Nat) (p1 : Int32) (p2 : Int32) (f0_13 : Int32) (F : (Nat → Int32) → Prop) (F2 : (Nat → Int32) → Prop) (s0 : OS) (h_p0 : (p0, 55) ∈ Ps) (r_p1 : RI p1 5 5) (r_p2 : RI p2 1 1) (r_f0_13 : RI f0_13 1 20) (m_f0_13 : FLD w0 p0 10 13 (.int f0_13)) (x_F : AX 15 35 F Ps w0 p0) (hF : ∀ (f : Nat → Int32) (v : Int32), RI v 1 20 → F f → F2 (upd f (Int32.toNatClampNeg p1) v)) (o_p0 : OV vw_MODEL Ps w0 p0 s0) : Met l yX10_put (Cond.code yX10_put cX10_put 3 (some .boolean) :: gT) ({ frames := 0, cells := 0, slots := 0, locals := 200 } : Room) (va_Pc [.ref p0, .int p1, .int p2] (PRE D cy z w0 sz)) (va_Qi (fun (r : Int32) (u : va_W) => ((OV vw_MODEL Ps u p0 ((f_X10_put__17 p1 p2 s0).1) ∧ (f_X10_put__17 p1 p2 s0).2 = r ∧ True) ∧ (RI r 1 1 ∧ (r = 0 → AX 15 35 F Ps u p0 ∧ True) ∧ (¬ r = 0 → (∃ v9 : Int32, FLD u p0 10 13 (.int v9) ∧ RI v9 1 20) ∧ AX 15 35 F2 Ps u p0 ∧ True))) ∧ HT cy GG Ps u ∧ FR wr_X10_put__17 wa_X10_put__17 Ps w0 u) (BB D cy (va_A w0 sz) (fun (u : va_W) => u)) (va_A w0 sz)) 0 0 (va_A w0 sz) := by
  refine Met.ofW (cc := cX10_put) (maxL := 3) (ret := (some .boolean)) (by decide) rfl ?_
  intro p e s m args below meth c s₁ B hml hv
  obtain ⟨rfl, hsz, hP, hK, hD0, hSD⟩ := hv
  have hx := B.exec
  have hb := B.bytes
  have hr := B.returns
  have hlocks := B.notSynchronized
  have hts : ∀ w ∈ gT, w.before _ s = true := fun w h => atoms_spec (ws := Cond.code yX10_put cX10_put 3 (some .boolean) :: gT) B.pre w (List.mem_cons_of_mem _ h)
  have hown : s.vm.findClass RX10 = some m.cls := findClass_of_methodNamed B.named
  subst hsz
  have hD := hD0.self (sz := s.heap.size)
  generalize hAe : va_A w0 s.heap.size = A at hD hSD ⊢
  have hA : ∀ q : Nat, s.heap.size ≤ q → A q := fun q h => by rw [← hAe]; exact Or.inr h
  have hl := lv_entry ([.ref p0, .int p1, .int p2]) (n := 3) (Nat.le_of_ble_eq_true rfl)
  rw [lg_entry_eq]
  generalize (lg_sl ([.ref p0, .int p1, .int p2]) ++ List.replicate (3 - (lg_sl ([.ref p0, .int p1, .int p2])).length) Slot.unset).toArray = ls at hl ⊢
  have hl : lv_has ls 3 [(0, .ref p0), (1, .int p1), (2, .int p2)] := hl
  refine nameQ (fun Q hQ => ?_)
  have hw : WD D cy GG A s wr_X10_put__17 wa_X10_put__17 Ps w0 Ps w0 s.heap [] := ⟨hT, hP, hD, va_S.rf, FR.rf, hT.1, [], (List.append_nil _).symm⟩
  obtain ⟨R9, hR⟩ : ∃ q9 : OS × Int32, f_X10_put__17 p1 p2 s0 = q9 := ⟨_, rfl⟩
  have hE := hR
  refine lv_iload_n hx hb dX10_put_0 rfl (lv_at hl 2 rfl) ?_
  refine lv_if_eq (tgt := 14) hx hb dX10_put_1 (by decide) (fun c_1 => ?_) (fun c_1 => ?_)
  · have r_p2 : RI p2 1 0 := rc_eq1 r_p2 rl_0 (ti_eq c_1) (by decide)
    exact (r_p2.no (by decide)).elim
  · refine lv_aload_n hx hb dX10_put_4 rfl (lv_at hl 0 rfl) ?_
    refine tg_get (ci := 10) (ts := ty_MODEL) (C := RX10) (T := TX10) (N := 49) hx hb hts inX10 hown hK hw h_p0 rfl rfl 15 (by decide) (hts _ tw_1152) (fun _ h9 => h9) (ft := vR 35) rfl dX10_put_5 (fun u_1 hv_u_1 m_u_1 => ?_)
    obtain ⟨vu_1, rfl, h_vu_1⟩ := hv_u_1
    refine lv_iload_n hx hb dX10_put_8 rfl (lv_at hl 1 rfl) ?_
    refine lv_aload_n hx hb dX10_put_9 rfl (lv_at hl 0 rfl) ?_
    refine tg_mem (ci := 10) (C := RX10) (T := TX10) (N := 49) hx hb hts inX10 hown hK hw 13 m_f0_13 rfl (by decide) (hts _ tw_1150) (fun _ h9 => h9) dX10_put_10 ?_
    have q_f0_13 : s0.1 13 = f0_13 := OV.eqI (V := vw_MODEL) hw.2.2.1 o_p0 m_f0_13 (by decide)
    have mo9 := m_u_1
    refine tg_iast hx hb hK hw h_vu_1 rfl 5 5 r_p1 (by decide) r_f0_13 (by decide +kernel) (fun _ _ _ _ _ => trivial) (by decide) dX10_put_13 (fun ws H locs hw hF9 hU9 => ?_)
    have x_GFRB_p0 : AX 15 35 F2 Ps ws p0 := AX.ast hF9 hU9 x_F m_u_1 (fun f9 h9 => hF f9 _ r_f0_13 h9)
    have m_f0_13 := FLD.over hF9 m_f0_13 (by decide)
    have m_u_1 := FLD.over hF9 m_u_1 (by decide)
    obtain ⟨sg_2, q_sg_2⟩ : ∃ q9 : OS, sA s0 15 (Int32.toNatClampNeg p1) f0_13 = q9 := ⟨_, rfl⟩
    have o_p0 : OV vw_MODEL Ps ws p0 sg_2 := by rw [← q_sg_2]; exact OV.putA (V := vw_MODEL) (t := 35) hF9 hU9 o_p0 mo9 (by decide) (by decide)
    refine lv_iload_n hx hb dX10_put_14 rfl (lv_at hl 2 rfl) ?_
    simp only [f_X10_put__17, ↓reduceIte, eq_false c_1, q_f0_13, q_sg_2] at hE
    subst hQ
    exact W.zret (v := p2) hx hb hr (tq_nz (r_p2.to (by decide))) (fun t ht hW => ⟨⟨p2, ws, rfl, ⟨⟨⟨(by rw [hR, ← hE]; exact o_p0), (by rw [hR, ← hE]), trivial⟩, r_p2.to (by decide), (fun h0 => absurd (ti_eq h0) (by have h8 := r_p2; unfold RI at h8; rw [Int32.toInt_zero]; omega)), (fun h0 => ⟨⟨_, m_f0_13, r_f0_13⟩, x_GFRB_p0, trivial⟩)⟩, hw.1, hw.2.2.2.2.1⟩, by rw [ht]; exact hw.2.1, va_K.moved hW.alike hK, hw.2.2.1⟩, hw.2.2.2.1.F ht⟩) hw.2.2.2.1.2.2 dX10_put_15
abbrev wr_X10_readOnce__2 : List (Nat × Nat) := [(10, 5), (10, 6), (10, 7), (10, 8), (10, 9), (10, 10), (10, 11), (10, 12), (10, 13)]
abbrev wa_X10_readOnce__2 : List Nat := [35, 45]
set_option maxHeartbeats 4000000 in
set_option maxRecDepth 100000 in
theorem c_X10_readOnce__2 (l : Launch) (D : va_G) (cy : Nat → ClassId) (z : Nat → Nat) (sz : Nat) (Ps : PSI) (w0 : va_W) (hT : HT cy GG Ps w0) (p0 : Nat) (p1 : Int32) (p2 : Int32) (p3 : Int32) (p4 : Int32) (gh : Int) (s0 : OS) (h_p0 : (p0, 55) ∈ Ps) (r_p1 : RI p1 1 1) (r_p2 : RI p2 5 5) (r_p3 : RI p3 1 1) (r_p4 : RI p4 20 20) (x_TO_p0_gh : TOP w0 p0 (gh)) (x_RH_p0 : AX 15 35 (fun f => RH2p f) Ps w0 p0) (o_p0 : OV vw_MODEL Ps w0 p0 s0) : Met l yX10_readOnce (Cond.code yX10_readOnce cX10_readOnce 5 (some .boolean) :: gT) ({ frames := 4, cells := 0, slots := 0, locals := 800 } : Room) (va_Pc [.ref p0, .int p1, .int p2, .int p3, .int p4] (PRE D cy z w0 sz)) (va_Qi (fun (r : Int32) (u : va_W) => ((OV vw_MODEL Ps u p0 ((f_X10_readOnce__2 p1 p2 p3 p4 s0).1) ∧ (f_X10_readOnce__2 p1 p2 p3 p4 s0).2 = r ∧ True) ∧ (RI r 0 1 ∧ (r = 0 → True) ∧ (¬ r = 0 → (∃ v9 : Int32, FLD u p0 10 13 (.int v9) ∧ RI v9 1 20) ∧ TKP u p0 (gh) ∧ AX 15 35 (fun f => RH2p f) Ps u p0 ∧ True))) ∧ HT cy GG Ps u ∧ FR wr_X10_readOnce__2 wa_X10_readOnce__2 Ps w0 u) (BB D cy (va_A w0 sz) (fun (u : va_W) => u)) (va_A w0 sz)) 0 0 (va_A w0 sz) := by
  refine Met.ofW (cc := cX10_readOnce) (maxL := 5) (ret := (some .boolean)) (by decide) rfl ?_
  intro p e s m args below meth c s₁ B hml hv
  obtain ⟨rfl, hsz, hP, hK, hD0, hSD⟩ := hv
  have hx := B.exec
  have hb := B.bytes
  have hr := B.returns
  have hlocks := B.notSynchronized
  have hts : ∀ w ∈ gT, w.before _ s = true := fun w h => atoms_spec (ws := Cond.code yX10_readOnce cX10_readOnce 5 (some .boolean) :: gT) B.pre w (List.mem_cons_of_mem _ h)
  have hown : s.vm.findClass RX10 = some m.cls := findClass_of_methodNamed B.named
  subst hsz
  have hD := hD0.self (sz := s.heap.size)
  generalize hAe : va_A w0 s.heap.size = A at hD hSD ⊢
  have hA : ∀ q : Nat, s.heap.size ≤ q → A q := fun q h => by rw [← hAe]; exact Or.inr h
  have hl := lv_entry ([.ref p0, .int p1, .int p2, .int p3, .int p4]) (n := 5) (Nat.le_of_ble_eq_true rfl)
  rw [lg_entry_eq]
  generalize (lg_sl ([.ref p0, .int p1, .int p2, .int p3, .int p4]) ++ List.replicate (5 - (lg_sl ([.ref p0, .int p1, .int p2, .int p3, .int p4])).length) Slot.unset).toArray = ls at hl ⊢
  have hl : lv_has ls 5 [(0, .ref p0), (1, .int p1), (2, .int p2), (3, .int p3), (4, .int p4)] := hl
  refine nameQ (fun Q hQ => ?_)
  have hw : WD D cy GG A s wr_X10_readOnce__2 wa_X10_readOnce__2 Ps w0 Ps w0 s.heap [] := ⟨hT, hP, hD, va_S.rf, FR.rf, hT.1, [], (List.append_nil _).symm⟩
  obtain ⟨R9, hR⟩ : ∃ q9 : OS × Int32, f_X10_readOnce__2 p1 p2 p3 p4 s0 = q9 := ⟨_, rfl⟩
  have hE := hR
  refine lv_aload_n hx hb dX10_readOnce_0 rfl (lv_at hl 0 rfl) ?_
  refine tg_get (ci := 10) (ts := ty_MODEL) (C := RX10) (T := TX10) (N := 49) hx hb hts inX10 hown hK hw h_p0 rfl rfl 24 (by decide) (hts _ tw_1161) (fun _ h9 => h9) (ft := vR 45) rfl dX10_readOnce_1 (fun u_1 hv_u_1 m_u_1 => ?_)
  obtain ⟨vu_1, rfl, h_vu_1⟩ := hv_u_1
  refine lv_iload_n hx hb dX10_readOnce_4 rfl (lv_at hl 1 rfl) ?_
  refine tg_zaldE (lo := (-2147483648)) (hi := 2147483647) hx hb hK hw h_vu_1 rfl 1 1 r_p1 (by decide) (by exact fun _ _ _ => ⟨Int.le_refl _, Int.le_refl _⟩) dX10_readOnce_5 (fun v_2 r_v_2 l_v_2 => ?_)
  have q_v_2 : s0.2.2.1 24 (Int32.toNatClampNeg p1) = v_2 := OV.eqA (V := vw_MODEL) (t := 45) hw.2.2.1 o_p0 m_u_1 l_v_2 (by decide)
  refine lv_if_eq (tgt := 15) hx hb dX10_readOnce_6 (by decide) (fun c_6 => ?_) (fun c_6 => ?_)
  · have r_v_2 : RI v_2 0 0 := rc_eq1 r_v_2 rl_0 (ti_eq c_6) (by decide)
    refine lv_aload_n hx hb dX10_readOnce_15 rfl (lv_at hl 0 rfl) ?_
    refine tg_mem (ci := 10) (C := RX10) (T := TX10) (N := 49) hx hb hts inX10 hown hK hw 24 m_u_1 rfl (by decide) (hts _ tw_1161) (fun _ h9 => h9) dX10_readOnce_16 ?_
    refine lv_iload_n hx hb dX10_readOnce_19 rfl (lv_at hl 1 rfl) ?_
    refine lv_iconst (v := 1) hx hb dX10_readOnce_20 (by decide) ?_
    have mo9 := m_u_1
    refine tg_zastE hx hb hK hw h_vu_1 rfl 1 1 r_p1 (by decide) (by decide) dX10_readOnce_21 (fun ws H locs hw hF9 hU9 => ?_)
    have x_TO_p0_gh := TOP.over hF9 x_TO_p0_gh (by decide)
    have x_RH_p0 := AX.over hF9 x_RH_p0 (by decide)
    have m_u_1 := FLD.over hF9 m_u_1 (by decide)
    obtain ⟨sg_3, q_sg_3⟩ : ∃ q9 : OS, sA s0 24 (Int32.toNatClampNeg p1) (vp_nar .boolean (1 : Int32)) = q9 := ⟨_, rfl⟩
    have o_p0 : OV vw_MODEL Ps ws p0 sg_3 := by rw [← q_sg_3]; exact OV.putA (V := vw_MODEL) (t := 45) hF9 hU9 o_p0 mo9 (by decide) (by decide)
    refine lv_aload_n hx hb dX10_readOnce_22 rfl (lv_at hl 0 rfl) ?_
    refine tk_v (va_runV (As := []) (rest := []) ⟨hx, hb, hml, hown, hts⟩ (c_X10_go__2 l D cy z H.size Ps ws hw.1 p0 (gh) sg_3 h_p0 x_TO_p0_gh o_p0) (cwV 0 hts (gV tw_1298 tw_1300 ts_40 tw_15 tw_1301) rfl rfl rfl (by decide +kernel) ⟨Nat.le_of_ble_eq_true rfl, Nat.le_of_ble_eq_true rfl⟩) (tg_preV hw hK hSD hA (ci := 10) (q := (RX10, TX10, 49)) rfl h_p0 rfl) rfl rfl hl.1 rfl (lv_room (Nat.le_of_ble_eq_true rfl)) dX10_readOnce_23 ⟨Nat.le_of_ble_eq_true rfl, Nat.le_of_ble_eq_true rfl⟩) hw hA ⟨by decide, by decide⟩ (fun ws H locs hp_v_4 hw hF9 => ?_)
    have m_u_1 := FLD.over hF9 m_u_1 (by decide)
    have x_RH_p0 := AX.over hF9 x_RH_p0 (by decide)
    obtain ⟨hfn, hp_v_4⟩ := hp_v_4
    obtain ⟨sg_5, q_sg_5⟩ : ∃ q9 : OS, (f_X10_go__2 sg_3) = q9 := ⟨_, rfl⟩
    have o_p0 : OV vw_MODEL Ps ws p0 sg_5 := by rw [← q_sg_5]; exact hfn.1
    have x_TOK_p0_gh := (hp_v_4.1)
    refine lv_aload_n hx hb dX10_readOnce_26 rfl (lv_at hl 0 rfl) ?_
    refine lv_iload_n hx hb dX10_readOnce_27 rfl (lv_at hl 2 rfl) ?_
    refine lv_aload_n hx hb dX10_readOnce_28 rfl (lv_at hl 0 rfl) ?_
    refine lv_iload_n hx hb dX10_readOnce_29 rfl (lv_at hl 3 rfl) ?_
    refine lv_iload hx hb dX10_readOnce_30 (lv_at hl 4 rfl) ?_
    have x_TO_p0_gh : TOP ws p0 (gh) := TKP.top x_TOK_p0_gh
    refine tk_i (va_runV (As := [.int p3, .int p4]) (rest := [.int p2, .ref p0]) ⟨hx, hb, hml, hown, hts⟩ (c_X10_readNumber__7 l D cy z H.size Ps ws hw.1 p0 p3 p4 (gh) sg_5 h_p0 r_p3 r_p4 x_TO_p0_gh o_p0) (cwV 2 hts (gV tw_1355 tw_1357 ts_50 tw_15 tw_1358) rfl rfl rfl (by decide +kernel) ⟨Nat.le_of_ble_eq_true rfl, Nat.le_of_ble_eq_true rfl⟩) (tg_preV hw hK hSD hA (ci := 10) (q := (RX10, TX10, 49)) rfl h_p0 rfl) rfl rfl hl.1 rfl (lv_room (Nat.le_of_ble_eq_true rfl)) dX10_readOnce_32 ⟨Nat.le_of_ble_eq_true rfl, Nat.le_of_ble_eq_true rfl⟩) hw hA ⟨by decide, by decide⟩ (fun v_6 ws H locs hp_v_6 hw hF9 => ?_)
    have m_u_1 := FLD.over hF9 m_u_1 (by decide)
    have x_RH_p0 := AX.over hF9 x_RH_p0 (by decide)
    obtain ⟨hfn, hp_v_6⟩ := hp_v_6
    obtain ⟨sg_7, q_sg_7⟩ : ∃ q9 : OS, (f_X10_readNumber__7 p3 p4 sg_5).1 = q9 := ⟨_, rfl⟩
    have o_p0 : OV vw_MODEL Ps ws p0 sg_7 := by rw [← q_sg_7]; exact hfn.1
    have q_v_6 : (f_X10_readNumber__7 p3 p4 sg_5).2 = v_6 := hfn.2.1
    have r_v_6 : RI v_6 0 1 := hp_v_6.1
    by_cases c9_v_6 : v_6 = 0
    · have r_v_6 : RI v_6 0 0 := by rw [c9_v_6]; exact rl_0
      refine tk_ir (va_runV (As := [.int p2, .int v_6]) (rest := []) ⟨hx, hb, hml, hown, hts⟩ (c_X10_put__16 l D cy z H.size Ps ws hw.1 p0 p2 v_6 (fun f => RH2p f ∧ True) (fun f => True) sg_7 h_p0 r_p2 r_v_6 (AX.and hw x_RH_p0 (rx_true hw h_p0)) (fun _ _ _ _ => trivial) o_p0) (cwV 2 hts (gV tw_1362 tw_1364 ts_51 tw_15 tw_1365) rfl rfl rfl (by decide +kernel) ⟨Nat.le_of_ble_eq_true rfl, Nat.le_of_ble_eq_true rfl⟩) (tg_preV hw hK hSD hA (ci := 10) (q := (RX10, TX10, 49)) rfl h_p0 rfl) rfl rfl hl.1 rfl (lv_room (Nat.le_of_ble_eq_true rfl)) dX10_readOnce_35 ⟨Nat.le_of_ble_eq_true rfl, Nat.le_of_ble_eq_true rfl⟩) hw hA (fun v_8  H locs hp_v_8 hw => ?_)
      obtain ⟨hfn, hp_v_8⟩ := hp_v_8
      have q_v_8 : (f_X10_put__16 p2 v_6 sg_7) = v_8 := hfn.1
      have r_v_8 : RI v_8 0 0 := hp_v_8.1
      by_cases c9_v_8 : v_8 = 0
      · have r_v_8 : RI v_8 0 0 := by rw [c9_v_8]; exact rl_0
        have x_RH_p0 : AX 15 35 (fun f => RH2p f) Ps ws p0 := AX.imp ((hp_v_8.2.1 c9_v_8).1) (fun _ h9 => h9.1)
        simp only [f_X10_readOnce__2, ↓reduceIte, q_v_2, eq_true c_6, q_sg_3, q_sg_5, q_sg_7, q_v_6, eq_true c9_v_6, q_v_8, eq_true c9_v_8] at hE
        subst hQ
        exact W.zret (v := v_8) hx hb hr (tq_nz (r_v_8.to (by decide))) (fun t ht hW => ⟨⟨v_8, ws, rfl, ⟨⟨⟨(by rw [hR, ← hE]; exact o_p0), (by rw [hR, ← hE]), trivial⟩, r_v_8.to (by decide), (fun h0 => trivial), (fun h0 => absurd (Int32.toInt_inj.mp (by have h8 := r_v_8; unfold RI at h8; rw [Int32.toInt_zero]; omega)) h0)⟩, hw.1, hw.2.2.2.2.1⟩, by rw [ht]; exact hw.2.1, va_K.moved hW.alike hK, hw.2.2.1⟩, hw.2.2.2.1.F ht⟩) hw.2.2.2.1.2.2 dX10_readOnce_38
      · exact absurd (Int32.toInt_inj.mp (by rw [Int32.toInt_zero]; unfold RI at r_v_8; omega)) c9_v_8
    · have r_v_6 : RI v_6 1 1 := rc_neL r_v_6 rl_0 (ti_ne c9_v_6) (by decide)
      obtain ⟨v_9, m_v_9, r_v_9⟩ := ((hp_v_6.2.2 c9_v_6).1)
      have x_TOK_p0_gh := ((hp_v_6.2.2 c9_v_6).2.1)
      refine tk_i (va_runV (As := [.int p2, .int v_6]) (rest := []) ⟨hx, hb, hml, hown, hts⟩ (c_X10_put__17 l D cy z H.size Ps ws hw.1 p0 p2 v_6 v_9 (fun f => RH2p f ∧ True) (fun f => RH2p f ∧ True) sg_7 h_p0 r_p2 r_v_6 r_v_9 m_v_9 (AX.and hw x_RH_p0 (rx_true hw h_p0)) (fun f9 v9 hv9 H9 => ⟨(have h9 := H9.1; RH_put h9 (Int.le_trans (by decide) hv9.1) (by have k4 := r_p2.cl (by decide); have k5 := r_p2; unfold RI at k5; omega)), trivial⟩) o_p0) (cwV 2 hts (gV tw_1362 tw_1364 ts_51 tw_15 tw_1365) rfl rfl rfl (by decide +kernel) ⟨Nat.le_of_ble_eq_true rfl, Nat.le_of_ble_eq_true rfl⟩) (tg_preV hw hK hSD hA (ci := 10) (q := (RX10, TX10, 49)) rfl h_p0 rfl) rfl rfl hl.1 rfl (lv_room (Nat.le_of_ble_eq_true rfl)) dX10_readOnce_35 ⟨Nat.le_of_ble_eq_true rfl, Nat.le_of_ble_eq_true rfl⟩) hw hA ⟨by decide, by decide⟩ (fun v_10 ws H locs hp_v_10 hw hF9 => ?_)
      have m_u_1 := FLD.over hF9 m_u_1 (by decide)
      have m_v_9 := FLD.over hF9 m_v_9 (by decide)
      have x_TOK_p0_gh := TKP.over hF9 x_TOK_p0_gh (by decide)
      obtain ⟨hfn, hp_v_10⟩ := hp_v_10
      obtain ⟨sg_11, q_sg_11⟩ : ∃ q9 : OS, (f_X10_put__17 p2 v_6 sg_7).1 = q9 := ⟨_, rfl⟩
      have o_p0 : OV vw_MODEL Ps ws p0 sg_11 := by rw [← q_sg_11]; exact hfn.1
      have q_v_10 : (f_X10_put__17 p2 v_6 sg_7).2 = v_10 := hfn.2.1
      have r_v_10 : RI v_10 1 1 := hp_v_10.1
      by_cases c9_v_10 : v_10 = 0
      · exact absurd (ti_eq c9_v_10) (by unfold RI at r_v_10; rw [Int32.toInt_zero]; omega)
      · obtain ⟨v_12, m_v_12, r_v_12⟩ := ((hp_v_10.2.2 c9_v_10).1)
        have x_RH_p0 : AX 15 35 (fun f => RH2p f) Ps ws p0 := AX.imp ((hp_v_10.2.2 c9_v_10).2.1) (fun _ h9 => h9.1)
        simp only [f_X10_readOnce__2, ↓reduceIte, q_v_2, eq_true c_6, q_sg_3, q_sg_5, q_sg_7, q_v_6, eq_false c9_v_6, q_sg_11, q_v_10, eq_false c9_v_10] at hE
        subst hQ
        exact W.zret (v := v_10) hx hb hr (tq_nz (r_v_10.to (by decide))) (fun t ht hW => ⟨⟨v_10, ws, rfl, ⟨⟨⟨(by rw [hR, ← hE]; exact o_p0), (by rw [hR, ← hE]), trivial⟩, r_v_10.to (by decide), (fun _ => trivial), (fun h0 => ⟨⟨_, m_v_12, r_v_12⟩, x_TOK_p0_gh, x_RH_p0, trivial⟩)⟩, hw.1, hw.2.2.2.2.1⟩, by rw [ht]; exact hw.2.1, va_K.moved hW.alike hK, hw.2.2.1⟩, hw.2.2.2.1.F ht⟩) hw.2.2.2.1.2.2 dX10_readOnce_38
  · refine lv_aload_n hx hb dX10_readOnce_9 rfl (lv_at hl 0 rfl) ?_
    refine lv_iconst (v := 3) hx hb dX10_readOnce_10 (by decide) ?_
    refine tk_i (va_runV (As := [.int 3]) (rest := []) ⟨hx, hb, hml, hown, hts⟩ (c_X10_bad__1 l D cy z s.heap.size Ps w0 hw.1 p0 3 s0 h_p0 (rl_3.to (by decide)) o_p0) (cwV 1 hts (gV tw_1336 tw_1338 ts_46 tw_15 tw_1339) rfl rfl rfl (by decide +kernel) ⟨Nat.le_of_ble_eq_true rfl, Nat.le_of_ble_eq_true rfl⟩) (tg_preV hw hK hSD hA (ci := 10) (q := (RX10, TX10, 49)) rfl h_p0 rfl) rfl rfl hl.1 rfl (lv_room (Nat.le_of_ble_eq_true rfl)) dX10_readOnce_11 ⟨Nat.le_of_ble_eq_true rfl, Nat.le_of_ble_eq_true rfl⟩) hw hA ⟨by decide, by decide⟩ (fun v_13 ws H locs hp_v_13 hw hF9 => ?_)
    have m_u_1 := FLD.over hF9 m_u_1 (by decide)
    have x_TO_p0_gh := TOP.over hF9 x_TO_p0_gh (by decide)
    have x_RH_p0 := AX.over hF9 x_RH_p0 (by decide)
    obtain ⟨hfn, hp_v_13⟩ := hp_v_13
    obtain ⟨sg_14, q_sg_14⟩ : ∃ q9 : OS, (f_X10_bad__1 (3 : Int32) s0).1 = q9 := ⟨_, rfl⟩
    have o_p0 : OV vw_MODEL Ps ws p0 sg_14 := by rw [← q_sg_14]; exact hfn.1
    have q_v_13 : (f_X10_bad__1 (3 : Int32) s0).2 = v_13 := hfn.2.1
    have r_v_13 : RI v_13 0 0 := hp_v_13.1
    simp only [f_X10_readOnce__2, ↓reduceIte, q_v_2, eq_false c_6, q_sg_14, q_v_13] at hE
    subst hQ
    exact W.zret (v := v_13) hx hb hr (tq_nz (r_v_13.to (by decide))) (fun t ht hW => ⟨⟨v_13, ws, rfl, ⟨⟨⟨(by rw [hR, ← hE]; exact o_p0), (by rw [hR, ← hE]), trivial⟩, r_v_13.to (by decide), (fun h0 => trivial), (fun h0 => absurd (Int32.toInt_inj.mp (by have h8 := r_v_13; unfold RI at h8; rw [Int32.toInt_zero]; omega)) h0)⟩, hw.1, hw.2.2.2.2.1⟩, by rw [ht]; exact hw.2.1, va_K.moved hW.alike hK, hw.2.2.1⟩, hw.2.2.2.1.F ht⟩) hw.2.2.2.1.2.2 dX10_readOnce_14
abbrev wr_X10_isIn__15 : List (Nat × Nat) := []
abbrev wa_X10_isIn__15 : List Nat := []
set_option maxHeartbeats 4000000 in
set_option maxRecDepth 100000 in
theorem c_X10_isIn__15 (l : Launch) (D : va_G) (cy : Nat → ClassId) (z : Nat → Nat) (sz : Nat) (Ps : PSI) (w0 : va_W) (hT : HT cy GG Ps w0) (p0 : Int32) (p1 : Int32) (p2 : Int32) (r_p0 : RI p0 (-2147483648) 2147483647) (r_p1 : RI p1 0 0) (r_p2 : RI p2 5 5) : Met l yX10_isIn (Cond.code yX10_isIn cX10_isIn 3 (some .boolean) :: gT) ({ frames := 0, cells := 0, slots := 0, locals := 200 } : Room) (va_Pc [.int p0, .int p1, .int p2] (PRE D cy z w0 sz)) (va_Qi (fun (r : Int32) (u : Unit) => ((f_X10_isIn__14 p0 p1 p2) = r ∧ True) ∧ (RI r 0 1 ∧ (r = 0 → True) ∧ (¬ r = 0 → RI p0 0 5 ∧ True))) (BB D cy (va_A w0 sz) (fun (u : Unit) => w0)) (va_A w0 sz)) 0 0 (va_A w0 sz) := by
  refine Met.ofW (cc := cX10_isIn) (maxL := 3) (ret := (some .boolean)) (by decide) rfl ?_
  intro p e s m args below meth c s₁ B hml hv
  obtain ⟨rfl, hsz, hP, hK, hD0, hSD⟩ := hv
  have hx := B.exec
  have hb := B.bytes
  have hr := B.returns
  have hlocks := B.notSynchronized
  have hts : ∀ w ∈ gT, w.before _ s = true := fun w h => atoms_spec (ws := Cond.code yX10_isIn cX10_isIn 3 (some .boolean) :: gT) B.pre w (List.mem_cons_of_mem _ h)
  have hown : s.vm.findClass RX10 = some m.cls := findClass_of_methodNamed B.named
  subst hsz
  have hD := hD0.self (sz := s.heap.size)
  generalize hAe : va_A w0 s.heap.size = A at hD hSD ⊢
  have hA : ∀ q : Nat, s.heap.size ≤ q → A q := fun q h => by rw [← hAe]; exact Or.inr h
  have hl := lv_entry ([.int p0, .int p1, .int p2]) (n := 3) (Nat.le_of_ble_eq_true rfl)
  rw [lg_entry_eq]
  generalize (lg_sl ([.int p0, .int p1, .int p2]) ++ List.replicate (3 - (lg_sl ([.int p0, .int p1, .int p2])).length) Slot.unset).toArray = ls at hl ⊢
  have hl : lv_has ls 3 [(0, .int p0), (1, .int p1), (2, .int p2)] := hl
  refine nameQ (fun Q hQ => ?_)
  have hw : WD D cy GG A s wr_X10_isIn__15 wa_X10_isIn__15 Ps w0 Ps w0 s.heap [] := ⟨hT, hP, hD, va_S.rf, FR.rf, hT.1, [], (List.append_nil _).symm⟩
  obtain ⟨R9, hR⟩ : ∃ q9 : Int32, f_X10_isIn__14 p0 p1 p2 = q9 := ⟨_, rfl⟩
  have hE := hR
  refine lv_iload_n hx hb dX10_isIn_0 rfl (lv_at hl 0 rfl) ?_
  refine lv_iload_n hx hb dX10_isIn_1 rfl (lv_at hl 1 rfl) ?_
  refine lv_icmp_lt (tgt := 14) hx hb dX10_isIn_2 (by decide) (fun c_2 => ?_) (fun c_2 => ?_)
  · have r_p0 : RI p0 (-2147483648) (-1) := rc_lt1 r_p0 r_p1 (ti_lt c_2) (by decide)
    refine lv_iconst (v := 0) hx hb dX10_isIn_14 (by decide) ?_
    simp only [f_X10_isIn__14, ↓reduceIte, eq_true c_2] at hE
    subst hQ
    exact W.zret (v := 0) hx hb hr (rfl) (fun t ht hW => ⟨⟨0, (), rfl, ⟨⟨(by rw [hR, ← hE]), trivial⟩, rl_0.to (by decide), (fun h0 => trivial), (fun h0 => absurd rfl h0)⟩, by rw [ht]; exact hw.2.1, va_K.moved hW.alike hK, hw.2.2.1⟩, hw.2.2.2.1.F ht⟩) hw.2.2.2.1.2.2 dX10_isIn_15
  · have r_p0 : RI p0 0 2147483647 := rc_le2 r_p1 r_p0 (ti_nlt c_2) (by decide)
    refine lv_iload_n hx hb dX10_isIn_5 rfl (lv_at hl 0 rfl) ?_
    refine lv_iload_n hx hb dX10_isIn_6 rfl (lv_at hl 2 rfl) ?_
    refine lv_icmp_gt (tgt := 14) hx hb dX10_isIn_7 (by decide) (fun c_7 => ?_) (fun c_7 => ?_)
    · have r_p0 : RI p0 6 2147483647 := rc_lt2 r_p2 r_p0 (ti_lt c_7) (by decide)
      refine lv_iconst (v := 0) hx hb dX10_isIn_14 (by decide) ?_
      simp only [f_X10_isIn__14, ↓reduceIte, eq_false c_2, eq_true c_7] at hE
      subst hQ
      exact W.zret (v := 0) hx hb hr (rfl) (fun t ht hW => ⟨⟨0, (), rfl, ⟨⟨(by rw [hR, ← hE]), trivial⟩, rl_0.to (by decide), (fun h0 => trivial), (fun h0 => absurd rfl h0)⟩, by rw [ht]; exact hw.2.1, va_K.moved hW.alike hK, hw.2.2.1⟩, hw.2.2.2.1.F ht⟩) hw.2.2.2.1.2.2 dX10_isIn_15
    · have r_p0 : RI p0 0 5 := rc_le1 r_p0 r_p2 (ti_nlt c_7) (by decide)
      refine lv_iconst (v := 1) hx hb dX10_isIn_10 (by decide) ?_
      refine lv_goto (tgt := 15) hx hb dX10_isIn_11 (by decide) ?_
      simp only [f_X10_isIn__14, ↓reduceIte, eq_false c_2, eq_false c_7] at hE
      subst hQ
      exact W.zret (v := 1) hx hb hr (rfl) (fun t ht hW => ⟨⟨1, (), rfl, ⟨⟨(by rw [hR, ← hE]), trivial⟩, rl_1.to (by decide), (fun _ => trivial), (fun h0 => ⟨r_p0, trivial⟩)⟩, by rw [ht]; exact hw.2.1, va_K.moved hW.alike hK, hw.2.2.1⟩, hw.2.2.2.1.F ht⟩) hw.2.2.2.1.2.2 dX10_isIn_15
abbrev wr_X10_readNumber__8 : List (Nat × Nat) := [(10, 5), (10, 6), (10, 7), (10, 8), (10, 9), (10, 10), (10, 11), (10, 12), (10, 13)]
abbrev wa_X10_readNumber__8 : List Nat := []
set_option maxHeartbeats 4000000 in
set_option maxRecDepth 100000 in
theorem c_X10_readNumber__8 (l : Launch) (D : va_G) (cy : Nat → ClassId) (z : Nat → Nat) (sz : Nat) (Ps : PSI) (w0 : va_W) (hT : HT cy GG Ps w0) (p0 : Nat) (p1 : Int32) (p2 : Int32) (gh : Int) (s0 : OS) (h_p0 : (p0, 55) ∈ Ps) (r_p1 : RI p1 0 0) (r_p2 : RI p2 5 5) (x_TO_p0_gh : TOP w0 p0 (gh)) (o_p0 : OV vw_MODEL Ps w0 p0 s0) : Met l yX10_readNumber (Cond.code yX10_readNumber cX10_readNumber 3 (some .boolean) :: gT) ({ frames := 3, cells := 0, slots := 0, locals := 600 } : Room) (va_Pc [.ref p0, .int p1, .int p2] (PRE D cy z w0 sz)) (va_Qi (fun (r : Int32) (u : va_W) => ((OV vw_MODEL Ps u p0 ((f_X10_readNumber__7 p1 p2 s0).1) ∧ (f_X10_readNumber__7 p1 p2 s0).2 = r ∧ True) ∧ (RI r 0 1 ∧ (r = 0 → True) ∧ (¬ r = 0 → (∃ v9 : Int32, FLD u p0 10 13 (.int v9) ∧ RI v9 0 5) ∧ TKP u p0 (gh) ∧ True))) ∧ HT cy GG Ps u ∧ FR wr_X10_readNumber__8 wa_X10_readNumber__8 Ps w0 u) (BB D cy (va_A w0 sz) (fun (u : va_W) => u)) (va_A w0 sz)) 0 0 (va_A w0 sz) := by
  refine Met.ofW (cc := cX10_readNumber) (maxL := 3) (ret := (some .boolean)) (by decide) rfl ?_
  intro p e s m args below meth c s₁ B hml hv
  obtain ⟨rfl, hsz, hP, hK, hD0, hSD⟩ := hv
  have hx := B.exec
  have hb := B.bytes
  have hr := B.returns
  have hlocks := B.notSynchronized
  have hts : ∀ w ∈ gT, w.before _ s = true := fun w h => atoms_spec (ws := Cond.code yX10_readNumber cX10_readNumber 3 (some .boolean) :: gT) B.pre w (List.mem_cons_of_mem _ h)
  have hown : s.vm.findClass RX10 = some m.cls := findClass_of_methodNamed B.named
  subst hsz
  have hD := hD0.self (sz := s.heap.size)
  generalize hAe : va_A w0 s.heap.size = A at hD hSD ⊢
  have hA : ∀ q : Nat, s.heap.size ≤ q → A q := fun q h => by rw [← hAe]; exact Or.inr h
  have hl := lv_entry ([.ref p0, .int p1, .int p2]) (n := 3) (Nat.le_of_ble_eq_true rfl)
  rw [lg_entry_eq]
  generalize (lg_sl ([.ref p0, .int p1, .int p2]) ++ List.replicate (3 - (lg_sl ([.ref p0, .int p1, .int p2])).length) Slot.unset).toArray = ls at hl ⊢
  have hl : lv_has ls 3 [(0, .ref p0), (1, .int p1), (2, .int p2)] := hl
  refine nameQ (fun Q hQ => ?_)
  have hw : WD D cy GG A s wr_X10_readNumber__8 wa_X10_readNumber__8 Ps w0 Ps w0 s.heap [] := ⟨hT, hP, hD, va_S.rf, FR.rf, hT.1, [], (List.append_nil _).symm⟩
  obtain ⟨R9, hR⟩ : ∃ q9 : OS × Int32, f_X10_readNumber__7 p1 p2 s0 = q9 := ⟨_, rfl⟩
  have hE := hR
  refine lv_aload_n hx hb dX10_readNumber_0 rfl (lv_at hl 0 rfl) ?_
  refine tg_get (ci := 10) (ts := ty_MODEL) (C := RX10) (T := TX10) (N := 49) hx hb hts inX10 hown hK hw h_p0 rfl rfl 7 (by decide) (hts _ tw_1144) (fun _ h9 => h9) (ft := vI (-2147483648) 2147483647) rfl dX10_readNumber_1 (fun u_1 hv_u_1 m_u_1 => ?_)
  obtain ⟨vu_1, rfl, r_vu_1⟩ := hv_u_1
  have q_vu_1 : s0.1 7 = vu_1 := OV.eqI (V := vw_MODEL) hw.2.2.1 o_p0 m_u_1 (by decide)
  refine lv_iconst (v := 3) hx hb dX10_readNumber_4 (by decide) ?_
  refine lv_icmp_eq (tgt := 14) hx hb dX10_readNumber_5 (by decide) (fun c_5 => ?_) (fun c_5 => ?_)
  · have r_vu_1 : RI vu_1 3 3 := rc_eq1 r_vu_1 rl_3 (ti_eq c_5) (by decide)
    refine lv_aload_n hx hb dX10_readNumber_14 rfl (lv_at hl 0 rfl) ?_
    refine tg_get (ci := 10) (ts := ty_MODEL) (C := RX10) (T := TX10) (N := 49) hx hb hts inX10 hown hK hw h_p0 rfl rfl 8 (by decide) (hts _ tw_1145) (fun _ h9 => h9) (ft := vI (-2147483648) 2147483647) rfl dX10_readNumber_15 (fun u_2 hv_u_2 m_u_2 => ?_)
    obtain ⟨vu_2, rfl, r_vu_2⟩ := hv_u_2
    have q_vu_2 : s0.1 8 = vu_2 := OV.eqI (V := vw_MODEL) hw.2.2.1 o_p0 m_u_2 (by decide)
    refine lv_iload_n hx hb dX10_readNumber_18 rfl (lv_at hl 1 rfl) ?_
    refine lv_iload_n hx hb dX10_readNumber_19 rfl (lv_at hl 2 rfl) ?_
    refine tk_ir (va_runS (As := [.int vu_2, .int p1, .int p2]) (rest := []) ⟨hx, hb, hml, hown, hts⟩ (c_X10_isIn__15 l D cy z s.heap.size Ps w0 hw.1 vu_2 p1 p2 r_vu_2 r_p1 r_p2) (va_cwS 3 hts (gS tw_1359 tw_1360 tw_15 tw_1361) rfl rfl rfl (by decide +kernel) ⟨Nat.le_of_ble_eq_true rfl, Nat.le_of_ble_eq_true rfl⟩) (tg_preS hw hK hSD hA) rfl rfl hl.1 rfl (lv_room (Nat.le_of_ble_eq_true rfl)) dX10_readNumber_20 ⟨Nat.le_of_ble_eq_true rfl, Nat.le_of_ble_eq_true rfl⟩) hw hA (fun v_3  H locs hp_v_3 hw => ?_)
    obtain ⟨hfn, hp_v_3⟩ := hp_v_3
    have q_v_3 : (f_X10_isIn__14 vu_2 p1 p2) = v_3 := hfn.1
    have r_v_3 : RI v_3 0 1 := hp_v_3.1
    refine lv_if_ne (tgt := 32) hx hb dX10_readNumber_23 (by decide) (fun c_23 => ?_) (fun c_23 => ?_)
    · have r_v_3 : RI v_3 1 1 := rc_neL r_v_3 rl_0 (ti_ne c_23) (by decide)
      have r_vu_2 : RI vu_2 0 5 := ((hp_v_3.2.2 c_23).1)
      refine lv_aload_n hx hb dX10_readNumber_32 rfl (lv_at hl 0 rfl) ?_
      refine lv_aload_n hx hb dX10_readNumber_33 rfl (lv_at hl 0 rfl) ?_
      refine tg_mem (ci := 10) (C := RX10) (T := TX10) (N := 49) hx hb hts inX10 hown hK hw 8 m_u_2 rfl (by decide) (hts _ tw_1145) (fun _ h9 => h9) dX10_readNumber_34 ?_
      refine tg_put (ci := 10) (ts := ty_MODEL) (v := .int vu_2) (ty := .int) (C := RX10) (T := TX10) (N := 49) hx hb hts inX10 tyX10 tyX10_ok nmX10 hown hK hw h_p0 rfl rfl 13 (by decide) (hts _ tw_1150) (fun _ h9 => h9) rfl (by decide +kernel) rfl rfl (ft := vI (-2147483648) 2147483647) rfl ⟨_, rfl, (r_vu_2.to (by decide))⟩ (by decide) dX10_readNumber_37 (fun ws H locs hw n_k_4 hF9 => ?_)
      have m_u_1 := FLD.over hF9 m_u_1 (by decide)
      have m_u_2 := FLD.over hF9 m_u_2 (by decide)
      have x_TO_p0_gh := TOP.over hF9 x_TO_p0_gh (by decide)
      obtain ⟨sg_5, q_sg_5⟩ : ∃ q9 : OS, sI s0 13 vu_2 = q9 := ⟨_, rfl⟩
      have o_p0 : OV vw_MODEL Ps ws p0 sg_5 := by rw [← q_sg_5]; exact OV.putI (V := vw_MODEL) hF9 n_k_4 o_p0 (by decide)
      refine lv_aload_n hx hb dX10_readNumber_40 rfl (lv_at hl 0 rfl) ?_
      refine tk_v (va_runV (As := []) (rest := []) ⟨hx, hb, hml, hown, hts⟩ (c_X10_go__2 l D cy z H.size Ps ws hw.1 p0 (gh) sg_5 h_p0 x_TO_p0_gh o_p0) (cwV 0 hts (gV tw_1298 tw_1300 ts_40 tw_15 tw_1301) rfl rfl rfl (by decide +kernel) ⟨Nat.le_of_ble_eq_true rfl, Nat.le_of_ble_eq_true rfl⟩) (tg_preV hw hK hSD hA (ci := 10) (q := (RX10, TX10, 49)) rfl h_p0 rfl) rfl rfl hl.1 rfl (lv_room (Nat.le_of_ble_eq_true rfl)) dX10_readNumber_41 ⟨Nat.le_of_ble_eq_true rfl, Nat.le_of_ble_eq_true rfl⟩) hw hA ⟨by decide, by decide⟩ (fun ws H locs hp_v_6 hw hF9 => ?_)
      have n_k_4 := FLD.over hF9 n_k_4 (by decide)
      obtain ⟨hfn, hp_v_6⟩ := hp_v_6
      obtain ⟨sg_7, q_sg_7⟩ : ∃ q9 : OS, (f_X10_go__2 sg_5) = q9 := ⟨_, rfl⟩
      have o_p0 : OV vw_MODEL Ps ws p0 sg_7 := by rw [← q_sg_7]; exact hfn.1
      have x_TOK_p0_gh := (hp_v_6.1)
      refine lv_iconst (v := 1) hx hb dX10_readNumber_44 (by decide) ?_
      simp only [f_X10_readNumber__7, ↓reduceIte, q_vu_1, eq_true c_5, q_vu_2, q_v_3, eq_false c_23, q_sg_5, q_sg_7] at hE
      subst hQ
      exact W.zret (v := 1) hx hb hr (rfl) (fun t ht hW => ⟨⟨1, ws, rfl, ⟨⟨⟨(by rw [hR, ← hE]; exact o_p0), (by rw [hR, ← hE]), trivial⟩, rl_1.to (by decide), (fun _ => trivial), (fun h0 => ⟨⟨_, n_k_4, r_vu_2⟩, x_TOK_p0_gh, trivial⟩)⟩, hw.1, hw.2.2.2.2.1⟩, by rw [ht]; exact hw.2.1, va_K.moved hW.alike hK, hw.2.2.1⟩, hw.2.2.2.1.F ht⟩) hw.2.2.2.1.2.2 dX10_readNumber_45
    · have r_v_3 : RI v_3 0 0 := rc_eq1 r_v_3 rl_0 (ti_eq c_23) (by decide)
      refine lv_aload_n hx hb dX10_readNumber_26 rfl (lv_at hl 0 rfl) ?_
      refine lv_iconst (v := 2) hx hb dX10_readNumber_27 (by decide) ?_
      refine tk_i (va_runV (As := [.int 2]) (rest := []) ⟨hx, hb, hml, hown, hts⟩ (c_X10_bad__1 l D cy z H.size Ps w0 hw.1 p0 2 s0 h_p0 (rl_2.to (by decide)) o_p0) (cwV 1 hts (gV tw_1336 tw_1338 ts_46 tw_15 tw_1339) rfl rfl rfl (by decide +kernel) ⟨Nat.le_of_ble_eq_true rfl, Nat.le_of_ble_eq_true rfl⟩) (tg_preV hw hK hSD hA (ci := 10) (q := (RX10, TX10, 49)) rfl h_p0 rfl) rfl rfl hl.1 rfl (lv_room (Nat.le_of_ble_eq_true rfl)) dX10_readNumber_28 ⟨Nat.le_of_ble_eq_true rfl, Nat.le_of_ble_eq_true rfl⟩) hw hA ⟨by decide, by decide⟩ (fun v_8 ws H locs hp_v_8 hw hF9 => ?_)
      have m_u_1 := FLD.over hF9 m_u_1 (by decide)
      have m_u_2 := FLD.over hF9 m_u_2 (by decide)
      have x_TO_p0_gh := TOP.over hF9 x_TO_p0_gh (by decide)
      obtain ⟨hfn, hp_v_8⟩ := hp_v_8
      obtain ⟨sg_9, q_sg_9⟩ : ∃ q9 : OS, (f_X10_bad__1 (2 : Int32) s0).1 = q9 := ⟨_, rfl⟩
      have o_p0 : OV vw_MODEL Ps ws p0 sg_9 := by rw [← q_sg_9]; exact hfn.1
      have q_v_8 : (f_X10_bad__1 (2 : Int32) s0).2 = v_8 := hfn.2.1
      have r_v_8 : RI v_8 0 0 := hp_v_8.1
      simp only [f_X10_readNumber__7, ↓reduceIte, q_vu_1, eq_true c_5, q_vu_2, q_v_3, eq_true c_23, q_sg_9, q_v_8] at hE
      subst hQ
      exact W.zret (v := v_8) hx hb hr (tq_nz (r_v_8.to (by decide))) (fun t ht hW => ⟨⟨v_8, ws, rfl, ⟨⟨⟨(by rw [hR, ← hE]; exact o_p0), (by rw [hR, ← hE]), trivial⟩, r_v_8.to (by decide), (fun h0 => trivial), (fun h0 => absurd (Int32.toInt_inj.mp (by have h8 := r_v_8; unfold RI at h8; rw [Int32.toInt_zero]; omega)) h0)⟩, hw.1, hw.2.2.2.2.1⟩, by rw [ht]; exact hw.2.1, va_K.moved hW.alike hK, hw.2.2.1⟩, hw.2.2.2.1.F ht⟩) hw.2.2.2.1.2.2 dX10_readNumber_31
  · refine lv_aload_n hx hb dX10_readNumber_8 rfl (lv_at hl 0 rfl) ?_
    refine lv_iconst (v := 1) hx hb dX10_readNumber_9 (by decide) ?_
    refine tk_i (va_runV (As := [.int 1]) (rest := []) ⟨hx, hb, hml, hown, hts⟩ (c_X10_bad__1 l D cy z s.heap.size Ps w0 hw.1 p0 1 s0 h_p0 (rl_1.to (by decide)) o_p0) (cwV 1 hts (gV tw_1336 tw_1338 ts_46 tw_15 tw_1339) rfl rfl rfl (by decide +kernel) ⟨Nat.le_of_ble_eq_true rfl, Nat.le_of_ble_eq_true rfl⟩) (tg_preV hw hK hSD hA (ci := 10) (q := (RX10, TX10, 49)) rfl h_p0 rfl) rfl rfl hl.1 rfl (lv_room (Nat.le_of_ble_eq_true rfl)) dX10_readNumber_10 ⟨Nat.le_of_ble_eq_true rfl, Nat.le_of_ble_eq_true rfl⟩) hw hA ⟨by decide, by decide⟩ (fun v_10 ws H locs hp_v_10 hw hF9 => ?_)
    have m_u_1 := FLD.over hF9 m_u_1 (by decide)
    have x_TO_p0_gh := TOP.over hF9 x_TO_p0_gh (by decide)
    obtain ⟨hfn, hp_v_10⟩ := hp_v_10
    obtain ⟨sg_11, q_sg_11⟩ : ∃ q9 : OS, (f_X10_bad__1 (1 : Int32) s0).1 = q9 := ⟨_, rfl⟩
    have o_p0 : OV vw_MODEL Ps ws p0 sg_11 := by rw [← q_sg_11]; exact hfn.1
    have q_v_10 : (f_X10_bad__1 (1 : Int32) s0).2 = v_10 := hfn.2.1
    have r_v_10 : RI v_10 0 0 := hp_v_10.1
    simp only [f_X10_readNumber__7, ↓reduceIte, q_vu_1, eq_false c_5, q_sg_11, q_v_10] at hE
    subst hQ
    exact W.zret (v := v_10) hx hb hr (tq_nz (r_v_10.to (by decide))) (fun t ht hW => ⟨⟨v_10, ws, rfl, ⟨⟨⟨(by rw [hR, ← hE]; exact o_p0), (by rw [hR, ← hE]), trivial⟩, r_v_10.to (by decide), (fun h0 => trivial), (fun h0 => absurd (Int32.toInt_inj.mp (by have h8 := r_v_10; unfold RI at h8; rw [Int32.toInt_zero]; omega)) h0)⟩, hw.1, hw.2.2.2.2.1⟩, by rw [ht]; exact hw.2.1, va_K.moved hW.alike hK, hw.2.2.1⟩, hw.2.2.2.1.F ht⟩) hw.2.2.2.1.2.2 dX10_readNumber_13
abbrev wr_X10_put__18 : List (Nat × Nat) := []
abbrev wa_X10_put__18 : List Nat := []
set_option maxHeartbeats 4000000 in
set_option maxRecDepth 100000 in
theorem c_X10_put__18 (l : Launch) (D : va_G) (cy : Nat → ClassId) (z : Nat → Nat) (sz : Nat) (Ps : PSI) (w0 : va_W) (hT : HT cy GG Ps w0) (p0 : Nat) (p1 : Int32) (p2 : Int32) (F : (Nat → Int32) → Prop) (F2 : (Nat → Int32) → Prop) (s0 : OS) (h_p0 : (p0, 55) ∈ Ps) (r_p1 : RI p1 4 4) (r_p2 : RI p2 0 0) (x_F : AX 15 35 F Ps w0 p0) (hF : ∀ (f : Nat → Int32) (v : Int32), RI v (-2147483648) 2147483647 → F f → F2 (upd f (Int32.toNatClampNeg p1) v)) (o_p0 : OV vw_MODEL Ps w0 p0 s0) : Met l yX10_put (Cond.code yX10_put cX10_put 3 (some .boolean) :: gT) ({ frames := 0, cells := 0, slots := 0, locals := 200 } : Room) (va_Pc [.ref p0, .int p1, .int p2] (PRE D cy z w0 sz)) (va_Qi (fun (r : Int32) (u : Unit) => ((f_X10_put__16 p1 p2 s0) = r ∧ True) ∧ (RI r 0 0 ∧ (r = 0 → AX 15 35 F Ps w0 p0 ∧ True) ∧ (¬ r = 0 → AX 15 35 F2 Ps w0 p0 ∧ True))) (BB D cy (va_A w0 sz) (fun (u : Unit) => w0)) (va_A w0 sz)) 0 0 (va_A w0 sz) := by
  refine Met.ofW (cc := cX10_put) (maxL := 3) (ret := (some .boolean)) (by decide) rfl ?_
  intro p e s m args below meth c s₁ B hml hv
  obtain ⟨rfl, hsz, hP, hK, hD0, hSD⟩ := hv
  have hx := B.exec
  have hb := B.bytes
  have hr := B.returns
  have hlocks := B.notSynchronized
  have hts : ∀ w ∈ gT, w.before _ s = true := fun w h => atoms_spec (ws := Cond.code yX10_put cX10_put 3 (some .boolean) :: gT) B.pre w (List.mem_cons_of_mem _ h)
  have hown : s.vm.findClass RX10 = some m.cls := findClass_of_methodNamed B.named
  subst hsz
  have hD := hD0.self (sz := s.heap.size)
  generalize hAe : va_A w0 s.heap.size = A at hD hSD ⊢
  have hA : ∀ q : Nat, s.heap.size ≤ q → A q := fun q h => by rw [← hAe]; exact Or.inr h
  have hl := lv_entry ([.ref p0, .int p1, .int p2]) (n := 3) (Nat.le_of_ble_eq_true rfl)
  rw [lg_entry_eq]
  generalize (lg_sl ([.ref p0, .int p1, .int p2]) ++ List.replicate (3 - (lg_sl ([.ref p0, .int p1, .int p2])).length) Slot.unset).toArray = ls at hl ⊢
  have hl : lv_has ls 3 [(0, .ref p0), (1, .int p1), (2, .int p2)] := hl
  refine nameQ (fun Q hQ => ?_)
  have hw : WD D cy GG A s wr_X10_put__18 wa_X10_put__18 Ps w0 Ps w0 s.heap [] := ⟨hT, hP, hD, va_S.rf, FR.rf, hT.1, [], (List.append_nil _).symm⟩
  obtain ⟨R9, hR⟩ : ∃ q9 : Int32, f_X10_put__16 p1 p2 s0 = q9 := ⟨_, rfl⟩
  have hE := hR
  refine lv_iload_n hx hb dX10_put_0 rfl (lv_at hl 2 rfl) ?_
  refine lv_if_eq (tgt := 14) hx hb dX10_put_1 (by decide) (fun c_1 => ?_) (fun c_1 => ?_)
  · refine lv_iload_n hx hb dX10_put_14 rfl (lv_at hl 2 rfl) ?_
    simp only [f_X10_put__16, ↓reduceIte, eq_true c_1] at hE
    subst hQ
    exact W.zret (v := p2) hx hb hr (tq_nz (r_p2.to (by decide))) (fun t ht hW => ⟨⟨p2, (), rfl, ⟨⟨(by rw [hR, ← hE]), trivial⟩, r_p2.to (by decide), (fun h0 => ⟨x_F, trivial⟩), (fun h0 => absurd (Int32.toInt_inj.mp (by have h8 := r_p2; unfold RI at h8; rw [Int32.toInt_zero]; omega)) h0)⟩, by rw [ht]; exact hw.2.1, va_K.moved hW.alike hK, hw.2.2.1⟩, hw.2.2.2.1.F ht⟩) hw.2.2.2.1.2.2 dX10_put_15
  · exact absurd (r_p2.eq.trans rl_0.eq.symm) ((ti_ne c_1))
abbrev wr_X10_put__19 : List (Nat × Nat) := []
abbrev wa_X10_put__19 : List Nat := [35]
set_option maxHeartbeats 4000000 in
set_option maxRecDepth 100000 in
theorem c_X10_put__19 (l : Launch) (D : va_G) (cy : Nat → ClassId) (z : Nat → Nat) (sz : Nat) (Ps : PSI) (w0 : va_W) (hT : HT cy GG Ps w0) (p0 : Nat) (p1 : Int32) (p2 : Int32) (f0_13 : Int32) (F : (Nat → Int32) → Prop) (F2 : (Nat → Int32) → Prop) (s0 : OS) (h_p0 : (p0, 55) ∈ Ps) (r_p1 : RI p1 4 4) (r_p2 : RI p2 1 1) (r_f0_13 : RI f0_13 0 5) (m_f0_13 : FLD w0 p0 10 13 (.int f0_13)) (x_F : AX 15 35 F Ps w0 p0) (hF : ∀ (f : Nat → Int32) (v : Int32), RI v 0 5 → F f → F2 (upd f (Int32.toNatClampNeg p1) v)) (o_p0 : OV vw_MODEL Ps w0 p0 s0) : Met l yX10_put (Cond.code yX10_put cX10_put 3 (some .boolean) :: gT) ({ frames := 0, cells := 0, slots := 0, locals := 200 } : Room) (va_Pc [.ref p0, .int p1, .int p2] (PRE D cy z w0 sz)) (va_Qi (fun (r : Int32) (u : va_W) => ((OV vw_MODEL Ps u p0 ((f_X10_put__17 p1 p2 s0).1) ∧ (f_X10_put__17 p1 p2 s0).2 = r ∧ True) ∧ (RI r 1 1 ∧ (r = 0 → AX 15 35 F Ps u p0 ∧ True) ∧ (¬ r = 0 → (∃ v9 : Int32, FLD u p0 10 13 (.int v9) ∧ RI v9 0 5) ∧ AX 15 35 F2 Ps u p0 ∧ True))) ∧ HT cy GG Ps u ∧ FR wr_X10_put__19 wa_X10_put__19 Ps w0 u) (BB D cy (va_A w0 sz) (fun (u : va_W) => u)) (va_A w0 sz)) 0 0 (va_A w0 sz) := by
  refine Met.ofW (cc := cX10_put) (maxL := 3) (ret := (some .boolean)) (by decide) rfl ?_
  intro p e s m args below meth c s₁ B hml hv
  obtain ⟨rfl, hsz, hP, hK, hD0, hSD⟩ := hv
  have hx := B.exec
  have hb := B.bytes
  have hr := B.returns
  have hlocks := B.notSynchronized
  have hts : ∀ w ∈ gT, w.before _ s = true := fun w h => atoms_spec (ws := Cond.code yX10_put cX10_put 3 (some .boolean) :: gT) B.pre w (List.mem_cons_of_mem _ h)
  have hown : s.vm.findClass RX10 = some m.cls := findClass_of_methodNamed B.named
  subst hsz
  have hD := hD0.self (sz := s.heap.size)
  generalize hAe : va_A w0 s.heap.size = A at hD hSD ⊢
  have hA : ∀ q : Nat, s.heap.size ≤ q → A q := fun q h => by rw [← hAe]; exact Or.inr h
  have hl := lv_entry ([.ref p0, .int p1, .int p2]) (n := 3) (Nat.le_of_ble_eq_true rfl)
  rw [lg_entry_eq]
  generalize (lg_sl ([.ref p0, .int p1, .int p2]) ++ List.replicate (3 - (lg_sl ([.ref p0, .int p1, .int p2])).length) Slot.unset).toArray = ls at hl ⊢
  have hl : lv_has ls 3 [(0, .ref p0), (1, .int p1), (2, .int p2)] := hl
  refine nameQ (fun Q hQ => ?_)
  have hw : WD D cy GG A s wr_X10_put__19 wa_X10_put__19 Ps w0 Ps w0 s.heap [] := ⟨hT, hP, hD, va_S.rf, FR.rf, hT.1, [], (List.append_nil _).symm⟩
  obtain ⟨R9, hR⟩ : ∃ q9 : OS × Int32, f_X10_put__17 p1 p2 s0 = q9 := ⟨_, rfl⟩
  have hE := hR
  refine lv_iload_n hx hb dX10_put_0 rfl (lv_at hl 2 rfl) ?_
  refine lv_if_eq (tgt := 14) hx hb dX10_put_1 (by decide) (fun c_1 => ?_) (fun c_1 => ?_)
  · have r_p2 : RI p2 1 0 := rc_eq1 r_p2 rl_0 (ti_eq c_1) (by decide)
    exact (r_p2.no (by decide)).elim
  · refine lv_aload_n hx hb dX10_put_4 rfl (lv_at hl 0 rfl) ?_
    refine tg_get (ci := 10) (ts := ty_MODEL) (C := RX10) (T := TX10) (N := 49) hx hb hts inX10 hown hK hw h_p0 rfl rfl 15 (by decide) (hts _ tw_1152) (fun _ h9 => h9) (ft := vR 35) rfl dX10_put_5 (fun u_1 hv_u_1 m_u_1 => ?_)
    obtain ⟨vu_1, rfl, h_vu_1⟩ := hv_u_1
    refine lv_iload_n hx hb dX10_put_8 rfl (lv_at hl 1 rfl) ?_
    refine lv_aload_n hx hb dX10_put_9 rfl (lv_at hl 0 rfl) ?_
    refine tg_mem (ci := 10) (C := RX10) (T := TX10) (N := 49) hx hb hts inX10 hown hK hw 13 m_f0_13 rfl (by decide) (hts _ tw_1150) (fun _ h9 => h9) dX10_put_10 ?_
    have q_f0_13 : s0.1 13 = f0_13 := OV.eqI (V := vw_MODEL) hw.2.2.1 o_p0 m_f0_13 (by decide)
    have mo9 := m_u_1
    refine tg_iast hx hb hK hw h_vu_1 rfl 4 4 r_p1 (by decide) r_f0_13 (by decide +kernel) (fun _ _ _ _ _ => trivial) (by decide) dX10_put_13 (fun ws H locs hw hF9 hU9 => ?_)
    have x_GFRB_p0 : AX 15 35 F2 Ps ws p0 := AX.ast hF9 hU9 x_F m_u_1 (fun f9 h9 => hF f9 _ r_f0_13 h9)
    have m_f0_13 := FLD.over hF9 m_f0_13 (by decide)
    have m_u_1 := FLD.over hF9 m_u_1 (by decide)
    obtain ⟨sg_2, q_sg_2⟩ : ∃ q9 : OS, sA s0 15 (Int32.toNatClampNeg p1) f0_13 = q9 := ⟨_, rfl⟩
    have o_p0 : OV vw_MODEL Ps ws p0 sg_2 := by rw [← q_sg_2]; exact OV.putA (V := vw_MODEL) (t := 35) hF9 hU9 o_p0 mo9 (by decide) (by decide)
    refine lv_iload_n hx hb dX10_put_14 rfl (lv_at hl 2 rfl) ?_
    simp only [f_X10_put__17, ↓reduceIte, eq_false c_1, q_f0_13, q_sg_2] at hE
    subst hQ
    exact W.zret (v := p2) hx hb hr (tq_nz (r_p2.to (by decide))) (fun t ht hW => ⟨⟨p2, ws, rfl, ⟨⟨⟨(by rw [hR, ← hE]; exact o_p0), (by rw [hR, ← hE]), trivial⟩, r_p2.to (by decide), (fun h0 => absurd (ti_eq h0) (by have h8 := r_p2; unfold RI at h8; rw [Int32.toInt_zero]; omega)), (fun h0 => ⟨⟨_, m_f0_13, r_f0_13⟩, x_GFRB_p0, trivial⟩)⟩, hw.1, hw.2.2.2.2.1⟩, by rw [ht]; exact hw.2.1, va_K.moved hW.alike hK, hw.2.2.1⟩, hw.2.2.2.1.F ht⟩) hw.2.2.2.1.2.2 dX10_put_15
abbrev wr_X10_readOnce__3 : List (Nat × Nat) := [(10, 5), (10, 6), (10, 7), (10, 8), (10, 9), (10, 10), (10, 11), (10, 12), (10, 13)]
abbrev wa_X10_readOnce__3 : List Nat := [35, 45]
set_option maxHeartbeats 4000000 in
set_option maxRecDepth 100000 in
theorem c_X10_readOnce__3 (l : Launch) (D : va_G) (cy : Nat → ClassId) (z : Nat → Nat) (sz : Nat) (Ps : PSI) (w0 : va_W) (hT : HT cy GG Ps w0) (p0 : Nat) (p1 : Int32) (p2 : Int32) (p3 : Int32) (p4 : Int32) (gh : Int) (s0 : OS) (h_p0 : (p0, 55) ∈ Ps) (r_p1 : RI p1 0 0) (r_p2 : RI p2 4 4) (r_p3 : RI p3 0 0) (r_p4 : RI p4 5 5) (x_TO_p0_gh : TOP w0 p0 (gh)) (x_RH_p0 : AX 15 35 (fun f => RH2p f) Ps w0 p0) (o_p0 : OV vw_MODEL Ps w0 p0 s0) : Met l yX10_readOnce (Cond.code yX10_readOnce cX10_readOnce 5 (some .boolean) :: gT) ({ frames := 4, cells := 0, slots := 0, locals := 800 } : Room) (va_Pc [.ref p0, .int p1, .int p2, .int p3, .int p4] (PRE D cy z w0 sz)) (va_Qi (fun (r : Int32) (u : va_W) => ((OV vw_MODEL Ps u p0 ((f_X10_readOnce__2 p1 p2 p3 p4 s0).1) ∧ (f_X10_readOnce__2 p1 p2 p3 p4 s0).2 = r ∧ True) ∧ (RI r 0 1 ∧ (r = 0 → True) ∧ (¬ r = 0 → (∃ v9 : Int32, FLD u p0 10 13 (.int v9) ∧ RI v9 0 5) ∧ TKP u p0 (gh) ∧ AX 15 35 (fun f => RH2p f) Ps u p0 ∧ True))) ∧ HT cy GG Ps u ∧ FR wr_X10_readOnce__3 wa_X10_readOnce__3 Ps w0 u) (BB D cy (va_A w0 sz) (fun (u : va_W) => u)) (va_A w0 sz)) 0 0 (va_A w0 sz) := by
  refine Met.ofW (cc := cX10_readOnce) (maxL := 5) (ret := (some .boolean)) (by decide) rfl ?_
  intro p e s m args below meth c s₁ B hml hv
  obtain ⟨rfl, hsz, hP, hK, hD0, hSD⟩ := hv
  have hx := B.exec
  have hb := B.bytes
  have hr := B.returns
  have hlocks := B.notSynchronized
  have hts : ∀ w ∈ gT, w.before _ s = true := fun w h => atoms_spec (ws := Cond.code yX10_readOnce cX10_readOnce 5 (some .boolean) :: gT) B.pre w (List.mem_cons_of_mem _ h)
  have hown : s.vm.findClass RX10 = some m.cls := findClass_of_methodNamed B.named
  subst hsz
  have hD := hD0.self (sz := s.heap.size)
  generalize hAe : va_A w0 s.heap.size = A at hD hSD ⊢
  have hA : ∀ q : Nat, s.heap.size ≤ q → A q := fun q h => by rw [← hAe]; exact Or.inr h
  have hl := lv_entry ([.ref p0, .int p1, .int p2, .int p3, .int p4]) (n := 5) (Nat.le_of_ble_eq_true rfl)
  rw [lg_entry_eq]
  generalize (lg_sl ([.ref p0, .int p1, .int p2, .int p3, .int p4]) ++ List.replicate (5 - (lg_sl ([.ref p0, .int p1, .int p2, .int p3, .int p4])).length) Slot.unset).toArray = ls at hl ⊢
  have hl : lv_has ls 5 [(0, .ref p0), (1, .int p1), (2, .int p2), (3, .int p3), (4, .int p4)] := hl
  refine nameQ (fun Q hQ => ?_)
  have hw : WD D cy GG A s wr_X10_readOnce__3 wa_X10_readOnce__3 Ps w0 Ps w0 s.heap [] := ⟨hT, hP, hD, va_S.rf, FR.rf, hT.1, [], (List.append_nil _).symm⟩
  obtain ⟨R9, hR⟩ : ∃ q9 : OS × Int32, f_X10_readOnce__2 p1 p2 p3 p4 s0 = q9 := ⟨_, rfl⟩
  have hE := hR
  refine lv_aload_n hx hb dX10_readOnce_0 rfl (lv_at hl 0 rfl) ?_
  refine tg_get (ci := 10) (ts := ty_MODEL) (C := RX10) (T := TX10) (N := 49) hx hb hts inX10 hown hK hw h_p0 rfl rfl 24 (by decide) (hts _ tw_1161) (fun _ h9 => h9) (ft := vR 45) rfl dX10_readOnce_1 (fun u_1 hv_u_1 m_u_1 => ?_)
  obtain ⟨vu_1, rfl, h_vu_1⟩ := hv_u_1
  refine lv_iload_n hx hb dX10_readOnce_4 rfl (lv_at hl 1 rfl) ?_
  refine tg_zaldE (lo := (-2147483648)) (hi := 2147483647) hx hb hK hw h_vu_1 rfl 0 0 r_p1 (by decide) (by exact fun _ _ _ => ⟨Int.le_refl _, Int.le_refl _⟩) dX10_readOnce_5 (fun v_2 r_v_2 l_v_2 => ?_)
  have q_v_2 : s0.2.2.1 24 (Int32.toNatClampNeg p1) = v_2 := OV.eqA (V := vw_MODEL) (t := 45) hw.2.2.1 o_p0 m_u_1 l_v_2 (by decide)
  refine lv_if_eq (tgt := 15) hx hb dX10_readOnce_6 (by decide) (fun c_6 => ?_) (fun c_6 => ?_)
  · have r_v_2 : RI v_2 0 0 := rc_eq1 r_v_2 rl_0 (ti_eq c_6) (by decide)
    refine lv_aload_n hx hb dX10_readOnce_15 rfl (lv_at hl 0 rfl) ?_
    refine tg_mem (ci := 10) (C := RX10) (T := TX10) (N := 49) hx hb hts inX10 hown hK hw 24 m_u_1 rfl (by decide) (hts _ tw_1161) (fun _ h9 => h9) dX10_readOnce_16 ?_
    refine lv_iload_n hx hb dX10_readOnce_19 rfl (lv_at hl 1 rfl) ?_
    refine lv_iconst (v := 1) hx hb dX10_readOnce_20 (by decide) ?_
    have mo9 := m_u_1
    refine tg_zastE hx hb hK hw h_vu_1 rfl 0 0 r_p1 (by decide) (by decide) dX10_readOnce_21 (fun ws H locs hw hF9 hU9 => ?_)
    have x_TO_p0_gh := TOP.over hF9 x_TO_p0_gh (by decide)
    have x_RH_p0 := AX.over hF9 x_RH_p0 (by decide)
    have m_u_1 := FLD.over hF9 m_u_1 (by decide)
    obtain ⟨sg_3, q_sg_3⟩ : ∃ q9 : OS, sA s0 24 (Int32.toNatClampNeg p1) (vp_nar .boolean (1 : Int32)) = q9 := ⟨_, rfl⟩
    have o_p0 : OV vw_MODEL Ps ws p0 sg_3 := by rw [← q_sg_3]; exact OV.putA (V := vw_MODEL) (t := 45) hF9 hU9 o_p0 mo9 (by decide) (by decide)
    refine lv_aload_n hx hb dX10_readOnce_22 rfl (lv_at hl 0 rfl) ?_
    refine tk_v (va_runV (As := []) (rest := []) ⟨hx, hb, hml, hown, hts⟩ (c_X10_go__2 l D cy z H.size Ps ws hw.1 p0 (gh) sg_3 h_p0 x_TO_p0_gh o_p0) (cwV 0 hts (gV tw_1298 tw_1300 ts_40 tw_15 tw_1301) rfl rfl rfl (by decide +kernel) ⟨Nat.le_of_ble_eq_true rfl, Nat.le_of_ble_eq_true rfl⟩) (tg_preV hw hK hSD hA (ci := 10) (q := (RX10, TX10, 49)) rfl h_p0 rfl) rfl rfl hl.1 rfl (lv_room (Nat.le_of_ble_eq_true rfl)) dX10_readOnce_23 ⟨Nat.le_of_ble_eq_true rfl, Nat.le_of_ble_eq_true rfl⟩) hw hA ⟨by decide, by decide⟩ (fun ws H locs hp_v_4 hw hF9 => ?_)
    have m_u_1 := FLD.over hF9 m_u_1 (by decide)
    have x_RH_p0 := AX.over hF9 x_RH_p0 (by decide)
    obtain ⟨hfn, hp_v_4⟩ := hp_v_4
    obtain ⟨sg_5, q_sg_5⟩ : ∃ q9 : OS, (f_X10_go__2 sg_3) = q9 := ⟨_, rfl⟩
    have o_p0 : OV vw_MODEL Ps ws p0 sg_5 := by rw [← q_sg_5]; exact hfn.1
    have x_TOK_p0_gh := (hp_v_4.1)
    refine lv_aload_n hx hb dX10_readOnce_26 rfl (lv_at hl 0 rfl) ?_
    refine lv_iload_n hx hb dX10_readOnce_27 rfl (lv_at hl 2 rfl) ?_
    refine lv_aload_n hx hb dX10_readOnce_28 rfl (lv_at hl 0 rfl) ?_
    refine lv_iload_n hx hb dX10_readOnce_29 rfl (lv_at hl 3 rfl) ?_
    refine lv_iload hx hb dX10_readOnce_30 (lv_at hl 4 rfl) ?_
    have x_TO_p0_gh : TOP ws p0 (gh) := TKP.top x_TOK_p0_gh
    refine tk_i (va_runV (As := [.int p3, .int p4]) (rest := [.int p2, .ref p0]) ⟨hx, hb, hml, hown, hts⟩ (c_X10_readNumber__8 l D cy z H.size Ps ws hw.1 p0 p3 p4 (gh) sg_5 h_p0 r_p3 r_p4 x_TO_p0_gh o_p0) (cwV 2 hts (gV tw_1355 tw_1357 ts_50 tw_15 tw_1358) rfl rfl rfl (by decide +kernel) ⟨Nat.le_of_ble_eq_true rfl, Nat.le_of_ble_eq_true rfl⟩) (tg_preV hw hK hSD hA (ci := 10) (q := (RX10, TX10, 49)) rfl h_p0 rfl) rfl rfl hl.1 rfl (lv_room (Nat.le_of_ble_eq_true rfl)) dX10_readOnce_32 ⟨Nat.le_of_ble_eq_true rfl, Nat.le_of_ble_eq_true rfl⟩) hw hA ⟨by decide, by decide⟩ (fun v_6 ws H locs hp_v_6 hw hF9 => ?_)
    have m_u_1 := FLD.over hF9 m_u_1 (by decide)
    have x_RH_p0 := AX.over hF9 x_RH_p0 (by decide)
    obtain ⟨hfn, hp_v_6⟩ := hp_v_6
    obtain ⟨sg_7, q_sg_7⟩ : ∃ q9 : OS, (f_X10_readNumber__7 p3 p4 sg_5).1 = q9 := ⟨_, rfl⟩
    have o_p0 : OV vw_MODEL Ps ws p0 sg_7 := by rw [← q_sg_7]; exact hfn.1
    have q_v_6 : (f_X10_readNumber__7 p3 p4 sg_5).2 = v_6 := hfn.2.1
    have r_v_6 : RI v_6 0 1 := hp_v_6.1
    by_cases c9_v_6 : v_6 = 0
    · have r_v_6 : RI v_6 0 0 := by rw [c9_v_6]; exact rl_0
      refine tk_ir (va_runV (As := [.int p2, .int v_6]) (rest := []) ⟨hx, hb, hml, hown, hts⟩ (c_X10_put__18 l D cy z H.size Ps ws hw.1 p0 p2 v_6 (fun f => RH2p f ∧ True) (fun f => RH2p f ∧ True) sg_7 h_p0 r_p2 r_v_6 (AX.and hw x_RH_p0 (rx_true hw h_p0)) (fun f9 v9 hv9 H9 => ⟨(have h9 := H9.1; RH_keep h9 (by have k4 := r_p2.cl (by decide); have k5 := r_p2; unfold RI at k5; omega)), trivial⟩) o_p0) (cwV 2 hts (gV tw_1362 tw_1364 ts_51 tw_15 tw_1365) rfl rfl rfl (by decide +kernel) ⟨Nat.le_of_ble_eq_true rfl, Nat.le_of_ble_eq_true rfl⟩) (tg_preV hw hK hSD hA (ci := 10) (q := (RX10, TX10, 49)) rfl h_p0 rfl) rfl rfl hl.1 rfl (lv_room (Nat.le_of_ble_eq_true rfl)) dX10_readOnce_35 ⟨Nat.le_of_ble_eq_true rfl, Nat.le_of_ble_eq_true rfl⟩) hw hA (fun v_8  H locs hp_v_8 hw => ?_)
      obtain ⟨hfn, hp_v_8⟩ := hp_v_8
      have q_v_8 : (f_X10_put__16 p2 v_6 sg_7) = v_8 := hfn.1
      have r_v_8 : RI v_8 0 0 := hp_v_8.1
      by_cases c9_v_8 : v_8 = 0
      · have r_v_8 : RI v_8 0 0 := by rw [c9_v_8]; exact rl_0
        have x_RH_p0 : AX 15 35 (fun f => RH2p f) Ps ws p0 := AX.imp ((hp_v_8.2.1 c9_v_8).1) (fun _ h9 => h9.1)
        simp only [f_X10_readOnce__2, ↓reduceIte, q_v_2, eq_true c_6, q_sg_3, q_sg_5, q_sg_7, q_v_6, eq_true c9_v_6, q_v_8, eq_true c9_v_8] at hE
        subst hQ
        exact W.zret (v := v_8) hx hb hr (tq_nz (r_v_8.to (by decide))) (fun t ht hW => ⟨⟨v_8, ws, rfl, ⟨⟨⟨(by rw [hR, ← hE]; exact o_p0), (by rw [hR, ← hE]), trivial⟩, r_v_8.to (by decide), (fun h0 => trivial), (fun h0 => absurd (Int32.toInt_inj.mp (by have h8 := r_v_8; unfold RI at h8; rw [Int32.toInt_zero]; omega)) h0)⟩, hw.1, hw.2.2.2.2.1⟩, by rw [ht]; exact hw.2.1, va_K.moved hW.alike hK, hw.2.2.1⟩, hw.2.2.2.1.F ht⟩) hw.2.2.2.1.2.2 dX10_readOnce_38
      · exact absurd (Int32.toInt_inj.mp (by rw [Int32.toInt_zero]; unfold RI at r_v_8; omega)) c9_v_8
    · have r_v_6 : RI v_6 1 1 := rc_neL r_v_6 rl_0 (ti_ne c9_v_6) (by decide)
      obtain ⟨v_9, m_v_9, r_v_9⟩ := ((hp_v_6.2.2 c9_v_6).1)
      have x_TOK_p0_gh := ((hp_v_6.2.2 c9_v_6).2.1)
      refine tk_i (va_runV (As := [.int p2, .int v_6]) (rest := []) ⟨hx, hb, hml, hown, hts⟩ (c_X10_put__19 l D cy z H.size Ps ws hw.1 p0 p2 v_6 v_9 (fun f => RH2p f ∧ True) (fun f => RH2p f ∧ True) sg_7 h_p0 r_p2 r_v_6 r_v_9 m_v_9 (AX.and hw x_RH_p0 (rx_true hw h_p0)) (fun f9 v9 hv9 H9 => ⟨(have h9 := H9.1; RH_keep h9 (by have k4 := r_p2.cl (by decide); have k5 := r_p2; unfold RI at k5; omega)), trivial⟩) o_p0) (cwV 2 hts (gV tw_1362 tw_1364 ts_51 tw_15 tw_1365) rfl rfl rfl (by decide +kernel) ⟨Nat.le_of_ble_eq_true rfl, Nat.le_of_ble_eq_true rfl⟩) (tg_preV hw hK hSD hA (ci := 10) (q := (RX10, TX10, 49)) rfl h_p0 rfl) rfl rfl hl.1 rfl (lv_room (Nat.le_of_ble_eq_true rfl)) dX10_readOnce_35 ⟨Nat.le_of_ble_eq_true rfl, Nat.le_of_ble_eq_true rfl⟩) hw hA ⟨by decide, by decide⟩ (fun v_10 ws H locs hp_v_10 hw hF9 => ?_)
      have m_u_1 := FLD.over hF9 m_u_1 (by decide)
      have m_v_9 := FLD.over hF9 m_v_9 (by decide)
      have x_TOK_p0_gh := TKP.over hF9 x_TOK_p0_gh (by decide)
      obtain ⟨hfn, hp_v_10⟩ := hp_v_10
      obtain ⟨sg_11, q_sg_11⟩ : ∃ q9 : OS, (f_X10_put__17 p2 v_6 sg_7).1 = q9 := ⟨_, rfl⟩
      have o_p0 : OV vw_MODEL Ps ws p0 sg_11 := by rw [← q_sg_11]; exact hfn.1
      have q_v_10 : (f_X10_put__17 p2 v_6 sg_7).2 = v_10 := hfn.2.1
      have r_v_10 : RI v_10 1 1 := hp_v_10.1
      by_cases c9_v_10 : v_10 = 0
      · exact absurd (ti_eq c9_v_10) (by unfold RI at r_v_10; rw [Int32.toInt_zero]; omega)
      · obtain ⟨v_12, m_v_12, r_v_12⟩ := ((hp_v_10.2.2 c9_v_10).1)
        have x_RH_p0 : AX 15 35 (fun f => RH2p f) Ps ws p0 := AX.imp ((hp_v_10.2.2 c9_v_10).2.1) (fun _ h9 => h9.1)
        simp only [f_X10_readOnce__2, ↓reduceIte, q_v_2, eq_true c_6, q_sg_3, q_sg_5, q_sg_7, q_v_6, eq_false c9_v_6, q_sg_11, q_v_10, eq_false c9_v_10] at hE
        subst hQ
        exact W.zret (v := v_10) hx hb hr (tq_nz (r_v_10.to (by decide))) (fun t ht hW => ⟨⟨v_10, ws, rfl, ⟨⟨⟨(by rw [hR, ← hE]; exact o_p0), (by rw [hR, ← hE]), trivial⟩, r_v_10.to (by decide), (fun _ => trivial), (fun h0 => ⟨⟨_, m_v_12, r_v_12⟩, x_TOK_p0_gh, x_RH_p0, trivial⟩)⟩, hw.1, hw.2.2.2.2.1⟩, by rw [ht]; exact hw.2.1, va_K.moved hW.alike hK, hw.2.2.1⟩, hw.2.2.2.1.F ht⟩) hw.2.2.2.1.2.2 dX10_readOnce_38
  · refine lv_aload_n hx hb dX10_readOnce_9 rfl (lv_at hl 0 rfl) ?_
    refine lv_iconst (v := 3) hx hb dX10_readOnce_10 (by decide) ?_
    refine tk_i (va_runV (As := [.int 3]) (rest := []) ⟨hx, hb, hml, hown, hts⟩ (c_X10_bad__1 l D cy z s.heap.size Ps w0 hw.1 p0 3 s0 h_p0 (rl_3.to (by decide)) o_p0) (cwV 1 hts (gV tw_1336 tw_1338 ts_46 tw_15 tw_1339) rfl rfl rfl (by decide +kernel) ⟨Nat.le_of_ble_eq_true rfl, Nat.le_of_ble_eq_true rfl⟩) (tg_preV hw hK hSD hA (ci := 10) (q := (RX10, TX10, 49)) rfl h_p0 rfl) rfl rfl hl.1 rfl (lv_room (Nat.le_of_ble_eq_true rfl)) dX10_readOnce_11 ⟨Nat.le_of_ble_eq_true rfl, Nat.le_of_ble_eq_true rfl⟩) hw hA ⟨by decide, by decide⟩ (fun v_13 ws H locs hp_v_13 hw hF9 => ?_)
    have m_u_1 := FLD.over hF9 m_u_1 (by decide)
    have x_TO_p0_gh := TOP.over hF9 x_TO_p0_gh (by decide)
    have x_RH_p0 := AX.over hF9 x_RH_p0 (by decide)
    obtain ⟨hfn, hp_v_13⟩ := hp_v_13
    obtain ⟨sg_14, q_sg_14⟩ : ∃ q9 : OS, (f_X10_bad__1 (3 : Int32) s0).1 = q9 := ⟨_, rfl⟩
    have o_p0 : OV vw_MODEL Ps ws p0 sg_14 := by rw [← q_sg_14]; exact hfn.1
    have q_v_13 : (f_X10_bad__1 (3 : Int32) s0).2 = v_13 := hfn.2.1
    have r_v_13 : RI v_13 0 0 := hp_v_13.1
    simp only [f_X10_readOnce__2, ↓reduceIte, q_v_2, eq_false c_6, q_sg_14, q_v_13] at hE
    subst hQ
    exact W.zret (v := v_13) hx hb hr (tq_nz (r_v_13.to (by decide))) (fun t ht hW => ⟨⟨v_13, ws, rfl, ⟨⟨⟨(by rw [hR, ← hE]; exact o_p0), (by rw [hR, ← hE]), trivial⟩, r_v_13.to (by decide), (fun h0 => trivial), (fun h0 => absurd (Int32.toInt_inj.mp (by have h8 := r_v_13; unfold RI at h8; rw [Int32.toInt_zero]; omega)) h0)⟩, hw.1, hw.2.2.2.2.1⟩, by rw [ht]; exact hw.2.1, va_K.moved hW.alike hK, hw.2.2.1⟩, hw.2.2.2.1.F ht⟩) hw.2.2.2.1.2.2 dX10_readOnce_14
