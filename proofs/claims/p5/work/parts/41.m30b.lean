abbrev wr_X10_spelt__30 : List (Nat × Nat) := []
abbrev wa_X10_spelt__30 : List Nat := []
set_option maxHeartbeats 4000000 in
set_option maxRecDepth 100000 in
theorem c_X10_spelt__30 (l : Launch) (D : va_G) (cy : Nat → ClassId) (z : Nat → Nat) (sz : Nat) (Ps : PSI) (w0 : va_W) (hT : HT cy GG Ps w0) (p0 : Int32) (p1 : Int32) (p2 : Int32) (p3 : Int32) (p4 : Int32) (p5 : Int32) (p6 : Int32) (r_p0 : RI p0 110 110) (r_p1 : RI p1 117 117) (r_p2 : RI p2 109 109) (r_p3 : RI p3 98 98) (r_p4 : RI p4 101 101) (r_p5 : RI p5 114 114) (r_p6 : RI p6 0 0) : Met l yX10_spelt (Cond.code yX10_spelt cX10_spelt 9 (some .long) :: gT) ({ frames := 0, cells := 0, slots := 0, locals := 200 } : Room) (va_Pc [.int p0, .int p1, .int p2, .int p3, .int p4, .int p5, .int p6] (PRE D cy z w0 sz)) (va_Ql (fun (r : Int64) (u : Unit) => ((f_X10_spelt__30 p0 p1 p2 p3 p4 p5 p6) = r ∧ True) ∧ (RJ r 212302449 212302449)) (BB D cy (va_A w0 sz) (fun (u : Unit) => w0)) (va_A w0 sz)) 0 0 (va_A w0 sz) := by
  refine Met.ofW (cc := cX10_spelt) (maxL := 9) (ret := (some .long)) (by decide) rfl ?_
  intro p e s m args below meth c s₁ B hml hv
  obtain ⟨rfl, hsz, hP, hK, hD0, hSD⟩ := hv
  have hx := B.exec
  have hb := B.bytes
  have hr := B.returns
  have hlocks := B.notSynchronized
  have hts : ∀ w ∈ gT, w.before _ s = true := fun w h => atoms_spec (ws := Cond.code yX10_spelt cX10_spelt 9 (some .long) :: gT) B.pre w (List.mem_cons_of_mem _ h)
  have hown : s.vm.findClass RX10 = some m.cls := findClass_of_methodNamed B.named
  subst hsz
  have hD := hD0.self (sz := s.heap.size)
  generalize hAe : va_A w0 s.heap.size = A at hD hSD ⊢
  have hA : ∀ q : Nat, s.heap.size ≤ q → A q := fun q h => by rw [← hAe]; exact Or.inr h
  have hl := lv_entry ([.int p0, .int p1, .int p2, .int p3, .int p4, .int p5, .int p6]) (n := 9) (Nat.le_of_ble_eq_true rfl)
  rw [lg_entry_eq]
  generalize (lg_sl ([.int p0, .int p1, .int p2, .int p3, .int p4, .int p5, .int p6]) ++ List.replicate (9 - (lg_sl ([.int p0, .int p1, .int p2, .int p3, .int p4, .int p5, .int p6])).length) Slot.unset).toArray = ls at hl ⊢
  have hl : lv_has ls 9 [(0, .int p0), (1, .int p1), (2, .int p2), (3, .int p3), (4, .int p4), (5, .int p5), (6, .int p6)] := hl
  refine nameQ (fun Q hQ => ?_)
  have hw : WD D cy GG A s wr_X10_spelt__30 wa_X10_spelt__30 Ps w0 Ps w0 s.heap [] := ⟨hT, hP, hD, va_S.rf, FR.rf, hT.1, [], (List.append_nil _).symm⟩
  obtain ⟨R9, hR⟩ : ∃ q9 : Int64, f_X10_spelt__30 p0 p1 p2 p3 p4 p5 p6 = q9 := ⟨_, rfl⟩
  have hE := hR
  have B99 : ∀ (x7 : Int64) (H : Heap) (locs : List Loc) (ls : Array Slot), RI p0 110 110 → RI p1 117 117 → RI p2 109 109 → RI p3 98 98 → RI p4 101 101 → RI p5 114 114 → RI p6 0 0 → RJ x7 212302449 212302449 → f_X10_spelt__30_99 p0 p1 p2 p3 p4 p5 p6 x7 = R9 → WD D cy GG A s wr_X10_spelt__30 wa_X10_spelt__30 Ps w0 Ps w0 H locs → lv_has ls 9 [(0, .int p0), (1, .int p1), (2, .int p2), (3, .int p3), (4, .int p4), (5, .int p5), (6, .int p6), (7, .long x7)] → W p l e (headSpec (Cond.code yX10_spelt cX10_spelt 9 (some .long) :: gT) ({ frames := 0, cells := 0, slots := 0, locals := 200 } : Room)).room s m ([.int p0, .int p1, .int p2, .int p3, .int p4, .int p5, .int p6] : List Value).toArray below meth c H locs 0 0 Q (F0 m 99 ls []) := by
    intro x7 H locs ls r_p0 r_p1 r_p2 r_p3 r_p4 r_p5 r_p6 r_x7 hE hw hl
    refine lv_iload hx hb dX10_spelt_99 (lv_at hl 6 rfl) ?_
    refine lv_if_le (tgt := 120) hx hb dX10_spelt_101 (by decide) (fun c_101 => ?_) (fun c_101 => ?_)
    · refine lv_lload hx hb dX10_spelt_120 (lv_at hl 7 rfl) ?_
      simp only [f_X10_spelt__30_99, ↓reduceIte, eq_true c_101] at hE
      subst hQ
      exact W.lret (v := x7) hx hb hr (fun t ht hW => ⟨⟨x7, (), rfl, ⟨⟨(by rw [hR, ← hE]), trivial⟩, r_x7.to (by decide)⟩, by rw [ht]; exact hw.2.1, va_K.moved hW.alike hK, hw.2.2.1⟩, hw.2.2.2.1.F ht⟩) hw.2.2.2.1.2.2 dX10_spelt_122
    · have r_p6 : RI p6 1 0 := rc_lt2 rl_0 r_p6 (ti_nle c_101) (by decide)
      exact (r_p6.no (by decide)).elim
  have B78 : ∀ (x7 : Int64) (H : Heap) (locs : List Loc) (ls : Array Slot), RI p0 110 110 → RI p1 117 117 → RI p2 109 109 → RI p3 98 98 → RI p4 101 101 → RI p5 114 114 → RI p6 0 0 → RJ x7 7863053 7863053 → f_X10_spelt__30_78 p0 p1 p2 p3 p4 p5 p6 x7 = R9 → WD D cy GG A s wr_X10_spelt__30 wa_X10_spelt__30 Ps w0 Ps w0 H locs → lv_has ls 9 [(0, .int p0), (1, .int p1), (2, .int p2), (3, .int p3), (4, .int p4), (5, .int p5), (6, .int p6), (7, .long x7)] → W p l e (headSpec (Cond.code yX10_spelt cX10_spelt 9 (some .long) :: gT) ({ frames := 0, cells := 0, slots := 0, locals := 200 } : Room)).room s m ([.int p0, .int p1, .int p2, .int p3, .int p4, .int p5, .int p6] : List Value).toArray below meth c H locs 0 0 Q (F0 m 78 ls []) := by
    intro x7 H locs ls r_p0 r_p1 r_p2 r_p3 r_p4 r_p5 r_p6 r_x7 hE hw hl
    refine lv_iload hx hb dX10_spelt_78 (lv_at hl 5 rfl) ?_
    refine lv_if_le (tgt := 99) hx hb dX10_spelt_80 (by decide) (fun c_80 => ?_) (fun c_80 => ?_)
    · have r_p5 : RI p5 114 0 := rc_le1 r_p5 rl_0 (ti_le c_80) (by decide)
      exact (r_p5.no (by decide)).elim
    · refine lv_ldc2 (v := 27) hx hb hown (hts _ tw_1312) dX10_spelt_83 ?_
      refine lv_lload hx hb dX10_spelt_86 (lv_at hl 7 rfl) ?_
      refine lv_lmul hx hb dX10_spelt_88 (lv_topl (fun w_1 e_w_1 => ?_))
      have r_w_1 := tq_lmul (lo := 212302431) (hi := 212302431) rk_27 r_x7 (by decide +kernel) e_w_1
      have q_w_1 : (27 : Int64) * x7 = w_1 := e_w_1.symm
      refine lv_iload hx hb dX10_spelt_89 (lv_at hl 5 rfl) ?_
      obtain ⟨w_2, e_w_2⟩ : ∃ q9 : Int64, (p5 : Int32).toInt64 = q9 := ⟨_, rfl⟩
      refine lv_i2l (v := w_2) hx hb dX10_spelt_91 e_w_2 ?_
      have r_w_2 := tq_i2l r_p5 e_w_2
      have q_w_2 : Int32.toInt64 p5 = w_2 := e_w_2
      refine lv_ladd hx hb dX10_spelt_92 (lv_topl (fun w_3 e_w_3 => ?_))
      have r_w_3 := tq_ladd (lo := 212302545) (hi := 212302545) r_w_1 r_w_2 (by decide +kernel) e_w_3
      have q_w_3 : w_1 + w_2 = w_3 := e_w_3.symm
      refine lv_ldc2 (v := 96) hx hb hown (hts _ tw_1313) dX10_spelt_93 ?_
      refine lv_lsub hx hb dX10_spelt_96 (lv_topl (fun w_4 e_w_4 => ?_))
      have r_w_4 := tq_lsub (lo := 212302449) (hi := 212302449) r_w_3 rk_96 (by decide +kernel) e_w_4
      have q_w_4 : w_3 - (96 : Int64) = w_4 := e_w_4.symm
      refine lv_lstore (lv' := [(7, .long w_4), (0, .int p0), (1, .int p1), (2, .int p2), (3, .int p3), (4, .int p4), (5, .int p5), (6, .int p6)]) hx hb dX10_spelt_97 hl (by decide) rfl (fun ls hl => ?_)
      simp only [f_X10_spelt__30_78, ↓reduceIte, eq_false c_80, q_w_1, q_w_2, q_w_3, q_w_4] at hE
      exact B99 w_4 _ _ ls r_p0 r_p1 r_p2 r_p3 r_p4 r_p5 r_p6 r_w_4 hE hw (lv_sub hl [1, 2, 3, 4, 5, 6, 7, 0] rfl)
  have B57 : ∀ (x7 : Int64) (H : Heap) (locs : List Loc) (ls : Array Slot), RI p0 110 110 → RI p1 117 117 → RI p2 109 109 → RI p3 98 98 → RI p4 101 101 → RI p5 114 114 → RI p6 0 0 → RJ x7 291224 291224 → f_X10_spelt__30_57 p0 p1 p2 p3 p4 p5 p6 x7 = R9 → WD D cy GG A s wr_X10_spelt__30 wa_X10_spelt__30 Ps w0 Ps w0 H locs → lv_has ls 9 [(0, .int p0), (1, .int p1), (2, .int p2), (3, .int p3), (4, .int p4), (5, .int p5), (6, .int p6), (7, .long x7)] → W p l e (headSpec (Cond.code yX10_spelt cX10_spelt 9 (some .long) :: gT) ({ frames := 0, cells := 0, slots := 0, locals := 200 } : Room)).room s m ([.int p0, .int p1, .int p2, .int p3, .int p4, .int p5, .int p6] : List Value).toArray below meth c H locs 0 0 Q (F0 m 57 ls []) := by
    intro x7 H locs ls r_p0 r_p1 r_p2 r_p3 r_p4 r_p5 r_p6 r_x7 hE hw hl
    refine lv_iload hx hb dX10_spelt_57 (lv_at hl 4 rfl) ?_
    refine lv_if_le (tgt := 78) hx hb dX10_spelt_59 (by decide) (fun c_59 => ?_) (fun c_59 => ?_)
    · have r_p4 : RI p4 101 0 := rc_le1 r_p4 rl_0 (ti_le c_59) (by decide)
      exact (r_p4.no (by decide)).elim
    · refine lv_ldc2 (v := 27) hx hb hown (hts _ tw_1312) dX10_spelt_62 ?_
      refine lv_lload hx hb dX10_spelt_65 (lv_at hl 7 rfl) ?_
      refine lv_lmul hx hb dX10_spelt_67 (lv_topl (fun w_5 e_w_5 => ?_))
      have r_w_5 := tq_lmul (lo := 7863048) (hi := 7863048) rk_27 r_x7 (by decide +kernel) e_w_5
      have q_w_5 : (27 : Int64) * x7 = w_5 := e_w_5.symm
      refine lv_iload hx hb dX10_spelt_68 (lv_at hl 4 rfl) ?_
      obtain ⟨w_6, e_w_6⟩ : ∃ q9 : Int64, (p4 : Int32).toInt64 = q9 := ⟨_, rfl⟩
      refine lv_i2l (v := w_6) hx hb dX10_spelt_70 e_w_6 ?_
      have r_w_6 := tq_i2l r_p4 e_w_6
      have q_w_6 : Int32.toInt64 p4 = w_6 := e_w_6
      refine lv_ladd hx hb dX10_spelt_71 (lv_topl (fun w_7 e_w_7 => ?_))
      have r_w_7 := tq_ladd (lo := 7863149) (hi := 7863149) r_w_5 r_w_6 (by decide +kernel) e_w_7
      have q_w_7 : w_5 + w_6 = w_7 := e_w_7.symm
      refine lv_ldc2 (v := 96) hx hb hown (hts _ tw_1313) dX10_spelt_72 ?_
      refine lv_lsub hx hb dX10_spelt_75 (lv_topl (fun w_8 e_w_8 => ?_))
      have r_w_8 := tq_lsub (lo := 7863053) (hi := 7863053) r_w_7 rk_96 (by decide +kernel) e_w_8
      have q_w_8 : w_7 - (96 : Int64) = w_8 := e_w_8.symm
      refine lv_lstore (lv' := [(7, .long w_8), (0, .int p0), (1, .int p1), (2, .int p2), (3, .int p3), (4, .int p4), (5, .int p5), (6, .int p6)]) hx hb dX10_spelt_76 hl (by decide) rfl (fun ls hl => ?_)
      simp only [f_X10_spelt__30_57, ↓reduceIte, eq_false c_59, q_w_5, q_w_6, q_w_7, q_w_8] at hE
      exact B78 w_8 _ _ ls r_p0 r_p1 r_p2 r_p3 r_p4 r_p5 r_p6 r_w_8 hE hw (lv_sub hl [1, 2, 3, 4, 5, 6, 7, 0] rfl)
  have B38 : ∀ (x7 : Int64) (H : Heap) (locs : List Loc) (ls : Array Slot), RI p0 110 110 → RI p1 117 117 → RI p2 109 109 → RI p3 98 98 → RI p4 101 101 → RI p5 114 114 → RI p6 0 0 → RJ x7 10786 10786 → f_X10_spelt__30_38 p0 p1 p2 p3 p4 p5 p6 x7 = R9 → WD D cy GG A s wr_X10_spelt__30 wa_X10_spelt__30 Ps w0 Ps w0 H locs → lv_has ls 9 [(0, .int p0), (1, .int p1), (2, .int p2), (3, .int p3), (4, .int p4), (5, .int p5), (6, .int p6), (7, .long x7)] → W p l e (headSpec (Cond.code yX10_spelt cX10_spelt 9 (some .long) :: gT) ({ frames := 0, cells := 0, slots := 0, locals := 200 } : Room)).room s m ([.int p0, .int p1, .int p2, .int p3, .int p4, .int p5, .int p6] : List Value).toArray below meth c H locs 0 0 Q (F0 m 38 ls []) := by
    intro x7 H locs ls r_p0 r_p1 r_p2 r_p3 r_p4 r_p5 r_p6 r_x7 hE hw hl
    refine lv_iload_n hx hb dX10_spelt_38 rfl (lv_at hl 3 rfl) ?_
    refine lv_if_le (tgt := 57) hx hb dX10_spelt_39 (by decide) (fun c_39 => ?_) (fun c_39 => ?_)
    · have r_p3 : RI p3 98 0 := rc_le1 r_p3 rl_0 (ti_le c_39) (by decide)
      exact (r_p3.no (by decide)).elim
    · refine lv_ldc2 (v := 27) hx hb hown (hts _ tw_1312) dX10_spelt_42 ?_
      refine lv_lload hx hb dX10_spelt_45 (lv_at hl 7 rfl) ?_
      refine lv_lmul hx hb dX10_spelt_47 (lv_topl (fun w_9 e_w_9 => ?_))
      have r_w_9 := tq_lmul (lo := 291222) (hi := 291222) rk_27 r_x7 (by decide +kernel) e_w_9
      have q_w_9 : (27 : Int64) * x7 = w_9 := e_w_9.symm
      refine lv_iload_n hx hb dX10_spelt_48 rfl (lv_at hl 3 rfl) ?_
      obtain ⟨w_10, e_w_10⟩ : ∃ q9 : Int64, (p3 : Int32).toInt64 = q9 := ⟨_, rfl⟩
      refine lv_i2l (v := w_10) hx hb dX10_spelt_49 e_w_10 ?_
      have r_w_10 := tq_i2l r_p3 e_w_10
      have q_w_10 : Int32.toInt64 p3 = w_10 := e_w_10
      refine lv_ladd hx hb dX10_spelt_50 (lv_topl (fun w_11 e_w_11 => ?_))
      have r_w_11 := tq_ladd (lo := 291320) (hi := 291320) r_w_9 r_w_10 (by decide +kernel) e_w_11
      have q_w_11 : w_9 + w_10 = w_11 := e_w_11.symm
      refine lv_ldc2 (v := 96) hx hb hown (hts _ tw_1313) dX10_spelt_51 ?_
      refine lv_lsub hx hb dX10_spelt_54 (lv_topl (fun w_12 e_w_12 => ?_))
      have r_w_12 := tq_lsub (lo := 291224) (hi := 291224) r_w_11 rk_96 (by decide +kernel) e_w_12
      have q_w_12 : w_11 - (96 : Int64) = w_12 := e_w_12.symm
      refine lv_lstore (lv' := [(7, .long w_12), (0, .int p0), (1, .int p1), (2, .int p2), (3, .int p3), (4, .int p4), (5, .int p5), (6, .int p6)]) hx hb dX10_spelt_55 hl (by decide) rfl (fun ls hl => ?_)
      simp only [f_X10_spelt__30_38, ↓reduceIte, eq_false c_39, q_w_9, q_w_10, q_w_11, q_w_12] at hE
      exact B57 w_12 _ _ ls r_p0 r_p1 r_p2 r_p3 r_p4 r_p5 r_p6 r_w_12 hE hw (lv_sub hl [1, 2, 3, 4, 5, 6, 7, 0] rfl)
  refine lv_ldc2 (v := 27) hx hb hown (hts _ tw_1312) dX10_spelt_0 ?_
  refine lv_iload_n hx hb dX10_spelt_3 rfl (lv_at hl 0 rfl) ?_
  obtain ⟨w_13, e_w_13⟩ : ∃ q9 : Int64, (p0 : Int32).toInt64 = q9 := ⟨_, rfl⟩
  refine lv_i2l (v := w_13) hx hb dX10_spelt_4 e_w_13 ?_
  have r_w_13 := tq_i2l r_p0 e_w_13
  have q_w_13 : Int32.toInt64 p0 = w_13 := e_w_13
  refine lv_ldc2 (v := 96) hx hb hown (hts _ tw_1313) dX10_spelt_5 ?_
  refine lv_lsub hx hb dX10_spelt_8 (lv_topl (fun w_14 e_w_14 => ?_))
  have r_w_14 := tq_lsub (lo := 14) (hi := 14) r_w_13 rk_96 (by decide +kernel) e_w_14
  have q_w_14 : w_13 - (96 : Int64) = w_14 := e_w_14.symm
  refine lv_lmul hx hb dX10_spelt_9 (lv_topl (fun w_15 e_w_15 => ?_))
  have r_w_15 := tq_lmul (lo := 378) (hi := 378) rk_27 r_w_14 (by decide +kernel) e_w_15
  have q_w_15 : (27 : Int64) * w_14 = w_15 := e_w_15.symm
  refine lv_iload_n hx hb dX10_spelt_10 rfl (lv_at hl 1 rfl) ?_
  obtain ⟨w_16, e_w_16⟩ : ∃ q9 : Int64, (p1 : Int32).toInt64 = q9 := ⟨_, rfl⟩
  refine lv_i2l (v := w_16) hx hb dX10_spelt_11 e_w_16 ?_
  have r_w_16 := tq_i2l r_p1 e_w_16
  have q_w_16 : Int32.toInt64 p1 = w_16 := e_w_16
  refine lv_ladd hx hb dX10_spelt_12 (lv_topl (fun w_17 e_w_17 => ?_))
  have r_w_17 := tq_ladd (lo := 495) (hi := 495) r_w_15 r_w_16 (by decide +kernel) e_w_17
  have q_w_17 : w_15 + w_16 = w_17 := e_w_17.symm
  refine lv_ldc2 (v := 96) hx hb hown (hts _ tw_1313) dX10_spelt_13 ?_
  refine lv_lsub hx hb dX10_spelt_16 (lv_topl (fun w_18 e_w_18 => ?_))
  have r_w_18 := tq_lsub (lo := 399) (hi := 399) r_w_17 rk_96 (by decide +kernel) e_w_18
  have q_w_18 : w_17 - (96 : Int64) = w_18 := e_w_18.symm
  refine lv_lstore (lv' := [(7, .long w_18), (0, .int p0), (1, .int p1), (2, .int p2), (3, .int p3), (4, .int p4), (5, .int p5), (6, .int p6)]) hx hb dX10_spelt_17 hl (by decide) rfl (fun ls hl => ?_)
  refine lv_iload_n hx hb dX10_spelt_19 rfl (lv_at hl 3 rfl) ?_
  refine lv_if_le (tgt := 38) hx hb dX10_spelt_20 (by decide) (fun c_20 => ?_) (fun c_20 => ?_)
  · have r_p2 : RI p2 109 0 := rc_le1 r_p2 rl_0 (ti_le c_20) (by decide)
    exact (r_p2.no (by decide)).elim
  · refine lv_ldc2 (v := 27) hx hb hown (hts _ tw_1312) dX10_spelt_23 ?_
    refine lv_lload hx hb dX10_spelt_26 (lv_at hl 0 rfl) ?_
    refine lv_lmul hx hb dX10_spelt_28 (lv_topl (fun w_19 e_w_19 => ?_))
    have r_w_19 := tq_lmul (lo := 10773) (hi := 10773) rk_27 r_w_18 (by decide +kernel) e_w_19
    have q_w_19 : (27 : Int64) * w_18 = w_19 := e_w_19.symm
    refine lv_iload_n hx hb dX10_spelt_29 rfl (lv_at hl 3 rfl) ?_
    obtain ⟨w_20, e_w_20⟩ : ∃ q9 : Int64, (p2 : Int32).toInt64 = q9 := ⟨_, rfl⟩
    refine lv_i2l (v := w_20) hx hb dX10_spelt_30 e_w_20 ?_
    have r_w_20 := tq_i2l r_p2 e_w_20
    have q_w_20 : Int32.toInt64 p2 = w_20 := e_w_20
    refine lv_ladd hx hb dX10_spelt_31 (lv_topl (fun w_21 e_w_21 => ?_))
    have r_w_21 := tq_ladd (lo := 10882) (hi := 10882) r_w_19 r_w_20 (by decide +kernel) e_w_21
    have q_w_21 : w_19 + w_20 = w_21 := e_w_21.symm
    refine lv_ldc2 (v := 96) hx hb hown (hts _ tw_1313) dX10_spelt_32 ?_
    refine lv_lsub hx hb dX10_spelt_35 (lv_topl (fun w_22 e_w_22 => ?_))
    have r_w_22 := tq_lsub (lo := 10786) (hi := 10786) r_w_21 rk_96 (by decide +kernel) e_w_22
    have q_w_22 : w_21 - (96 : Int64) = w_22 := e_w_22.symm
    refine lv_lstore (lv' := [(7, .long w_22), (0, .int p0), (1, .int p1), (2, .int p2), (3, .int p3), (4, .int p4), (5, .int p5), (6, .int p6)]) hx hb dX10_spelt_36 hl (by decide) rfl (fun ls hl => ?_)
    simp only [f_X10_spelt__30, ↓reduceIte, q_w_13, q_w_14, q_w_15, q_w_16, q_w_17, q_w_18, eq_false c_20, q_w_19, q_w_20, q_w_21, q_w_22] at hE
    exact B38 w_22 _ _ ls r_p0 r_p1 r_p2 r_p3 r_p4 r_p5 r_p6 r_w_22 hE hw (lv_sub hl [1, 2, 3, 4, 5, 6, 7, 0] rfl)
abbrev wr_X10_spelt__31 : List (Nat × Nat) := []
abbrev wa_X10_spelt__31 : List Nat := []
set_option maxHeartbeats 4000000 in
set_option maxRecDepth 100000 in
theorem c_X10_spelt__31 (l : Launch) (D : va_G) (cy : Nat → ClassId) (z : Nat → Nat) (sz : Nat) (Ps : PSI) (w0 : va_W) (hT : HT cy GG Ps w0) (p0 : Int32) (p1 : Int32) (p2 : Int32) (p3 : Int32) (p4 : Int32) (p5 : Int32) (p6 : Int32) (r_p0 : RI p0 105 105) (r_p1 : RI p1 100 100) (r_p2 : RI p2 101 101) (r_p3 : RI p3 97 97) (r_p4 : RI p4 0 0) (r_p5 : RI p5 0 0) (r_p6 : RI p6 0 0) : Met l yX10_spelt (Cond.code yX10_spelt cX10_spelt 9 (some .long) :: gT) ({ frames := 0, cells := 0, slots := 0, locals := 200 } : Room) (va_Pc [.int p0, .int p1, .int p2, .int p3, .int p4, .int p5, .int p6] (PRE D cy z w0 sz)) (va_Ql (fun (r : Int64) (u : Unit) => ((f_X10_spelt__31 p0 p1 p2 p3 p4 p5 p6) = r ∧ True) ∧ (RJ r 180199 180199)) (BB D cy (va_A w0 sz) (fun (u : Unit) => w0)) (va_A w0 sz)) 0 0 (va_A w0 sz) := by
  refine Met.ofW (cc := cX10_spelt) (maxL := 9) (ret := (some .long)) (by decide) rfl ?_
  intro p e s m args below meth c s₁ B hml hv
  obtain ⟨rfl, hsz, hP, hK, hD0, hSD⟩ := hv
  have hx := B.exec
  have hb := B.bytes
  have hr := B.returns
  have hlocks := B.notSynchronized
  have hts : ∀ w ∈ gT, w.before _ s = true := fun w h => atoms_spec (ws := Cond.code yX10_spelt cX10_spelt 9 (some .long) :: gT) B.pre w (List.mem_cons_of_mem _ h)
  have hown : s.vm.findClass RX10 = some m.cls := findClass_of_methodNamed B.named
  subst hsz
  have hD := hD0.self (sz := s.heap.size)
  generalize hAe : va_A w0 s.heap.size = A at hD hSD ⊢
  have hA : ∀ q : Nat, s.heap.size ≤ q → A q := fun q h => by rw [← hAe]; exact Or.inr h
  have hl := lv_entry ([.int p0, .int p1, .int p2, .int p3, .int p4, .int p5, .int p6]) (n := 9) (Nat.le_of_ble_eq_true rfl)
  rw [lg_entry_eq]
  generalize (lg_sl ([.int p0, .int p1, .int p2, .int p3, .int p4, .int p5, .int p6]) ++ List.replicate (9 - (lg_sl ([.int p0, .int p1, .int p2, .int p3, .int p4, .int p5, .int p6])).length) Slot.unset).toArray = ls at hl ⊢
  have hl : lv_has ls 9 [(0, .int p0), (1, .int p1), (2, .int p2), (3, .int p3), (4, .int p4), (5, .int p5), (6, .int p6)] := hl
  refine nameQ (fun Q hQ => ?_)
  have hw : WD D cy GG A s wr_X10_spelt__31 wa_X10_spelt__31 Ps w0 Ps w0 s.heap [] := ⟨hT, hP, hD, va_S.rf, FR.rf, hT.1, [], (List.append_nil _).symm⟩
  obtain ⟨R9, hR⟩ : ∃ q9 : Int64, f_X10_spelt__31 p0 p1 p2 p3 p4 p5 p6 = q9 := ⟨_, rfl⟩
  have hE := hR
  have B99 : ∀ (x7 : Int64) (H : Heap) (locs : List Loc) (ls : Array Slot), RI p0 105 105 → RI p1 100 100 → RI p2 101 101 → RI p3 97 97 → RI p4 0 0 → RI p5 0 0 → RI p6 0 0 → RJ x7 180199 180199 → f_X10_spelt__31_99 p0 p1 p2 p3 p4 p5 p6 x7 = R9 → WD D cy GG A s wr_X10_spelt__31 wa_X10_spelt__31 Ps w0 Ps w0 H locs → lv_has ls 9 [(0, .int p0), (1, .int p1), (2, .int p2), (3, .int p3), (4, .int p4), (5, .int p5), (6, .int p6), (7, .long x7)] → W p l e (headSpec (Cond.code yX10_spelt cX10_spelt 9 (some .long) :: gT) ({ frames := 0, cells := 0, slots := 0, locals := 200 } : Room)).room s m ([.int p0, .int p1, .int p2, .int p3, .int p4, .int p5, .int p6] : List Value).toArray below meth c H locs 0 0 Q (F0 m 99 ls []) := by
    intro x7 H locs ls r_p0 r_p1 r_p2 r_p3 r_p4 r_p5 r_p6 r_x7 hE hw hl
    refine lv_iload hx hb dX10_spelt_99 (lv_at hl 6 rfl) ?_
    refine lv_if_le (tgt := 120) hx hb dX10_spelt_101 (by decide) (fun c_101 => ?_) (fun c_101 => ?_)
    · refine lv_lload hx hb dX10_spelt_120 (lv_at hl 7 rfl) ?_
      simp only [f_X10_spelt__31_99, ↓reduceIte, eq_true c_101] at hE
      subst hQ
      exact W.lret (v := x7) hx hb hr (fun t ht hW => ⟨⟨x7, (), rfl, ⟨⟨(by rw [hR, ← hE]), trivial⟩, r_x7.to (by decide)⟩, by rw [ht]; exact hw.2.1, va_K.moved hW.alike hK, hw.2.2.1⟩, hw.2.2.2.1.F ht⟩) hw.2.2.2.1.2.2 dX10_spelt_122
    · have r_p6 : RI p6 1 0 := rc_lt2 rl_0 r_p6 (ti_nle c_101) (by decide)
      exact (r_p6.no (by decide)).elim
  have B78 : ∀ (x7 : Int64) (H : Heap) (locs : List Loc) (ls : Array Slot), RI p0 105 105 → RI p1 100 100 → RI p2 101 101 → RI p3 97 97 → RI p4 0 0 → RI p5 0 0 → RI p6 0 0 → RJ x7 180199 180199 → f_X10_spelt__31_78 p0 p1 p2 p3 p4 p5 p6 x7 = R9 → WD D cy GG A s wr_X10_spelt__31 wa_X10_spelt__31 Ps w0 Ps w0 H locs → lv_has ls 9 [(0, .int p0), (1, .int p1), (2, .int p2), (3, .int p3), (4, .int p4), (5, .int p5), (6, .int p6), (7, .long x7)] → W p l e (headSpec (Cond.code yX10_spelt cX10_spelt 9 (some .long) :: gT) ({ frames := 0, cells := 0, slots := 0, locals := 200 } : Room)).room s m ([.int p0, .int p1, .int p2, .int p3, .int p4, .int p5, .int p6] : List Value).toArray below meth c H locs 0 0 Q (F0 m 78 ls []) := by
    intro x7 H locs ls r_p0 r_p1 r_p2 r_p3 r_p4 r_p5 r_p6 r_x7 hE hw hl
    refine lv_iload hx hb dX10_spelt_78 (lv_at hl 5 rfl) ?_
    refine lv_if_le (tgt := 99) hx hb dX10_spelt_80 (by decide) (fun c_80 => ?_) (fun c_80 => ?_)
    · simp only [f_X10_spelt__31_78, ↓reduceIte, eq_true c_80] at hE
      exact B99 x7 _ _ ls r_p0 r_p1 r_p2 r_p3 r_p4 r_p5 r_p6 r_x7 hE hw hl
    · have r_p5 : RI p5 1 0 := rc_lt2 rl_0 r_p5 (ti_nle c_80) (by decide)
      exact (r_p5.no (by decide)).elim
  have B57 : ∀ (x7 : Int64) (H : Heap) (locs : List Loc) (ls : Array Slot), RI p0 105 105 → RI p1 100 100 → RI p2 101 101 → RI p3 97 97 → RI p4 0 0 → RI p5 0 0 → RI p6 0 0 → RJ x7 180199 180199 → f_X10_spelt__31_57 p0 p1 p2 p3 p4 p5 p6 x7 = R9 → WD D cy GG A s wr_X10_spelt__31 wa_X10_spelt__31 Ps w0 Ps w0 H locs → lv_has ls 9 [(0, .int p0), (1, .int p1), (2, .int p2), (3, .int p3), (4, .int p4), (5, .int p5), (6, .int p6), (7, .long x7)] → W p l e (headSpec (Cond.code yX10_spelt cX10_spelt 9 (some .long) :: gT) ({ frames := 0, cells := 0, slots := 0, locals := 200 } : Room)).room s m ([.int p0, .int p1, .int p2, .int p3, .int p4, .int p5, .int p6] : List Value).toArray below meth c H locs 0 0 Q (F0 m 57 ls []) := by
    intro x7 H locs ls r_p0 r_p1 r_p2 r_p3 r_p4 r_p5 r_p6 r_x7 hE hw hl
    refine lv_iload hx hb dX10_spelt_57 (lv_at hl 4 rfl) ?_
    refine lv_if_le (tgt := 78) hx hb dX10_spelt_59 (by decide) (fun c_59 => ?_) (fun c_59 => ?_)
    · simp only [f_X10_spelt__31_57, ↓reduceIte, eq_true c_59] at hE
      exact B78 x7 _ _ ls r_p0 r_p1 r_p2 r_p3 r_p4 r_p5 r_p6 r_x7 hE hw hl
    · have r_p4 : RI p4 1 0 := rc_lt2 rl_0 r_p4 (ti_nle c_59) (by decide)
      exact (r_p4.no (by decide)).elim
  have B38 : ∀ (x7 : Int64) (H : Heap) (locs : List Loc) (ls : Array Slot), RI p0 105 105 → RI p1 100 100 → RI p2 101 101 → RI p3 97 97 → RI p4 0 0 → RI p5 0 0 → RI p6 0 0 → RJ x7 6674 6674 → f_X10_spelt__31_38 p0 p1 p2 p3 p4 p5 p6 x7 = R9 → WD D cy GG A s wr_X10_spelt__31 wa_X10_spelt__31 Ps w0 Ps w0 H locs → lv_has ls 9 [(0, .int p0), (1, .int p1), (2, .int p2), (3, .int p3), (4, .int p4), (5, .int p5), (6, .int p6), (7, .long x7)] → W p l e (headSpec (Cond.code yX10_spelt cX10_spelt 9 (some .long) :: gT) ({ frames := 0, cells := 0, slots := 0, locals := 200 } : Room)).room s m ([.int p0, .int p1, .int p2, .int p3, .int p4, .int p5, .int p6] : List Value).toArray below meth c H locs 0 0 Q (F0 m 38 ls []) := by
    intro x7 H locs ls r_p0 r_p1 r_p2 r_p3 r_p4 r_p5 r_p6 r_x7 hE hw hl
    refine lv_iload_n hx hb dX10_spelt_38 rfl (lv_at hl 3 rfl) ?_
    refine lv_if_le (tgt := 57) hx hb dX10_spelt_39 (by decide) (fun c_39 => ?_) (fun c_39 => ?_)
    · have r_p3 : RI p3 97 0 := rc_le1 r_p3 rl_0 (ti_le c_39) (by decide)
      exact (r_p3.no (by decide)).elim
    · refine lv_ldc2 (v := 27) hx hb hown (hts _ tw_1312) dX10_spelt_42 ?_
      refine lv_lload hx hb dX10_spelt_45 (lv_at hl 7 rfl) ?_
      refine lv_lmul hx hb dX10_spelt_47 (lv_topl (fun w_1 e_w_1 => ?_))
      have r_w_1 := tq_lmul (lo := 180198) (hi := 180198) rk_27 r_x7 (by decide +kernel) e_w_1
      have q_w_1 : (27 : Int64) * x7 = w_1 := e_w_1.symm
      refine lv_iload_n hx hb dX10_spelt_48 rfl (lv_at hl 3 rfl) ?_
      obtain ⟨w_2, e_w_2⟩ : ∃ q9 : Int64, (p3 : Int32).toInt64 = q9 := ⟨_, rfl⟩
      refine lv_i2l (v := w_2) hx hb dX10_spelt_49 e_w_2 ?_
      have r_w_2 := tq_i2l r_p3 e_w_2
      have q_w_2 : Int32.toInt64 p3 = w_2 := e_w_2
      refine lv_ladd hx hb dX10_spelt_50 (lv_topl (fun w_3 e_w_3 => ?_))
      have r_w_3 := tq_ladd (lo := 180295) (hi := 180295) r_w_1 r_w_2 (by decide +kernel) e_w_3
      have q_w_3 : w_1 + w_2 = w_3 := e_w_3.symm
      refine lv_ldc2 (v := 96) hx hb hown (hts _ tw_1313) dX10_spelt_51 ?_
      refine lv_lsub hx hb dX10_spelt_54 (lv_topl (fun w_4 e_w_4 => ?_))
      have r_w_4 := tq_lsub (lo := 180199) (hi := 180199) r_w_3 rk_96 (by decide +kernel) e_w_4
      have q_w_4 : w_3 - (96 : Int64) = w_4 := e_w_4.symm
      refine lv_lstore (lv' := [(7, .long w_4), (0, .int p0), (1, .int p1), (2, .int p2), (3, .int p3), (4, .int p4), (5, .int p5), (6, .int p6)]) hx hb dX10_spelt_55 hl (by decide) rfl (fun ls hl => ?_)
      simp only [f_X10_spelt__31_38, ↓reduceIte, eq_false c_39, q_w_1, q_w_2, q_w_3, q_w_4] at hE
      exact B57 w_4 _ _ ls r_p0 r_p1 r_p2 r_p3 r_p4 r_p5 r_p6 r_w_4 hE hw (lv_sub hl [1, 2, 3, 4, 5, 6, 7, 0] rfl)
  refine lv_ldc2 (v := 27) hx hb hown (hts _ tw_1312) dX10_spelt_0 ?_
  refine lv_iload_n hx hb dX10_spelt_3 rfl (lv_at hl 0 rfl) ?_
  obtain ⟨w_5, e_w_5⟩ : ∃ q9 : Int64, (p0 : Int32).toInt64 = q9 := ⟨_, rfl⟩
  refine lv_i2l (v := w_5) hx hb dX10_spelt_4 e_w_5 ?_
  have r_w_5 := tq_i2l r_p0 e_w_5
  have q_w_5 : Int32.toInt64 p0 = w_5 := e_w_5
  refine lv_ldc2 (v := 96) hx hb hown (hts _ tw_1313) dX10_spelt_5 ?_
  refine lv_lsub hx hb dX10_spelt_8 (lv_topl (fun w_6 e_w_6 => ?_))
  have r_w_6 := tq_lsub (lo := 9) (hi := 9) r_w_5 rk_96 (by decide +kernel) e_w_6
  have q_w_6 : w_5 - (96 : Int64) = w_6 := e_w_6.symm
  refine lv_lmul hx hb dX10_spelt_9 (lv_topl (fun w_7 e_w_7 => ?_))
  have r_w_7 := tq_lmul (lo := 243) (hi := 243) rk_27 r_w_6 (by decide +kernel) e_w_7
  have q_w_7 : (27 : Int64) * w_6 = w_7 := e_w_7.symm
  refine lv_iload_n hx hb dX10_spelt_10 rfl (lv_at hl 1 rfl) ?_
  obtain ⟨w_8, e_w_8⟩ : ∃ q9 : Int64, (p1 : Int32).toInt64 = q9 := ⟨_, rfl⟩
  refine lv_i2l (v := w_8) hx hb dX10_spelt_11 e_w_8 ?_
  have r_w_8 := tq_i2l r_p1 e_w_8
  have q_w_8 : Int32.toInt64 p1 = w_8 := e_w_8
  refine lv_ladd hx hb dX10_spelt_12 (lv_topl (fun w_9 e_w_9 => ?_))
  have r_w_9 := tq_ladd (lo := 343) (hi := 343) r_w_7 r_w_8 (by decide +kernel) e_w_9
  have q_w_9 : w_7 + w_8 = w_9 := e_w_9.symm
  refine lv_ldc2 (v := 96) hx hb hown (hts _ tw_1313) dX10_spelt_13 ?_
  refine lv_lsub hx hb dX10_spelt_16 (lv_topl (fun w_10 e_w_10 => ?_))
  have r_w_10 := tq_lsub (lo := 247) (hi := 247) r_w_9 rk_96 (by decide +kernel) e_w_10
  have q_w_10 : w_9 - (96 : Int64) = w_10 := e_w_10.symm
  refine lv_lstore (lv' := [(7, .long w_10), (0, .int p0), (1, .int p1), (2, .int p2), (3, .int p3), (4, .int p4), (5, .int p5), (6, .int p6)]) hx hb dX10_spelt_17 hl (by decide) rfl (fun ls hl => ?_)
  refine lv_iload_n hx hb dX10_spelt_19 rfl (lv_at hl 3 rfl) ?_
  refine lv_if_le (tgt := 38) hx hb dX10_spelt_20 (by decide) (fun c_20 => ?_) (fun c_20 => ?_)
  · have r_p2 : RI p2 101 0 := rc_le1 r_p2 rl_0 (ti_le c_20) (by decide)
    exact (r_p2.no (by decide)).elim
  · refine lv_ldc2 (v := 27) hx hb hown (hts _ tw_1312) dX10_spelt_23 ?_
    refine lv_lload hx hb dX10_spelt_26 (lv_at hl 0 rfl) ?_
    refine lv_lmul hx hb dX10_spelt_28 (lv_topl (fun w_11 e_w_11 => ?_))
    have r_w_11 := tq_lmul (lo := 6669) (hi := 6669) rk_27 r_w_10 (by decide +kernel) e_w_11
    have q_w_11 : (27 : Int64) * w_10 = w_11 := e_w_11.symm
    refine lv_iload_n hx hb dX10_spelt_29 rfl (lv_at hl 3 rfl) ?_
    obtain ⟨w_12, e_w_12⟩ : ∃ q9 : Int64, (p2 : Int32).toInt64 = q9 := ⟨_, rfl⟩
    refine lv_i2l (v := w_12) hx hb dX10_spelt_30 e_w_12 ?_
    have r_w_12 := tq_i2l r_p2 e_w_12
    have q_w_12 : Int32.toInt64 p2 = w_12 := e_w_12
    refine lv_ladd hx hb dX10_spelt_31 (lv_topl (fun w_13 e_w_13 => ?_))
    have r_w_13 := tq_ladd (lo := 6770) (hi := 6770) r_w_11 r_w_12 (by decide +kernel) e_w_13
    have q_w_13 : w_11 + w_12 = w_13 := e_w_13.symm
    refine lv_ldc2 (v := 96) hx hb hown (hts _ tw_1313) dX10_spelt_32 ?_
    refine lv_lsub hx hb dX10_spelt_35 (lv_topl (fun w_14 e_w_14 => ?_))
    have r_w_14 := tq_lsub (lo := 6674) (hi := 6674) r_w_13 rk_96 (by decide +kernel) e_w_14
    have q_w_14 : w_13 - (96 : Int64) = w_14 := e_w_14.symm
    refine lv_lstore (lv' := [(7, .long w_14), (0, .int p0), (1, .int p1), (2, .int p2), (3, .int p3), (4, .int p4), (5, .int p5), (6, .int p6)]) hx hb dX10_spelt_36 hl (by decide) rfl (fun ls hl => ?_)
    simp only [f_X10_spelt__31, ↓reduceIte, q_w_5, q_w_6, q_w_7, q_w_8, q_w_9, q_w_10, eq_false c_20, q_w_11, q_w_12, q_w_13, q_w_14] at hE
    exact B38 w_14 _ _ ls r_p0 r_p1 r_p2 r_p3 r_p4 r_p5 r_p6 r_w_14 hE hw (lv_sub hl [1, 2, 3, 4, 5, 6, 7, 0] rfl)
abbrev wr_X10_spelt__32 : List (Nat × Nat) := []
abbrev wa_X10_spelt__32 : List Nat := []
set_option maxHeartbeats 4000000 in
set_option maxRecDepth 100000 in
theorem c_X10_spelt__32 (l : Launch) (D : va_G) (cy : Nat → ClassId) (z : Nat → Nat) (sz : Nat) (Ps : PSI) (w0 : va_W) (hT : HT cy GG Ps w0) (p0 : Int32) (p1 : Int32) (p2 : Int32) (p3 : Int32) (p4 : Int32) (p5 : Int32) (p6 : Int32) (r_p0 : RI p0 114 114) (r_p1 : RI p1 111 111) (r_p2 : RI p2 111 111) (r_p3 : RI p3 109 109) (r_p4 : RI p4 0 0) (r_p5 : RI p5 0 0) (r_p6 : RI p6 0 0) : Met l yX10_spelt (Cond.code yX10_spelt cX10_spelt 9 (some .long) :: gT) ({ frames := 0, cells := 0, slots := 0, locals := 200 } : Room) (va_Pc [.int p0, .int p1, .int p2, .int p3, .int p4, .int p5, .int p6] (PRE D cy z w0 sz)) (va_Ql (fun (r : Int64) (u : Unit) => ((f_X10_spelt__31 p0 p1 p2 p3 p4 p5 p6) = r ∧ True) ∧ (RJ r 365647 365647)) (BB D cy (va_A w0 sz) (fun (u : Unit) => w0)) (va_A w0 sz)) 0 0 (va_A w0 sz) := by
  refine Met.ofW (cc := cX10_spelt) (maxL := 9) (ret := (some .long)) (by decide) rfl ?_
  intro p e s m args below meth c s₁ B hml hv
  obtain ⟨rfl, hsz, hP, hK, hD0, hSD⟩ := hv
  have hx := B.exec
  have hb := B.bytes
  have hr := B.returns
  have hlocks := B.notSynchronized
  have hts : ∀ w ∈ gT, w.before _ s = true := fun w h => atoms_spec (ws := Cond.code yX10_spelt cX10_spelt 9 (some .long) :: gT) B.pre w (List.mem_cons_of_mem _ h)
  have hown : s.vm.findClass RX10 = some m.cls := findClass_of_methodNamed B.named
  subst hsz
  have hD := hD0.self (sz := s.heap.size)
  generalize hAe : va_A w0 s.heap.size = A at hD hSD ⊢
  have hA : ∀ q : Nat, s.heap.size ≤ q → A q := fun q h => by rw [← hAe]; exact Or.inr h
  have hl := lv_entry ([.int p0, .int p1, .int p2, .int p3, .int p4, .int p5, .int p6]) (n := 9) (Nat.le_of_ble_eq_true rfl)
  rw [lg_entry_eq]
  generalize (lg_sl ([.int p0, .int p1, .int p2, .int p3, .int p4, .int p5, .int p6]) ++ List.replicate (9 - (lg_sl ([.int p0, .int p1, .int p2, .int p3, .int p4, .int p5, .int p6])).length) Slot.unset).toArray = ls at hl ⊢
  have hl : lv_has ls 9 [(0, .int p0), (1, .int p1), (2, .int p2), (3, .int p3), (4, .int p4), (5, .int p5), (6, .int p6)] := hl
  refine nameQ (fun Q hQ => ?_)
  have hw : WD D cy GG A s wr_X10_spelt__32 wa_X10_spelt__32 Ps w0 Ps w0 s.heap [] := ⟨hT, hP, hD, va_S.rf, FR.rf, hT.1, [], (List.append_nil _).symm⟩
  obtain ⟨R9, hR⟩ : ∃ q9 : Int64, f_X10_spelt__31 p0 p1 p2 p3 p4 p5 p6 = q9 := ⟨_, rfl⟩
  have hE := hR
  have B99 : ∀ (x7 : Int64) (H : Heap) (locs : List Loc) (ls : Array Slot), RI p0 114 114 → RI p1 111 111 → RI p2 111 111 → RI p3 109 109 → RI p4 0 0 → RI p5 0 0 → RI p6 0 0 → RJ x7 365647 365647 → f_X10_spelt__31_99 p0 p1 p2 p3 p4 p5 p6 x7 = R9 → WD D cy GG A s wr_X10_spelt__32 wa_X10_spelt__32 Ps w0 Ps w0 H locs → lv_has ls 9 [(0, .int p0), (1, .int p1), (2, .int p2), (3, .int p3), (4, .int p4), (5, .int p5), (6, .int p6), (7, .long x7)] → W p l e (headSpec (Cond.code yX10_spelt cX10_spelt 9 (some .long) :: gT) ({ frames := 0, cells := 0, slots := 0, locals := 200 } : Room)).room s m ([.int p0, .int p1, .int p2, .int p3, .int p4, .int p5, .int p6] : List Value).toArray below meth c H locs 0 0 Q (F0 m 99 ls []) := by
    intro x7 H locs ls r_p0 r_p1 r_p2 r_p3 r_p4 r_p5 r_p6 r_x7 hE hw hl
    refine lv_iload hx hb dX10_spelt_99 (lv_at hl 6 rfl) ?_
    refine lv_if_le (tgt := 120) hx hb dX10_spelt_101 (by decide) (fun c_101 => ?_) (fun c_101 => ?_)
    · refine lv_lload hx hb dX10_spelt_120 (lv_at hl 7 rfl) ?_
      simp only [f_X10_spelt__31_99, ↓reduceIte, eq_true c_101] at hE
      subst hQ
      exact W.lret (v := x7) hx hb hr (fun t ht hW => ⟨⟨x7, (), rfl, ⟨⟨(by rw [hR, ← hE]), trivial⟩, r_x7.to (by decide)⟩, by rw [ht]; exact hw.2.1, va_K.moved hW.alike hK, hw.2.2.1⟩, hw.2.2.2.1.F ht⟩) hw.2.2.2.1.2.2 dX10_spelt_122
    · have r_p6 : RI p6 1 0 := rc_lt2 rl_0 r_p6 (ti_nle c_101) (by decide)
      exact (r_p6.no (by decide)).elim
  have B78 : ∀ (x7 : Int64) (H : Heap) (locs : List Loc) (ls : Array Slot), RI p0 114 114 → RI p1 111 111 → RI p2 111 111 → RI p3 109 109 → RI p4 0 0 → RI p5 0 0 → RI p6 0 0 → RJ x7 365647 365647 → f_X10_spelt__31_78 p0 p1 p2 p3 p4 p5 p6 x7 = R9 → WD D cy GG A s wr_X10_spelt__32 wa_X10_spelt__32 Ps w0 Ps w0 H locs → lv_has ls 9 [(0, .int p0), (1, .int p1), (2, .int p2), (3, .int p3), (4, .int p4), (5, .int p5), (6, .int p6), (7, .long x7)] → W p l e (headSpec (Cond.code yX10_spelt cX10_spelt 9 (some .long) :: gT) ({ frames := 0, cells := 0, slots := 0, locals := 200 } : Room)).room s m ([.int p0, .int p1, .int p2, .int p3, .int p4, .int p5, .int p6] : List Value).toArray below meth c H locs 0 0 Q (F0 m 78 ls []) := by
    intro x7 H locs ls r_p0 r_p1 r_p2 r_p3 r_p4 r_p5 r_p6 r_x7 hE hw hl
    refine lv_iload hx hb dX10_spelt_78 (lv_at hl 5 rfl) ?_
    refine lv_if_le (tgt := 99) hx hb dX10_spelt_80 (by decide) (fun c_80 => ?_) (fun c_80 => ?_)
    · simp only [f_X10_spelt__31_78, ↓reduceIte, eq_true c_80] at hE
      exact B99 x7 _ _ ls r_p0 r_p1 r_p2 r_p3 r_p4 r_p5 r_p6 r_x7 hE hw hl
    · have r_p5 : RI p5 1 0 := rc_lt2 rl_0 r_p5 (ti_nle c_80) (by decide)
      exact (r_p5.no (by decide)).elim
  have B57 : ∀ (x7 : Int64) (H : Heap) (locs : List Loc) (ls : Array Slot), RI p0 114 114 → RI p1 111 111 → RI p2 111 111 → RI p3 109 109 → RI p4 0 0 → RI p5 0 0 → RI p6 0 0 → RJ x7 365647 365647 → f_X10_spelt__31_57 p0 p1 p2 p3 p4 p5 p6 x7 = R9 → WD D cy GG A s wr_X10_spelt__32 wa_X10_spelt__32 Ps w0 Ps w0 H locs → lv_has ls 9 [(0, .int p0), (1, .int p1), (2, .int p2), (3, .int p3), (4, .int p4), (5, .int p5), (6, .int p6), (7, .long x7)] → W p l e (headSpec (Cond.code yX10_spelt cX10_spelt 9 (some .long) :: gT) ({ frames := 0, cells := 0, slots := 0, locals := 200 } : Room)).room s m ([.int p0, .int p1, .int p2, .int p3, .int p4, .int p5, .int p6] : List Value).toArray below meth c H locs 0 0 Q (F0 m 57 ls []) := by
    intro x7 H locs ls r_p0 r_p1 r_p2 r_p3 r_p4 r_p5 r_p6 r_x7 hE hw hl
    refine lv_iload hx hb dX10_spelt_57 (lv_at hl 4 rfl) ?_
    refine lv_if_le (tgt := 78) hx hb dX10_spelt_59 (by decide) (fun c_59 => ?_) (fun c_59 => ?_)
    · simp only [f_X10_spelt__31_57, ↓reduceIte, eq_true c_59] at hE
      exact B78 x7 _ _ ls r_p0 r_p1 r_p2 r_p3 r_p4 r_p5 r_p6 r_x7 hE hw hl
    · have r_p4 : RI p4 1 0 := rc_lt2 rl_0 r_p4 (ti_nle c_59) (by decide)
      exact (r_p4.no (by decide)).elim
  have B38 : ∀ (x7 : Int64) (H : Heap) (locs : List Loc) (ls : Array Slot), RI p0 114 114 → RI p1 111 111 → RI p2 111 111 → RI p3 109 109 → RI p4 0 0 → RI p5 0 0 → RI p6 0 0 → RJ x7 13542 13542 → f_X10_spelt__31_38 p0 p1 p2 p3 p4 p5 p6 x7 = R9 → WD D cy GG A s wr_X10_spelt__32 wa_X10_spelt__32 Ps w0 Ps w0 H locs → lv_has ls 9 [(0, .int p0), (1, .int p1), (2, .int p2), (3, .int p3), (4, .int p4), (5, .int p5), (6, .int p6), (7, .long x7)] → W p l e (headSpec (Cond.code yX10_spelt cX10_spelt 9 (some .long) :: gT) ({ frames := 0, cells := 0, slots := 0, locals := 200 } : Room)).room s m ([.int p0, .int p1, .int p2, .int p3, .int p4, .int p5, .int p6] : List Value).toArray below meth c H locs 0 0 Q (F0 m 38 ls []) := by
    intro x7 H locs ls r_p0 r_p1 r_p2 r_p3 r_p4 r_p5 r_p6 r_x7 hE hw hl
    refine lv_iload_n hx hb dX10_spelt_38 rfl (lv_at hl 3 rfl) ?_
    refine lv_if_le (tgt := 57) hx hb dX10_spelt_39 (by decide) (fun c_39 => ?_) (fun c_39 => ?_)
    · have r_p3 : RI p3 109 0 := rc_le1 r_p3 rl_0 (ti_le c_39) (by decide)
      exact (r_p3.no (by decide)).elim
    · refine lv_ldc2 (v := 27) hx hb hown (hts _ tw_1312) dX10_spelt_42 ?_
      refine lv_lload hx hb dX10_spelt_45 (lv_at hl 7 rfl) ?_
      refine lv_lmul hx hb dX10_spelt_47 (lv_topl (fun w_1 e_w_1 => ?_))
      have r_w_1 := tq_lmul (lo := 365634) (hi := 365634) rk_27 r_x7 (by decide +kernel) e_w_1
      have q_w_1 : (27 : Int64) * x7 = w_1 := e_w_1.symm
      refine lv_iload_n hx hb dX10_spelt_48 rfl (lv_at hl 3 rfl) ?_
      obtain ⟨w_2, e_w_2⟩ : ∃ q9 : Int64, (p3 : Int32).toInt64 = q9 := ⟨_, rfl⟩
      refine lv_i2l (v := w_2) hx hb dX10_spelt_49 e_w_2 ?_
      have r_w_2 := tq_i2l r_p3 e_w_2
      have q_w_2 : Int32.toInt64 p3 = w_2 := e_w_2
      refine lv_ladd hx hb dX10_spelt_50 (lv_topl (fun w_3 e_w_3 => ?_))
      have r_w_3 := tq_ladd (lo := 365743) (hi := 365743) r_w_1 r_w_2 (by decide +kernel) e_w_3
      have q_w_3 : w_1 + w_2 = w_3 := e_w_3.symm
      refine lv_ldc2 (v := 96) hx hb hown (hts _ tw_1313) dX10_spelt_51 ?_
      refine lv_lsub hx hb dX10_spelt_54 (lv_topl (fun w_4 e_w_4 => ?_))
      have r_w_4 := tq_lsub (lo := 365647) (hi := 365647) r_w_3 rk_96 (by decide +kernel) e_w_4
      have q_w_4 : w_3 - (96 : Int64) = w_4 := e_w_4.symm
      refine lv_lstore (lv' := [(7, .long w_4), (0, .int p0), (1, .int p1), (2, .int p2), (3, .int p3), (4, .int p4), (5, .int p5), (6, .int p6)]) hx hb dX10_spelt_55 hl (by decide) rfl (fun ls hl => ?_)
      simp only [f_X10_spelt__31_38, ↓reduceIte, eq_false c_39, q_w_1, q_w_2, q_w_3, q_w_4] at hE
      exact B57 w_4 _ _ ls r_p0 r_p1 r_p2 r_p3 r_p4 r_p5 r_p6 r_w_4 hE hw (lv_sub hl [1, 2, 3, 4, 5, 6, 7, 0] rfl)
  refine lv_ldc2 (v := 27) hx hb hown (hts _ tw_1312) dX10_spelt_0 ?_
  refine lv_iload_n hx hb dX10_spelt_3 rfl (lv_at hl 0 rfl) ?_
  obtain ⟨w_5, e_w_5⟩ : ∃ q9 : Int64, (p0 : Int32).toInt64 = q9 := ⟨_, rfl⟩
  refine lv_i2l (v := w_5) hx hb dX10_spelt_4 e_w_5 ?_
  have r_w_5 := tq_i2l r_p0 e_w_5
  have q_w_5 : Int32.toInt64 p0 = w_5 := e_w_5
  refine lv_ldc2 (v := 96) hx hb hown (hts _ tw_1313) dX10_spelt_5 ?_
  refine lv_lsub hx hb dX10_spelt_8 (lv_topl (fun w_6 e_w_6 => ?_))
  have r_w_6 := tq_lsub (lo := 18) (hi := 18) r_w_5 rk_96 (by decide +kernel) e_w_6
  have q_w_6 : w_5 - (96 : Int64) = w_6 := e_w_6.symm
  refine lv_lmul hx hb dX10_spelt_9 (lv_topl (fun w_7 e_w_7 => ?_))
  have r_w_7 := tq_lmul (lo := 486) (hi := 486) rk_27 r_w_6 (by decide +kernel) e_w_7
  have q_w_7 : (27 : Int64) * w_6 = w_7 := e_w_7.symm
  refine lv_iload_n hx hb dX10_spelt_10 rfl (lv_at hl 1 rfl) ?_
  obtain ⟨w_8, e_w_8⟩ : ∃ q9 : Int64, (p1 : Int32).toInt64 = q9 := ⟨_, rfl⟩
  refine lv_i2l (v := w_8) hx hb dX10_spelt_11 e_w_8 ?_
  have r_w_8 := tq_i2l r_p1 e_w_8
  have q_w_8 : Int32.toInt64 p1 = w_8 := e_w_8
  refine lv_ladd hx hb dX10_spelt_12 (lv_topl (fun w_9 e_w_9 => ?_))
  have r_w_9 := tq_ladd (lo := 597) (hi := 597) r_w_7 r_w_8 (by decide +kernel) e_w_9
  have q_w_9 : w_7 + w_8 = w_9 := e_w_9.symm
  refine lv_ldc2 (v := 96) hx hb hown (hts _ tw_1313) dX10_spelt_13 ?_
  refine lv_lsub hx hb dX10_spelt_16 (lv_topl (fun w_10 e_w_10 => ?_))
  have r_w_10 := tq_lsub (lo := 501) (hi := 501) r_w_9 rk_96 (by decide +kernel) e_w_10
  have q_w_10 : w_9 - (96 : Int64) = w_10 := e_w_10.symm
  refine lv_lstore (lv' := [(7, .long w_10), (0, .int p0), (1, .int p1), (2, .int p2), (3, .int p3), (4, .int p4), (5, .int p5), (6, .int p6)]) hx hb dX10_spelt_17 hl (by decide) rfl (fun ls hl => ?_)
  refine lv_iload_n hx hb dX10_spelt_19 rfl (lv_at hl 3 rfl) ?_
  refine lv_if_le (tgt := 38) hx hb dX10_spelt_20 (by decide) (fun c_20 => ?_) (fun c_20 => ?_)
  · have r_p2 : RI p2 111 0 := rc_le1 r_p2 rl_0 (ti_le c_20) (by decide)
    exact (r_p2.no (by decide)).elim
  · refine lv_ldc2 (v := 27) hx hb hown (hts _ tw_1312) dX10_spelt_23 ?_
    refine lv_lload hx hb dX10_spelt_26 (lv_at hl 0 rfl) ?_
    refine lv_lmul hx hb dX10_spelt_28 (lv_topl (fun w_11 e_w_11 => ?_))
    have r_w_11 := tq_lmul (lo := 13527) (hi := 13527) rk_27 r_w_10 (by decide +kernel) e_w_11
    have q_w_11 : (27 : Int64) * w_10 = w_11 := e_w_11.symm
    refine lv_iload_n hx hb dX10_spelt_29 rfl (lv_at hl 3 rfl) ?_
    obtain ⟨w_12, e_w_12⟩ : ∃ q9 : Int64, (p2 : Int32).toInt64 = q9 := ⟨_, rfl⟩
    refine lv_i2l (v := w_12) hx hb dX10_spelt_30 e_w_12 ?_
    have r_w_12 := tq_i2l r_p2 e_w_12
    have q_w_12 : Int32.toInt64 p2 = w_12 := e_w_12
    refine lv_ladd hx hb dX10_spelt_31 (lv_topl (fun w_13 e_w_13 => ?_))
    have r_w_13 := tq_ladd (lo := 13638) (hi := 13638) r_w_11 r_w_12 (by decide +kernel) e_w_13
    have q_w_13 : w_11 + w_12 = w_13 := e_w_13.symm
    refine lv_ldc2 (v := 96) hx hb hown (hts _ tw_1313) dX10_spelt_32 ?_
    refine lv_lsub hx hb dX10_spelt_35 (lv_topl (fun w_14 e_w_14 => ?_))
    have r_w_14 := tq_lsub (lo := 13542) (hi := 13542) r_w_13 rk_96 (by decide +kernel) e_w_14
    have q_w_14 : w_13 - (96 : Int64) = w_14 := e_w_14.symm
    refine lv_lstore (lv' := [(7, .long w_14), (0, .int p0), (1, .int p1), (2, .int p2), (3, .int p3), (4, .int p4), (5, .int p5), (6, .int p6)]) hx hb dX10_spelt_36 hl (by decide) rfl (fun ls hl => ?_)
    simp only [f_X10_spelt__31, ↓reduceIte, q_w_5, q_w_6, q_w_7, q_w_8, q_w_9, q_w_10, eq_false c_20, q_w_11, q_w_12, q_w_13, q_w_14] at hE
    exact B38 w_14 _ _ ls r_p0 r_p1 r_p2 r_p3 r_p4 r_p5 r_p6 r_w_14 hE hw (lv_sub hl [1, 2, 3, 4, 5, 6, 7, 0] rfl)
abbrev wr_X10_spelt__33 : List (Nat × Nat) := []
abbrev wa_X10_spelt__33 : List Nat := []
set_option maxHeartbeats 4000000 in
set_option maxRecDepth 100000 in
theorem c_X10_spelt__33 (l : Launch) (D : va_G) (cy : Nat → ClassId) (z : Nat → Nat) (sz : Nat) (Ps : PSI) (w0 : va_W) (hT : HT cy GG Ps w0) (p0 : Int32) (p1 : Int32) (p2 : Int32) (p3 : Int32) (p4 : Int32) (p5 : Int32) (p6 : Int32) (r_p0 : RI p0 112 112) (r_p1 : RI p1 97 97) (r_p2 : RI p2 114 114) (r_p3 : RI p3 99 99) (r_p4 : RI p4 101 101) (r_p5 : RI p5 108 108) (r_p6 : RI p6 0 0) : Met l yX10_spelt (Cond.code yX10_spelt cX10_spelt 9 (some .long) :: gT) ({ frames := 0, cells := 0, slots := 0, locals := 200 } : Room) (va_Pc [.int p0, .int p1, .int p2, .int p3, .int p4, .int p5, .int p6] (PRE D cy z w0 sz)) (va_Ql (fun (r : Int64) (u : Unit) => ((f_X10_spelt__30 p0 p1 p2 p3 p4 p5 p6) = r ∧ True) ∧ (RJ r 230470581 230470581)) (BB D cy (va_A w0 sz) (fun (u : Unit) => w0)) (va_A w0 sz)) 0 0 (va_A w0 sz) := by
  refine Met.ofW (cc := cX10_spelt) (maxL := 9) (ret := (some .long)) (by decide) rfl ?_
  intro p e s m args below meth c s₁ B hml hv
  obtain ⟨rfl, hsz, hP, hK, hD0, hSD⟩ := hv
  have hx := B.exec
  have hb := B.bytes
  have hr := B.returns
  have hlocks := B.notSynchronized
  have hts : ∀ w ∈ gT, w.before _ s = true := fun w h => atoms_spec (ws := Cond.code yX10_spelt cX10_spelt 9 (some .long) :: gT) B.pre w (List.mem_cons_of_mem _ h)
  have hown : s.vm.findClass RX10 = some m.cls := findClass_of_methodNamed B.named
  subst hsz
  have hD := hD0.self (sz := s.heap.size)
  generalize hAe : va_A w0 s.heap.size = A at hD hSD ⊢
  have hA : ∀ q : Nat, s.heap.size ≤ q → A q := fun q h => by rw [← hAe]; exact Or.inr h
  have hl := lv_entry ([.int p0, .int p1, .int p2, .int p3, .int p4, .int p5, .int p6]) (n := 9) (Nat.le_of_ble_eq_true rfl)
  rw [lg_entry_eq]
  generalize (lg_sl ([.int p0, .int p1, .int p2, .int p3, .int p4, .int p5, .int p6]) ++ List.replicate (9 - (lg_sl ([.int p0, .int p1, .int p2, .int p3, .int p4, .int p5, .int p6])).length) Slot.unset).toArray = ls at hl ⊢
  have hl : lv_has ls 9 [(0, .int p0), (1, .int p1), (2, .int p2), (3, .int p3), (4, .int p4), (5, .int p5), (6, .int p6)] := hl
  refine nameQ (fun Q hQ => ?_)
  have hw : WD D cy GG A s wr_X10_spelt__33 wa_X10_spelt__33 Ps w0 Ps w0 s.heap [] := ⟨hT, hP, hD, va_S.rf, FR.rf, hT.1, [], (List.append_nil _).symm⟩
  obtain ⟨R9, hR⟩ : ∃ q9 : Int64, f_X10_spelt__30 p0 p1 p2 p3 p4 p5 p6 = q9 := ⟨_, rfl⟩
  have hE := hR
  have B99 : ∀ (x7 : Int64) (H : Heap) (locs : List Loc) (ls : Array Slot), RI p0 112 112 → RI p1 97 97 → RI p2 114 114 → RI p3 99 99 → RI p4 101 101 → RI p5 108 108 → RI p6 0 0 → RJ x7 230470581 230470581 → f_X10_spelt__30_99 p0 p1 p2 p3 p4 p5 p6 x7 = R9 → WD D cy GG A s wr_X10_spelt__33 wa_X10_spelt__33 Ps w0 Ps w0 H locs → lv_has ls 9 [(0, .int p0), (1, .int p1), (2, .int p2), (3, .int p3), (4, .int p4), (5, .int p5), (6, .int p6), (7, .long x7)] → W p l e (headSpec (Cond.code yX10_spelt cX10_spelt 9 (some .long) :: gT) ({ frames := 0, cells := 0, slots := 0, locals := 200 } : Room)).room s m ([.int p0, .int p1, .int p2, .int p3, .int p4, .int p5, .int p6] : List Value).toArray below meth c H locs 0 0 Q (F0 m 99 ls []) := by
    intro x7 H locs ls r_p0 r_p1 r_p2 r_p3 r_p4 r_p5 r_p6 r_x7 hE hw hl
    refine lv_iload hx hb dX10_spelt_99 (lv_at hl 6 rfl) ?_
    refine lv_if_le (tgt := 120) hx hb dX10_spelt_101 (by decide) (fun c_101 => ?_) (fun c_101 => ?_)
    · refine lv_lload hx hb dX10_spelt_120 (lv_at hl 7 rfl) ?_
      simp only [f_X10_spelt__30_99, ↓reduceIte, eq_true c_101] at hE
      subst hQ
      exact W.lret (v := x7) hx hb hr (fun t ht hW => ⟨⟨x7, (), rfl, ⟨⟨(by rw [hR, ← hE]), trivial⟩, r_x7.to (by decide)⟩, by rw [ht]; exact hw.2.1, va_K.moved hW.alike hK, hw.2.2.1⟩, hw.2.2.2.1.F ht⟩) hw.2.2.2.1.2.2 dX10_spelt_122
    · have r_p6 : RI p6 1 0 := rc_lt2 rl_0 r_p6 (ti_nle c_101) (by decide)
      exact (r_p6.no (by decide)).elim
  have B78 : ∀ (x7 : Int64) (H : Heap) (locs : List Loc) (ls : Array Slot), RI p0 112 112 → RI p1 97 97 → RI p2 114 114 → RI p3 99 99 → RI p4 101 101 → RI p5 108 108 → RI p6 0 0 → RJ x7 8535947 8535947 → f_X10_spelt__30_78 p0 p1 p2 p3 p4 p5 p6 x7 = R9 → WD D cy GG A s wr_X10_spelt__33 wa_X10_spelt__33 Ps w0 Ps w0 H locs → lv_has ls 9 [(0, .int p0), (1, .int p1), (2, .int p2), (3, .int p3), (4, .int p4), (5, .int p5), (6, .int p6), (7, .long x7)] → W p l e (headSpec (Cond.code yX10_spelt cX10_spelt 9 (some .long) :: gT) ({ frames := 0, cells := 0, slots := 0, locals := 200 } : Room)).room s m ([.int p0, .int p1, .int p2, .int p3, .int p4, .int p5, .int p6] : List Value).toArray below meth c H locs 0 0 Q (F0 m 78 ls []) := by
    intro x7 H locs ls r_p0 r_p1 r_p2 r_p3 r_p4 r_p5 r_p6 r_x7 hE hw hl
    refine lv_iload hx hb dX10_spelt_78 (lv_at hl 5 rfl) ?_
    refine lv_if_le (tgt := 99) hx hb dX10_spelt_80 (by decide) (fun c_80 => ?_) (fun c_80 => ?_)
    · have r_p5 : RI p5 108 0 := rc_le1 r_p5 rl_0 (ti_le c_80) (by decide)
      exact (r_p5.no (by decide)).elim
    · refine lv_ldc2 (v := 27) hx hb hown (hts _ tw_1312) dX10_spelt_83 ?_
      refine lv_lload hx hb dX10_spelt_86 (lv_at hl 7 rfl) ?_
      refine lv_lmul hx hb dX10_spelt_88 (lv_topl (fun w_1 e_w_1 => ?_))
      have r_w_1 := tq_lmul (lo := 230470569) (hi := 230470569) rk_27 r_x7 (by decide +kernel) e_w_1
      have q_w_1 : (27 : Int64) * x7 = w_1 := e_w_1.symm
      refine lv_iload hx hb dX10_spelt_89 (lv_at hl 5 rfl) ?_
      obtain ⟨w_2, e_w_2⟩ : ∃ q9 : Int64, (p5 : Int32).toInt64 = q9 := ⟨_, rfl⟩
      refine lv_i2l (v := w_2) hx hb dX10_spelt_91 e_w_2 ?_
      have r_w_2 := tq_i2l r_p5 e_w_2
      have q_w_2 : Int32.toInt64 p5 = w_2 := e_w_2
      refine lv_ladd hx hb dX10_spelt_92 (lv_topl (fun w_3 e_w_3 => ?_))
      have r_w_3 := tq_ladd (lo := 230470677) (hi := 230470677) r_w_1 r_w_2 (by decide +kernel) e_w_3
      have q_w_3 : w_1 + w_2 = w_3 := e_w_3.symm
      refine lv_ldc2 (v := 96) hx hb hown (hts _ tw_1313) dX10_spelt_93 ?_
      refine lv_lsub hx hb dX10_spelt_96 (lv_topl (fun w_4 e_w_4 => ?_))
      have r_w_4 := tq_lsub (lo := 230470581) (hi := 230470581) r_w_3 rk_96 (by decide +kernel) e_w_4
      have q_w_4 : w_3 - (96 : Int64) = w_4 := e_w_4.symm
      refine lv_lstore (lv' := [(7, .long w_4), (0, .int p0), (1, .int p1), (2, .int p2), (3, .int p3), (4, .int p4), (5, .int p5), (6, .int p6)]) hx hb dX10_spelt_97 hl (by decide) rfl (fun ls hl => ?_)
      simp only [f_X10_spelt__30_78, ↓reduceIte, eq_false c_80, q_w_1, q_w_2, q_w_3, q_w_4] at hE
      exact B99 w_4 _ _ ls r_p0 r_p1 r_p2 r_p3 r_p4 r_p5 r_p6 r_w_4 hE hw (lv_sub hl [1, 2, 3, 4, 5, 6, 7, 0] rfl)
  have B57 : ∀ (x7 : Int64) (H : Heap) (locs : List Loc) (ls : Array Slot), RI p0 112 112 → RI p1 97 97 → RI p2 114 114 → RI p3 99 99 → RI p4 101 101 → RI p5 108 108 → RI p6 0 0 → RJ x7 316146 316146 → f_X10_spelt__30_57 p0 p1 p2 p3 p4 p5 p6 x7 = R9 → WD D cy GG A s wr_X10_spelt__33 wa_X10_spelt__33 Ps w0 Ps w0 H locs → lv_has ls 9 [(0, .int p0), (1, .int p1), (2, .int p2), (3, .int p3), (4, .int p4), (5, .int p5), (6, .int p6), (7, .long x7)] → W p l e (headSpec (Cond.code yX10_spelt cX10_spelt 9 (some .long) :: gT) ({ frames := 0, cells := 0, slots := 0, locals := 200 } : Room)).room s m ([.int p0, .int p1, .int p2, .int p3, .int p4, .int p5, .int p6] : List Value).toArray below meth c H locs 0 0 Q (F0 m 57 ls []) := by
    intro x7 H locs ls r_p0 r_p1 r_p2 r_p3 r_p4 r_p5 r_p6 r_x7 hE hw hl
    refine lv_iload hx hb dX10_spelt_57 (lv_at hl 4 rfl) ?_
    refine lv_if_le (tgt := 78) hx hb dX10_spelt_59 (by decide) (fun c_59 => ?_) (fun c_59 => ?_)
    · have r_p4 : RI p4 101 0 := rc_le1 r_p4 rl_0 (ti_le c_59) (by decide)
      exact (r_p4.no (by decide)).elim
    · refine lv_ldc2 (v := 27) hx hb hown (hts _ tw_1312) dX10_spelt_62 ?_
      refine lv_lload hx hb dX10_spelt_65 (lv_at hl 7 rfl) ?_
      refine lv_lmul hx hb dX10_spelt_67 (lv_topl (fun w_5 e_w_5 => ?_))
      have r_w_5 := tq_lmul (lo := 8535942) (hi := 8535942) rk_27 r_x7 (by decide +kernel) e_w_5
      have q_w_5 : (27 : Int64) * x7 = w_5 := e_w_5.symm
      refine lv_iload hx hb dX10_spelt_68 (lv_at hl 4 rfl) ?_
      obtain ⟨w_6, e_w_6⟩ : ∃ q9 : Int64, (p4 : Int32).toInt64 = q9 := ⟨_, rfl⟩
      refine lv_i2l (v := w_6) hx hb dX10_spelt_70 e_w_6 ?_
      have r_w_6 := tq_i2l r_p4 e_w_6
      have q_w_6 : Int32.toInt64 p4 = w_6 := e_w_6
      refine lv_ladd hx hb dX10_spelt_71 (lv_topl (fun w_7 e_w_7 => ?_))
      have r_w_7 := tq_ladd (lo := 8536043) (hi := 8536043) r_w_5 r_w_6 (by decide +kernel) e_w_7
      have q_w_7 : w_5 + w_6 = w_7 := e_w_7.symm
      refine lv_ldc2 (v := 96) hx hb hown (hts _ tw_1313) dX10_spelt_72 ?_
      refine lv_lsub hx hb dX10_spelt_75 (lv_topl (fun w_8 e_w_8 => ?_))
      have r_w_8 := tq_lsub (lo := 8535947) (hi := 8535947) r_w_7 rk_96 (by decide +kernel) e_w_8
      have q_w_8 : w_7 - (96 : Int64) = w_8 := e_w_8.symm
      refine lv_lstore (lv' := [(7, .long w_8), (0, .int p0), (1, .int p1), (2, .int p2), (3, .int p3), (4, .int p4), (5, .int p5), (6, .int p6)]) hx hb dX10_spelt_76 hl (by decide) rfl (fun ls hl => ?_)
      simp only [f_X10_spelt__30_57, ↓reduceIte, eq_false c_59, q_w_5, q_w_6, q_w_7, q_w_8] at hE
      exact B78 w_8 _ _ ls r_p0 r_p1 r_p2 r_p3 r_p4 r_p5 r_p6 r_w_8 hE hw (lv_sub hl [1, 2, 3, 4, 5, 6, 7, 0] rfl)
  have B38 : ∀ (x7 : Int64) (H : Heap) (locs : List Loc) (ls : Array Slot), RI p0 112 112 → RI p1 97 97 → RI p2 114 114 → RI p3 99 99 → RI p4 101 101 → RI p5 108 108 → RI p6 0 0 → RJ x7 11709 11709 → f_X10_spelt__30_38 p0 p1 p2 p3 p4 p5 p6 x7 = R9 → WD D cy GG A s wr_X10_spelt__33 wa_X10_spelt__33 Ps w0 Ps w0 H locs → lv_has ls 9 [(0, .int p0), (1, .int p1), (2, .int p2), (3, .int p3), (4, .int p4), (5, .int p5), (6, .int p6), (7, .long x7)] → W p l e (headSpec (Cond.code yX10_spelt cX10_spelt 9 (some .long) :: gT) ({ frames := 0, cells := 0, slots := 0, locals := 200 } : Room)).room s m ([.int p0, .int p1, .int p2, .int p3, .int p4, .int p5, .int p6] : List Value).toArray below meth c H locs 0 0 Q (F0 m 38 ls []) := by
    intro x7 H locs ls r_p0 r_p1 r_p2 r_p3 r_p4 r_p5 r_p6 r_x7 hE hw hl
    refine lv_iload_n hx hb dX10_spelt_38 rfl (lv_at hl 3 rfl) ?_
    refine lv_if_le (tgt := 57) hx hb dX10_spelt_39 (by decide) (fun c_39 => ?_) (fun c_39 => ?_)
    · have r_p3 : RI p3 99 0 := rc_le1 r_p3 rl_0 (ti_le c_39) (by decide)
      exact (r_p3.no (by decide)).elim
    · refine lv_ldc2 (v := 27) hx hb hown (hts _ tw_1312) dX10_spelt_42 ?_
      refine lv_lload hx hb dX10_spelt_45 (lv_at hl 7 rfl) ?_
      refine lv_lmul hx hb dX10_spelt_47 (lv_topl (fun w_9 e_w_9 => ?_))
      have r_w_9 := tq_lmul (lo := 316143) (hi := 316143) rk_27 r_x7 (by decide +kernel) e_w_9
      have q_w_9 : (27 : Int64) * x7 = w_9 := e_w_9.symm
      refine lv_iload_n hx hb dX10_spelt_48 rfl (lv_at hl 3 rfl) ?_
      obtain ⟨w_10, e_w_10⟩ : ∃ q9 : Int64, (p3 : Int32).toInt64 = q9 := ⟨_, rfl⟩
      refine lv_i2l (v := w_10) hx hb dX10_spelt_49 e_w_10 ?_
      have r_w_10 := tq_i2l r_p3 e_w_10
      have q_w_10 : Int32.toInt64 p3 = w_10 := e_w_10
      refine lv_ladd hx hb dX10_spelt_50 (lv_topl (fun w_11 e_w_11 => ?_))
      have r_w_11 := tq_ladd (lo := 316242) (hi := 316242) r_w_9 r_w_10 (by decide +kernel) e_w_11
      have q_w_11 : w_9 + w_10 = w_11 := e_w_11.symm
      refine lv_ldc2 (v := 96) hx hb hown (hts _ tw_1313) dX10_spelt_51 ?_
      refine lv_lsub hx hb dX10_spelt_54 (lv_topl (fun w_12 e_w_12 => ?_))
      have r_w_12 := tq_lsub (lo := 316146) (hi := 316146) r_w_11 rk_96 (by decide +kernel) e_w_12
      have q_w_12 : w_11 - (96 : Int64) = w_12 := e_w_12.symm
      refine lv_lstore (lv' := [(7, .long w_12), (0, .int p0), (1, .int p1), (2, .int p2), (3, .int p3), (4, .int p4), (5, .int p5), (6, .int p6)]) hx hb dX10_spelt_55 hl (by decide) rfl (fun ls hl => ?_)
      simp only [f_X10_spelt__30_38, ↓reduceIte, eq_false c_39, q_w_9, q_w_10, q_w_11, q_w_12] at hE
      exact B57 w_12 _ _ ls r_p0 r_p1 r_p2 r_p3 r_p4 r_p5 r_p6 r_w_12 hE hw (lv_sub hl [1, 2, 3, 4, 5, 6, 7, 0] rfl)
  refine lv_ldc2 (v := 27) hx hb hown (hts _ tw_1312) dX10_spelt_0 ?_
  refine lv_iload_n hx hb dX10_spelt_3 rfl (lv_at hl 0 rfl) ?_
  obtain ⟨w_13, e_w_13⟩ : ∃ q9 : Int64, (p0 : Int32).toInt64 = q9 := ⟨_, rfl⟩
  refine lv_i2l (v := w_13) hx hb dX10_spelt_4 e_w_13 ?_
  have r_w_13 := tq_i2l r_p0 e_w_13
  have q_w_13 : Int32.toInt64 p0 = w_13 := e_w_13
  refine lv_ldc2 (v := 96) hx hb hown (hts _ tw_1313) dX10_spelt_5 ?_
  refine lv_lsub hx hb dX10_spelt_8 (lv_topl (fun w_14 e_w_14 => ?_))
  have r_w_14 := tq_lsub (lo := 16) (hi := 16) r_w_13 rk_96 (by decide +kernel) e_w_14
  have q_w_14 : w_13 - (96 : Int64) = w_14 := e_w_14.symm
  refine lv_lmul hx hb dX10_spelt_9 (lv_topl (fun w_15 e_w_15 => ?_))
  have r_w_15 := tq_lmul (lo := 432) (hi := 432) rk_27 r_w_14 (by decide +kernel) e_w_15
  have q_w_15 : (27 : Int64) * w_14 = w_15 := e_w_15.symm
  refine lv_iload_n hx hb dX10_spelt_10 rfl (lv_at hl 1 rfl) ?_
  obtain ⟨w_16, e_w_16⟩ : ∃ q9 : Int64, (p1 : Int32).toInt64 = q9 := ⟨_, rfl⟩
  refine lv_i2l (v := w_16) hx hb dX10_spelt_11 e_w_16 ?_
  have r_w_16 := tq_i2l r_p1 e_w_16
  have q_w_16 : Int32.toInt64 p1 = w_16 := e_w_16
  refine lv_ladd hx hb dX10_spelt_12 (lv_topl (fun w_17 e_w_17 => ?_))
  have r_w_17 := tq_ladd (lo := 529) (hi := 529) r_w_15 r_w_16 (by decide +kernel) e_w_17
  have q_w_17 : w_15 + w_16 = w_17 := e_w_17.symm
  refine lv_ldc2 (v := 96) hx hb hown (hts _ tw_1313) dX10_spelt_13 ?_
  refine lv_lsub hx hb dX10_spelt_16 (lv_topl (fun w_18 e_w_18 => ?_))
  have r_w_18 := tq_lsub (lo := 433) (hi := 433) r_w_17 rk_96 (by decide +kernel) e_w_18
  have q_w_18 : w_17 - (96 : Int64) = w_18 := e_w_18.symm
  refine lv_lstore (lv' := [(7, .long w_18), (0, .int p0), (1, .int p1), (2, .int p2), (3, .int p3), (4, .int p4), (5, .int p5), (6, .int p6)]) hx hb dX10_spelt_17 hl (by decide) rfl (fun ls hl => ?_)
  refine lv_iload_n hx hb dX10_spelt_19 rfl (lv_at hl 3 rfl) ?_
  refine lv_if_le (tgt := 38) hx hb dX10_spelt_20 (by decide) (fun c_20 => ?_) (fun c_20 => ?_)
  · have r_p2 : RI p2 114 0 := rc_le1 r_p2 rl_0 (ti_le c_20) (by decide)
    exact (r_p2.no (by decide)).elim
  · refine lv_ldc2 (v := 27) hx hb hown (hts _ tw_1312) dX10_spelt_23 ?_
    refine lv_lload hx hb dX10_spelt_26 (lv_at hl 0 rfl) ?_
    refine lv_lmul hx hb dX10_spelt_28 (lv_topl (fun w_19 e_w_19 => ?_))
    have r_w_19 := tq_lmul (lo := 11691) (hi := 11691) rk_27 r_w_18 (by decide +kernel) e_w_19
    have q_w_19 : (27 : Int64) * w_18 = w_19 := e_w_19.symm
    refine lv_iload_n hx hb dX10_spelt_29 rfl (lv_at hl 3 rfl) ?_
    obtain ⟨w_20, e_w_20⟩ : ∃ q9 : Int64, (p2 : Int32).toInt64 = q9 := ⟨_, rfl⟩
    refine lv_i2l (v := w_20) hx hb dX10_spelt_30 e_w_20 ?_
    have r_w_20 := tq_i2l r_p2 e_w_20
    have q_w_20 : Int32.toInt64 p2 = w_20 := e_w_20
    refine lv_ladd hx hb dX10_spelt_31 (lv_topl (fun w_21 e_w_21 => ?_))
    have r_w_21 := tq_ladd (lo := 11805) (hi := 11805) r_w_19 r_w_20 (by decide +kernel) e_w_21
    have q_w_21 : w_19 + w_20 = w_21 := e_w_21.symm
    refine lv_ldc2 (v := 96) hx hb hown (hts _ tw_1313) dX10_spelt_32 ?_
    refine lv_lsub hx hb dX10_spelt_35 (lv_topl (fun w_22 e_w_22 => ?_))
    have r_w_22 := tq_lsub (lo := 11709) (hi := 11709) r_w_21 rk_96 (by decide +kernel) e_w_22
    have q_w_22 : w_21 - (96 : Int64) = w_22 := e_w_22.symm
    refine lv_lstore (lv' := [(7, .long w_22), (0, .int p0), (1, .int p1), (2, .int p2), (3, .int p3), (4, .int p4), (5, .int p5), (6, .int p6)]) hx hb dX10_spelt_36 hl (by decide) rfl (fun ls hl => ?_)
    simp only [f_X10_spelt__30, ↓reduceIte, q_w_13, q_w_14, q_w_15, q_w_16, q_w_17, q_w_18, eq_false c_20, q_w_19, q_w_20, q_w_21, q_w_22] at hE
    exact B38 w_22 _ _ ls r_p0 r_p1 r_p2 r_p3 r_p4 r_p5 r_p6 r_w_22 hE hw (lv_sub hl [1, 2, 3, 4, 5, 6, 7, 0] rfl)
abbrev wr_X10_spelt__34 : List (Nat × Nat) := []
abbrev wa_X10_spelt__34 : List Nat := []
set_option maxHeartbeats 4000000 in
set_option maxRecDepth 100000 in
theorem c_X10_spelt__34 (l : Launch) (D : va_G) (cy : Nat → ClassId) (z : Nat → Nat) (sz : Nat) (Ps : PSI) (w0 : va_W) (hT : HT cy GG Ps w0) (p0 : Int32) (p1 : Int32) (p2 : Int32) (p3 : Int32) (p4 : Int32) (p5 : Int32) (p6 : Int32) (r_p0 : RI p0 112 112) (r_p1 : RI p1 101 101) (r_p2 : RI p2 114 114) (r_p3 : RI p3 115 115) (r_p4 : RI p4 111 111) (r_p5 : RI p5 110 110) (r_p6 : RI p6 0 0) : Met l yX10_spelt (Cond.code yX10_spelt cX10_spelt 9 (some .long) :: gT) ({ frames := 0, cells := 0, slots := 0, locals := 200 } : Room) (va_Pc [.int p0, .int p1, .int p2, .int p3, .int p4, .int p5, .int p6] (PRE D cy z w0 sz)) (va_Ql (fun (r : Int64) (u : Unit) => ((f_X10_spelt__30 p0 p1 p2 p3 p4 p5 p6) = r ∧ True) ∧ (RJ r 232608281 232608281)) (BB D cy (va_A w0 sz) (fun (u : Unit) => w0)) (va_A w0 sz)) 0 0 (va_A w0 sz) := by
  refine Met.ofW (cc := cX10_spelt) (maxL := 9) (ret := (some .long)) (by decide) rfl ?_
  intro p e s m args below meth c s₁ B hml hv
  obtain ⟨rfl, hsz, hP, hK, hD0, hSD⟩ := hv
  have hx := B.exec
  have hb := B.bytes
  have hr := B.returns
  have hlocks := B.notSynchronized
  have hts : ∀ w ∈ gT, w.before _ s = true := fun w h => atoms_spec (ws := Cond.code yX10_spelt cX10_spelt 9 (some .long) :: gT) B.pre w (List.mem_cons_of_mem _ h)
  have hown : s.vm.findClass RX10 = some m.cls := findClass_of_methodNamed B.named
  subst hsz
  have hD := hD0.self (sz := s.heap.size)
  generalize hAe : va_A w0 s.heap.size = A at hD hSD ⊢
  have hA : ∀ q : Nat, s.heap.size ≤ q → A q := fun q h => by rw [← hAe]; exact Or.inr h
  have hl := lv_entry ([.int p0, .int p1, .int p2, .int p3, .int p4, .int p5, .int p6]) (n := 9) (Nat.le_of_ble_eq_true rfl)
  rw [lg_entry_eq]
  generalize (lg_sl ([.int p0, .int p1, .int p2, .int p3, .int p4, .int p5, .int p6]) ++ List.replicate (9 - (lg_sl ([.int p0, .int p1, .int p2, .int p3, .int p4, .int p5, .int p6])).length) Slot.unset).toArray = ls at hl ⊢
  have hl : lv_has ls 9 [(0, .int p0), (1, .int p1), (2, .int p2), (3, .int p3), (4, .int p4), (5, .int p5), (6, .int p6)] := hl
  refine nameQ (fun Q hQ => ?_)
  have hw : WD D cy GG A s wr_X10_spelt__34 wa_X10_spelt__34 Ps w0 Ps w0 s.heap [] := ⟨hT, hP, hD, va_S.rf, FR.rf, hT.1, [], (List.append_nil _).symm⟩
  obtain ⟨R9, hR⟩ : ∃ q9 : Int64, f_X10_spelt__30 p0 p1 p2 p3 p4 p5 p6 = q9 := ⟨_, rfl⟩
  have hE := hR
  have B99 : ∀ (x7 : Int64) (H : Heap) (locs : List Loc) (ls : Array Slot), RI p0 112 112 → RI p1 101 101 → RI p2 114 114 → RI p3 115 115 → RI p4 111 111 → RI p5 110 110 → RI p6 0 0 → RJ x7 232608281 232608281 → f_X10_spelt__30_99 p0 p1 p2 p3 p4 p5 p6 x7 = R9 → WD D cy GG A s wr_X10_spelt__34 wa_X10_spelt__34 Ps w0 Ps w0 H locs → lv_has ls 9 [(0, .int p0), (1, .int p1), (2, .int p2), (3, .int p3), (4, .int p4), (5, .int p5), (6, .int p6), (7, .long x7)] → W p l e (headSpec (Cond.code yX10_spelt cX10_spelt 9 (some .long) :: gT) ({ frames := 0, cells := 0, slots := 0, locals := 200 } : Room)).room s m ([.int p0, .int p1, .int p2, .int p3, .int p4, .int p5, .int p6] : List Value).toArray below meth c H locs 0 0 Q (F0 m 99 ls []) := by
    intro x7 H locs ls r_p0 r_p1 r_p2 r_p3 r_p4 r_p5 r_p6 r_x7 hE hw hl
    refine lv_iload hx hb dX10_spelt_99 (lv_at hl 6 rfl) ?_
    refine lv_if_le (tgt := 120) hx hb dX10_spelt_101 (by decide) (fun c_101 => ?_) (fun c_101 => ?_)
    · refine lv_lload hx hb dX10_spelt_120 (lv_at hl 7 rfl) ?_
      simp only [f_X10_spelt__30_99, ↓reduceIte, eq_true c_101] at hE
      subst hQ
      exact W.lret (v := x7) hx hb hr (fun t ht hW => ⟨⟨x7, (), rfl, ⟨⟨(by rw [hR, ← hE]), trivial⟩, r_x7.to (by decide)⟩, by rw [ht]; exact hw.2.1, va_K.moved hW.alike hK, hw.2.2.1⟩, hw.2.2.2.1.F ht⟩) hw.2.2.2.1.2.2 dX10_spelt_122
    · have r_p6 : RI p6 1 0 := rc_lt2 rl_0 r_p6 (ti_nle c_101) (by decide)
      exact (r_p6.no (by decide)).elim
  have B78 : ∀ (x7 : Int64) (H : Heap) (locs : List Loc) (ls : Array Slot), RI p0 112 112 → RI p1 101 101 → RI p2 114 114 → RI p3 115 115 → RI p4 111 111 → RI p5 110 110 → RI p6 0 0 → RJ x7 8615121 8615121 → f_X10_spelt__30_78 p0 p1 p2 p3 p4 p5 p6 x7 = R9 → WD D cy GG A s wr_X10_spelt__34 wa_X10_spelt__34 Ps w0 Ps w0 H locs → lv_has ls 9 [(0, .int p0), (1, .int p1), (2, .int p2), (3, .int p3), (4, .int p4), (5, .int p5), (6, .int p6), (7, .long x7)] → W p l e (headSpec (Cond.code yX10_spelt cX10_spelt 9 (some .long) :: gT) ({ frames := 0, cells := 0, slots := 0, locals := 200 } : Room)).room s m ([.int p0, .int p1, .int p2, .int p3, .int p4, .int p5, .int p6] : List Value).toArray below meth c H locs 0 0 Q (F0 m 78 ls []) := by
    intro x7 H locs ls r_p0 r_p1 r_p2 r_p3 r_p4 r_p5 r_p6 r_x7 hE hw hl
    refine lv_iload hx hb dX10_spelt_78 (lv_at hl 5 rfl) ?_
    refine lv_if_le (tgt := 99) hx hb dX10_spelt_80 (by decide) (fun c_80 => ?_) (fun c_80 => ?_)
    · have r_p5 : RI p5 110 0 := rc_le1 r_p5 rl_0 (ti_le c_80) (by decide)
      exact (r_p5.no (by decide)).elim
    · refine lv_ldc2 (v := 27) hx hb hown (hts _ tw_1312) dX10_spelt_83 ?_
      refine lv_lload hx hb dX10_spelt_86 (lv_at hl 7 rfl) ?_
      refine lv_lmul hx hb dX10_spelt_88 (lv_topl (fun w_1 e_w_1 => ?_))
      have r_w_1 := tq_lmul (lo := 232608267) (hi := 232608267) rk_27 r_x7 (by decide +kernel) e_w_1
      have q_w_1 : (27 : Int64) * x7 = w_1 := e_w_1.symm
      refine lv_iload hx hb dX10_spelt_89 (lv_at hl 5 rfl) ?_
      obtain ⟨w_2, e_w_2⟩ : ∃ q9 : Int64, (p5 : Int32).toInt64 = q9 := ⟨_, rfl⟩
      refine lv_i2l (v := w_2) hx hb dX10_spelt_91 e_w_2 ?_
      have r_w_2 := tq_i2l r_p5 e_w_2
      have q_w_2 : Int32.toInt64 p5 = w_2 := e_w_2
      refine lv_ladd hx hb dX10_spelt_92 (lv_topl (fun w_3 e_w_3 => ?_))
      have r_w_3 := tq_ladd (lo := 232608377) (hi := 232608377) r_w_1 r_w_2 (by decide +kernel) e_w_3
      have q_w_3 : w_1 + w_2 = w_3 := e_w_3.symm
      refine lv_ldc2 (v := 96) hx hb hown (hts _ tw_1313) dX10_spelt_93 ?_
      refine lv_lsub hx hb dX10_spelt_96 (lv_topl (fun w_4 e_w_4 => ?_))
      have r_w_4 := tq_lsub (lo := 232608281) (hi := 232608281) r_w_3 rk_96 (by decide +kernel) e_w_4
      have q_w_4 : w_3 - (96 : Int64) = w_4 := e_w_4.symm
      refine lv_lstore (lv' := [(7, .long w_4), (0, .int p0), (1, .int p1), (2, .int p2), (3, .int p3), (4, .int p4), (5, .int p5), (6, .int p6)]) hx hb dX10_spelt_97 hl (by decide) rfl (fun ls hl => ?_)
      simp only [f_X10_spelt__30_78, ↓reduceIte, eq_false c_80, q_w_1, q_w_2, q_w_3, q_w_4] at hE
      exact B99 w_4 _ _ ls r_p0 r_p1 r_p2 r_p3 r_p4 r_p5 r_p6 r_w_4 hE hw (lv_sub hl [1, 2, 3, 4, 5, 6, 7, 0] rfl)
  have B57 : ∀ (x7 : Int64) (H : Heap) (locs : List Loc) (ls : Array Slot), RI p0 112 112 → RI p1 101 101 → RI p2 114 114 → RI p3 115 115 → RI p4 111 111 → RI p5 110 110 → RI p6 0 0 → RJ x7 319078 319078 → f_X10_spelt__30_57 p0 p1 p2 p3 p4 p5 p6 x7 = R9 → WD D cy GG A s wr_X10_spelt__34 wa_X10_spelt__34 Ps w0 Ps w0 H locs → lv_has ls 9 [(0, .int p0), (1, .int p1), (2, .int p2), (3, .int p3), (4, .int p4), (5, .int p5), (6, .int p6), (7, .long x7)] → W p l e (headSpec (Cond.code yX10_spelt cX10_spelt 9 (some .long) :: gT) ({ frames := 0, cells := 0, slots := 0, locals := 200 } : Room)).room s m ([.int p0, .int p1, .int p2, .int p3, .int p4, .int p5, .int p6] : List Value).toArray below meth c H locs 0 0 Q (F0 m 57 ls []) := by
    intro x7 H locs ls r_p0 r_p1 r_p2 r_p3 r_p4 r_p5 r_p6 r_x7 hE hw hl
    refine lv_iload hx hb dX10_spelt_57 (lv_at hl 4 rfl) ?_
    refine lv_if_le (tgt := 78) hx hb dX10_spelt_59 (by decide) (fun c_59 => ?_) (fun c_59 => ?_)
    · have r_p4 : RI p4 111 0 := rc_le1 r_p4 rl_0 (ti_le c_59) (by decide)
      exact (r_p4.no (by decide)).elim
    · refine lv_ldc2 (v := 27) hx hb hown (hts _ tw_1312) dX10_spelt_62 ?_
      refine lv_lload hx hb dX10_spelt_65 (lv_at hl 7 rfl) ?_
      refine lv_lmul hx hb dX10_spelt_67 (lv_topl (fun w_5 e_w_5 => ?_))
      have r_w_5 := tq_lmul (lo := 8615106) (hi := 8615106) rk_27 r_x7 (by decide +kernel) e_w_5
      have q_w_5 : (27 : Int64) * x7 = w_5 := e_w_5.symm
      refine lv_iload hx hb dX10_spelt_68 (lv_at hl 4 rfl) ?_
      obtain ⟨w_6, e_w_6⟩ : ∃ q9 : Int64, (p4 : Int32).toInt64 = q9 := ⟨_, rfl⟩
      refine lv_i2l (v := w_6) hx hb dX10_spelt_70 e_w_6 ?_
      have r_w_6 := tq_i2l r_p4 e_w_6
      have q_w_6 : Int32.toInt64 p4 = w_6 := e_w_6
      refine lv_ladd hx hb dX10_spelt_71 (lv_topl (fun w_7 e_w_7 => ?_))
      have r_w_7 := tq_ladd (lo := 8615217) (hi := 8615217) r_w_5 r_w_6 (by decide +kernel) e_w_7
      have q_w_7 : w_5 + w_6 = w_7 := e_w_7.symm
      refine lv_ldc2 (v := 96) hx hb hown (hts _ tw_1313) dX10_spelt_72 ?_
      refine lv_lsub hx hb dX10_spelt_75 (lv_topl (fun w_8 e_w_8 => ?_))
      have r_w_8 := tq_lsub (lo := 8615121) (hi := 8615121) r_w_7 rk_96 (by decide +kernel) e_w_8
      have q_w_8 : w_7 - (96 : Int64) = w_8 := e_w_8.symm
      refine lv_lstore (lv' := [(7, .long w_8), (0, .int p0), (1, .int p1), (2, .int p2), (3, .int p3), (4, .int p4), (5, .int p5), (6, .int p6)]) hx hb dX10_spelt_76 hl (by decide) rfl (fun ls hl => ?_)
      simp only [f_X10_spelt__30_57, ↓reduceIte, eq_false c_59, q_w_5, q_w_6, q_w_7, q_w_8] at hE
      exact B78 w_8 _ _ ls r_p0 r_p1 r_p2 r_p3 r_p4 r_p5 r_p6 r_w_8 hE hw (lv_sub hl [1, 2, 3, 4, 5, 6, 7, 0] rfl)
  have B38 : ∀ (x7 : Int64) (H : Heap) (locs : List Loc) (ls : Array Slot), RI p0 112 112 → RI p1 101 101 → RI p2 114 114 → RI p3 115 115 → RI p4 111 111 → RI p5 110 110 → RI p6 0 0 → RJ x7 11817 11817 → f_X10_spelt__30_38 p0 p1 p2 p3 p4 p5 p6 x7 = R9 → WD D cy GG A s wr_X10_spelt__34 wa_X10_spelt__34 Ps w0 Ps w0 H locs → lv_has ls 9 [(0, .int p0), (1, .int p1), (2, .int p2), (3, .int p3), (4, .int p4), (5, .int p5), (6, .int p6), (7, .long x7)] → W p l e (headSpec (Cond.code yX10_spelt cX10_spelt 9 (some .long) :: gT) ({ frames := 0, cells := 0, slots := 0, locals := 200 } : Room)).room s m ([.int p0, .int p1, .int p2, .int p3, .int p4, .int p5, .int p6] : List Value).toArray below meth c H locs 0 0 Q (F0 m 38 ls []) := by
    intro x7 H locs ls r_p0 r_p1 r_p2 r_p3 r_p4 r_p5 r_p6 r_x7 hE hw hl
    refine lv_iload_n hx hb dX10_spelt_38 rfl (lv_at hl 3 rfl) ?_
    refine lv_if_le (tgt := 57) hx hb dX10_spelt_39 (by decide) (fun c_39 => ?_) (fun c_39 => ?_)
    · have r_p3 : RI p3 115 0 := rc_le1 r_p3 rl_0 (ti_le c_39) (by decide)
      exact (r_p3.no (by decide)).elim
    · refine lv_ldc2 (v := 27) hx hb hown (hts _ tw_1312) dX10_spelt_42 ?_
      refine lv_lload hx hb dX10_spelt_45 (lv_at hl 7 rfl) ?_
      refine lv_lmul hx hb dX10_spelt_47 (lv_topl (fun w_9 e_w_9 => ?_))
      have r_w_9 := tq_lmul (lo := 319059) (hi := 319059) rk_27 r_x7 (by decide +kernel) e_w_9
      have q_w_9 : (27 : Int64) * x7 = w_9 := e_w_9.symm
      refine lv_iload_n hx hb dX10_spelt_48 rfl (lv_at hl 3 rfl) ?_
      obtain ⟨w_10, e_w_10⟩ : ∃ q9 : Int64, (p3 : Int32).toInt64 = q9 := ⟨_, rfl⟩
      refine lv_i2l (v := w_10) hx hb dX10_spelt_49 e_w_10 ?_
      have r_w_10 := tq_i2l r_p3 e_w_10
      have q_w_10 : Int32.toInt64 p3 = w_10 := e_w_10
      refine lv_ladd hx hb dX10_spelt_50 (lv_topl (fun w_11 e_w_11 => ?_))
      have r_w_11 := tq_ladd (lo := 319174) (hi := 319174) r_w_9 r_w_10 (by decide +kernel) e_w_11
      have q_w_11 : w_9 + w_10 = w_11 := e_w_11.symm
      refine lv_ldc2 (v := 96) hx hb hown (hts _ tw_1313) dX10_spelt_51 ?_
      refine lv_lsub hx hb dX10_spelt_54 (lv_topl (fun w_12 e_w_12 => ?_))
      have r_w_12 := tq_lsub (lo := 319078) (hi := 319078) r_w_11 rk_96 (by decide +kernel) e_w_12
      have q_w_12 : w_11 - (96 : Int64) = w_12 := e_w_12.symm
      refine lv_lstore (lv' := [(7, .long w_12), (0, .int p0), (1, .int p1), (2, .int p2), (3, .int p3), (4, .int p4), (5, .int p5), (6, .int p6)]) hx hb dX10_spelt_55 hl (by decide) rfl (fun ls hl => ?_)
      simp only [f_X10_spelt__30_38, ↓reduceIte, eq_false c_39, q_w_9, q_w_10, q_w_11, q_w_12] at hE
      exact B57 w_12 _ _ ls r_p0 r_p1 r_p2 r_p3 r_p4 r_p5 r_p6 r_w_12 hE hw (lv_sub hl [1, 2, 3, 4, 5, 6, 7, 0] rfl)
  refine lv_ldc2 (v := 27) hx hb hown (hts _ tw_1312) dX10_spelt_0 ?_
  refine lv_iload_n hx hb dX10_spelt_3 rfl (lv_at hl 0 rfl) ?_
  obtain ⟨w_13, e_w_13⟩ : ∃ q9 : Int64, (p0 : Int32).toInt64 = q9 := ⟨_, rfl⟩
  refine lv_i2l (v := w_13) hx hb dX10_spelt_4 e_w_13 ?_
  have r_w_13 := tq_i2l r_p0 e_w_13
  have q_w_13 : Int32.toInt64 p0 = w_13 := e_w_13
  refine lv_ldc2 (v := 96) hx hb hown (hts _ tw_1313) dX10_spelt_5 ?_
  refine lv_lsub hx hb dX10_spelt_8 (lv_topl (fun w_14 e_w_14 => ?_))
  have r_w_14 := tq_lsub (lo := 16) (hi := 16) r_w_13 rk_96 (by decide +kernel) e_w_14
  have q_w_14 : w_13 - (96 : Int64) = w_14 := e_w_14.symm
  refine lv_lmul hx hb dX10_spelt_9 (lv_topl (fun w_15 e_w_15 => ?_))
  have r_w_15 := tq_lmul (lo := 432) (hi := 432) rk_27 r_w_14 (by decide +kernel) e_w_15
  have q_w_15 : (27 : Int64) * w_14 = w_15 := e_w_15.symm
  refine lv_iload_n hx hb dX10_spelt_10 rfl (lv_at hl 1 rfl) ?_
  obtain ⟨w_16, e_w_16⟩ : ∃ q9 : Int64, (p1 : Int32).toInt64 = q9 := ⟨_, rfl⟩
  refine lv_i2l (v := w_16) hx hb dX10_spelt_11 e_w_16 ?_
  have r_w_16 := tq_i2l r_p1 e_w_16
  have q_w_16 : Int32.toInt64 p1 = w_16 := e_w_16
  refine lv_ladd hx hb dX10_spelt_12 (lv_topl (fun w_17 e_w_17 => ?_))
  have r_w_17 := tq_ladd (lo := 533) (hi := 533) r_w_15 r_w_16 (by decide +kernel) e_w_17
  have q_w_17 : w_15 + w_16 = w_17 := e_w_17.symm
  refine lv_ldc2 (v := 96) hx hb hown (hts _ tw_1313) dX10_spelt_13 ?_
  refine lv_lsub hx hb dX10_spelt_16 (lv_topl (fun w_18 e_w_18 => ?_))
  have r_w_18 := tq_lsub (lo := 437) (hi := 437) r_w_17 rk_96 (by decide +kernel) e_w_18
  have q_w_18 : w_17 - (96 : Int64) = w_18 := e_w_18.symm
  refine lv_lstore (lv' := [(7, .long w_18), (0, .int p0), (1, .int p1), (2, .int p2), (3, .int p3), (4, .int p4), (5, .int p5), (6, .int p6)]) hx hb dX10_spelt_17 hl (by decide) rfl (fun ls hl => ?_)
  refine lv_iload_n hx hb dX10_spelt_19 rfl (lv_at hl 3 rfl) ?_
  refine lv_if_le (tgt := 38) hx hb dX10_spelt_20 (by decide) (fun c_20 => ?_) (fun c_20 => ?_)
  · have r_p2 : RI p2 114 0 := rc_le1 r_p2 rl_0 (ti_le c_20) (by decide)
    exact (r_p2.no (by decide)).elim
  · refine lv_ldc2 (v := 27) hx hb hown (hts _ tw_1312) dX10_spelt_23 ?_
    refine lv_lload hx hb dX10_spelt_26 (lv_at hl 0 rfl) ?_
    refine lv_lmul hx hb dX10_spelt_28 (lv_topl (fun w_19 e_w_19 => ?_))
    have r_w_19 := tq_lmul (lo := 11799) (hi := 11799) rk_27 r_w_18 (by decide +kernel) e_w_19
    have q_w_19 : (27 : Int64) * w_18 = w_19 := e_w_19.symm
    refine lv_iload_n hx hb dX10_spelt_29 rfl (lv_at hl 3 rfl) ?_
    obtain ⟨w_20, e_w_20⟩ : ∃ q9 : Int64, (p2 : Int32).toInt64 = q9 := ⟨_, rfl⟩
    refine lv_i2l (v := w_20) hx hb dX10_spelt_30 e_w_20 ?_
    have r_w_20 := tq_i2l r_p2 e_w_20
    have q_w_20 : Int32.toInt64 p2 = w_20 := e_w_20
    refine lv_ladd hx hb dX10_spelt_31 (lv_topl (fun w_21 e_w_21 => ?_))
    have r_w_21 := tq_ladd (lo := 11913) (hi := 11913) r_w_19 r_w_20 (by decide +kernel) e_w_21
    have q_w_21 : w_19 + w_20 = w_21 := e_w_21.symm
    refine lv_ldc2 (v := 96) hx hb hown (hts _ tw_1313) dX10_spelt_32 ?_
    refine lv_lsub hx hb dX10_spelt_35 (lv_topl (fun w_22 e_w_22 => ?_))
    have r_w_22 := tq_lsub (lo := 11817) (hi := 11817) r_w_21 rk_96 (by decide +kernel) e_w_22
    have q_w_22 : w_21 - (96 : Int64) = w_22 := e_w_22.symm
    refine lv_lstore (lv' := [(7, .long w_22), (0, .int p0), (1, .int p1), (2, .int p2), (3, .int p3), (4, .int p4), (5, .int p5), (6, .int p6)]) hx hb dX10_spelt_36 hl (by decide) rfl (fun ls hl => ?_)
    simp only [f_X10_spelt__30, ↓reduceIte, q_w_13, q_w_14, q_w_15, q_w_16, q_w_17, q_w_18, eq_false c_20, q_w_19, q_w_20, q_w_21, q_w_22] at hE
    exact B38 w_22 _ _ ls r_p0 r_p1 r_p2 r_p3 r_p4 r_p5 r_p6 r_w_22 hE hw (lv_sub hl [1, 2, 3, 4, 5, 6, 7, 0] rfl)
abbrev wr_X10_spelt__35 : List (Nat × Nat) := []
abbrev wa_X10_spelt__35 : List Nat := []
set_option maxHeartbeats 4000000 in
set_option maxRecDepth 100000 in
theorem c_X10_spelt__35 (l : Launch) (D : va_G) (cy : Nat → ClassId) (z : Nat → Nat) (sz : Nat) (Ps : PSI) (w0 : va_W) (hT : HT cy GG Ps w0) (p0 : Int32) (p1 : Int32) (p2 : Int32) (p3 : Int32) (p4 : Int32) (p5 : Int32) (p6 : Int32) (r_p0 : RI p0 115 115) (r_p1 : RI p1 105 105) (r_p2 : RI p2 116 116) (r_p3 : RI p3 115 115) (r_p4 : RI p4 0 0) (r_p5 : RI p5 0 0) (r_p6 : RI p6 0 0) : Met l yX10_spelt (Cond.code yX10_spelt cX10_spelt 9 (some .long) :: gT) ({ frames := 0, cells := 0, slots := 0, locals := 200 } : Room) (va_Pc [.int p0, .int p1, .int p2, .int p3, .int p4, .int p5, .int p6] (PRE D cy z w0 sz)) (va_Ql (fun (r : Int64) (u : Unit) => ((f_X10_spelt__31 p0 p1 p2 p3 p4 p5 p6) = r ∧ True) ∧ (RJ r 381097 381097)) (BB D cy (va_A w0 sz) (fun (u : Unit) => w0)) (va_A w0 sz)) 0 0 (va_A w0 sz) := by
  refine Met.ofW (cc := cX10_spelt) (maxL := 9) (ret := (some .long)) (by decide) rfl ?_
  intro p e s m args below meth c s₁ B hml hv
  obtain ⟨rfl, hsz, hP, hK, hD0, hSD⟩ := hv
  have hx := B.exec
  have hb := B.bytes
  have hr := B.returns
  have hlocks := B.notSynchronized
  have hts : ∀ w ∈ gT, w.before _ s = true := fun w h => atoms_spec (ws := Cond.code yX10_spelt cX10_spelt 9 (some .long) :: gT) B.pre w (List.mem_cons_of_mem _ h)
  have hown : s.vm.findClass RX10 = some m.cls := findClass_of_methodNamed B.named
  subst hsz
  have hD := hD0.self (sz := s.heap.size)
  generalize hAe : va_A w0 s.heap.size = A at hD hSD ⊢
  have hA : ∀ q : Nat, s.heap.size ≤ q → A q := fun q h => by rw [← hAe]; exact Or.inr h
  have hl := lv_entry ([.int p0, .int p1, .int p2, .int p3, .int p4, .int p5, .int p6]) (n := 9) (Nat.le_of_ble_eq_true rfl)
  rw [lg_entry_eq]
  generalize (lg_sl ([.int p0, .int p1, .int p2, .int p3, .int p4, .int p5, .int p6]) ++ List.replicate (9 - (lg_sl ([.int p0, .int p1, .int p2, .int p3, .int p4, .int p5, .int p6])).length) Slot.unset).toArray = ls at hl ⊢
  have hl : lv_has ls 9 [(0, .int p0), (1, .int p1), (2, .int p2), (3, .int p3), (4, .int p4), (5, .int p5), (6, .int p6)] := hl
  refine nameQ (fun Q hQ => ?_)
  have hw : WD D cy GG A s wr_X10_spelt__35 wa_X10_spelt__35 Ps w0 Ps w0 s.heap [] := ⟨hT, hP, hD, va_S.rf, FR.rf, hT.1, [], (List.append_nil _).symm⟩
  obtain ⟨R9, hR⟩ : ∃ q9 : Int64, f_X10_spelt__31 p0 p1 p2 p3 p4 p5 p6 = q9 := ⟨_, rfl⟩
  have hE := hR
  have B99 : ∀ (x7 : Int64) (H : Heap) (locs : List Loc) (ls : Array Slot), RI p0 115 115 → RI p1 105 105 → RI p2 116 116 → RI p3 115 115 → RI p4 0 0 → RI p5 0 0 → RI p6 0 0 → RJ x7 381097 381097 → f_X10_spelt__31_99 p0 p1 p2 p3 p4 p5 p6 x7 = R9 → WD D cy GG A s wr_X10_spelt__35 wa_X10_spelt__35 Ps w0 Ps w0 H locs → lv_has ls 9 [(0, .int p0), (1, .int p1), (2, .int p2), (3, .int p3), (4, .int p4), (5, .int p5), (6, .int p6), (7, .long x7)] → W p l e (headSpec (Cond.code yX10_spelt cX10_spelt 9 (some .long) :: gT) ({ frames := 0, cells := 0, slots := 0, locals := 200 } : Room)).room s m ([.int p0, .int p1, .int p2, .int p3, .int p4, .int p5, .int p6] : List Value).toArray below meth c H locs 0 0 Q (F0 m 99 ls []) := by
    intro x7 H locs ls r_p0 r_p1 r_p2 r_p3 r_p4 r_p5 r_p6 r_x7 hE hw hl
    refine lv_iload hx hb dX10_spelt_99 (lv_at hl 6 rfl) ?_
    refine lv_if_le (tgt := 120) hx hb dX10_spelt_101 (by decide) (fun c_101 => ?_) (fun c_101 => ?_)
    · refine lv_lload hx hb dX10_spelt_120 (lv_at hl 7 rfl) ?_
      simp only [f_X10_spelt__31_99, ↓reduceIte, eq_true c_101] at hE
      subst hQ
      exact W.lret (v := x7) hx hb hr (fun t ht hW => ⟨⟨x7, (), rfl, ⟨⟨(by rw [hR, ← hE]), trivial⟩, r_x7.to (by decide)⟩, by rw [ht]; exact hw.2.1, va_K.moved hW.alike hK, hw.2.2.1⟩, hw.2.2.2.1.F ht⟩) hw.2.2.2.1.2.2 dX10_spelt_122
    · have r_p6 : RI p6 1 0 := rc_lt2 rl_0 r_p6 (ti_nle c_101) (by decide)
      exact (r_p6.no (by decide)).elim
  have B78 : ∀ (x7 : Int64) (H : Heap) (locs : List Loc) (ls : Array Slot), RI p0 115 115 → RI p1 105 105 → RI p2 116 116 → RI p3 115 115 → RI p4 0 0 → RI p5 0 0 → RI p6 0 0 → RJ x7 381097 381097 → f_X10_spelt__31_78 p0 p1 p2 p3 p4 p5 p6 x7 = R9 → WD D cy GG A s wr_X10_spelt__35 wa_X10_spelt__35 Ps w0 Ps w0 H locs → lv_has ls 9 [(0, .int p0), (1, .int p1), (2, .int p2), (3, .int p3), (4, .int p4), (5, .int p5), (6, .int p6), (7, .long x7)] → W p l e (headSpec (Cond.code yX10_spelt cX10_spelt 9 (some .long) :: gT) ({ frames := 0, cells := 0, slots := 0, locals := 200 } : Room)).room s m ([.int p0, .int p1, .int p2, .int p3, .int p4, .int p5, .int p6] : List Value).toArray below meth c H locs 0 0 Q (F0 m 78 ls []) := by
    intro x7 H locs ls r_p0 r_p1 r_p2 r_p3 r_p4 r_p5 r_p6 r_x7 hE hw hl
    refine lv_iload hx hb dX10_spelt_78 (lv_at hl 5 rfl) ?_
    refine lv_if_le (tgt := 99) hx hb dX10_spelt_80 (by decide) (fun c_80 => ?_) (fun c_80 => ?_)
    · simp only [f_X10_spelt__31_78, ↓reduceIte, eq_true c_80] at hE
      exact B99 x7 _ _ ls r_p0 r_p1 r_p2 r_p3 r_p4 r_p5 r_p6 r_x7 hE hw hl
    · have r_p5 : RI p5 1 0 := rc_lt2 rl_0 r_p5 (ti_nle c_80) (by decide)
      exact (r_p5.no (by decide)).elim
  have B57 : ∀ (x7 : Int64) (H : Heap) (locs : List Loc) (ls : Array Slot), RI p0 115 115 → RI p1 105 105 → RI p2 116 116 → RI p3 115 115 → RI p4 0 0 → RI p5 0 0 → RI p6 0 0 → RJ x7 381097 381097 → f_X10_spelt__31_57 p0 p1 p2 p3 p4 p5 p6 x7 = R9 → WD D cy GG A s wr_X10_spelt__35 wa_X10_spelt__35 Ps w0 Ps w0 H locs → lv_has ls 9 [(0, .int p0), (1, .int p1), (2, .int p2), (3, .int p3), (4, .int p4), (5, .int p5), (6, .int p6), (7, .long x7)] → W p l e (headSpec (Cond.code yX10_spelt cX10_spelt 9 (some .long) :: gT) ({ frames := 0, cells := 0, slots := 0, locals := 200 } : Room)).room s m ([.int p0, .int p1, .int p2, .int p3, .int p4, .int p5, .int p6] : List Value).toArray below meth c H locs 0 0 Q (F0 m 57 ls []) := by
    intro x7 H locs ls r_p0 r_p1 r_p2 r_p3 r_p4 r_p5 r_p6 r_x7 hE hw hl
    refine lv_iload hx hb dX10_spelt_57 (lv_at hl 4 rfl) ?_
    refine lv_if_le (tgt := 78) hx hb dX10_spelt_59 (by decide) (fun c_59 => ?_) (fun c_59 => ?_)
    · simp only [f_X10_spelt__31_57, ↓reduceIte, eq_true c_59] at hE
      exact B78 x7 _ _ ls r_p0 r_p1 r_p2 r_p3 r_p4 r_p5 r_p6 r_x7 hE hw hl
    · have r_p4 : RI p4 1 0 := rc_lt2 rl_0 r_p4 (ti_nle c_59) (by decide)
      exact (r_p4.no (by decide)).elim
  have B38 : ∀ (x7 : Int64) (H : Heap) (locs : List Loc) (ls : Array Slot), RI p0 115 115 → RI p1 105 105 → RI p2 116 116 → RI p3 115 115 → RI p4 0 0 → RI p5 0 0 → RI p6 0 0 → RJ x7 14114 14114 → f_X10_spelt__31_38 p0 p1 p2 p3 p4 p5 p6 x7 = R9 → WD D cy GG A s wr_X10_spelt__35 wa_X10_spelt__35 Ps w0 Ps w0 H locs → lv_has ls 9 [(0, .int p0), (1, .int p1), (2, .int p2), (3, .int p3), (4, .int p4), (5, .int p5), (6, .int p6), (7, .long x7)] → W p l e (headSpec (Cond.code yX10_spelt cX10_spelt 9 (some .long) :: gT) ({ frames := 0, cells := 0, slots := 0, locals := 200 } : Room)).room s m ([.int p0, .int p1, .int p2, .int p3, .int p4, .int p5, .int p6] : List Value).toArray below meth c H locs 0 0 Q (F0 m 38 ls []) := by
    intro x7 H locs ls r_p0 r_p1 r_p2 r_p3 r_p4 r_p5 r_p6 r_x7 hE hw hl
    refine lv_iload_n hx hb dX10_spelt_38 rfl (lv_at hl 3 rfl) ?_
    refine lv_if_le (tgt := 57) hx hb dX10_spelt_39 (by decide) (fun c_39 => ?_) (fun c_39 => ?_)
    · have r_p3 : RI p3 115 0 := rc_le1 r_p3 rl_0 (ti_le c_39) (by decide)
      exact (r_p3.no (by decide)).elim
    · refine lv_ldc2 (v := 27) hx hb hown (hts _ tw_1312) dX10_spelt_42 ?_
      refine lv_lload hx hb dX10_spelt_45 (lv_at hl 7 rfl) ?_
      refine lv_lmul hx hb dX10_spelt_47 (lv_topl (fun w_1 e_w_1 => ?_))
      have r_w_1 := tq_lmul (lo := 381078) (hi := 381078) rk_27 r_x7 (by decide +kernel) e_w_1
      have q_w_1 : (27 : Int64) * x7 = w_1 := e_w_1.symm
      refine lv_iload_n hx hb dX10_spelt_48 rfl (lv_at hl 3 rfl) ?_
      obtain ⟨w_2, e_w_2⟩ : ∃ q9 : Int64, (p3 : Int32).toInt64 = q9 := ⟨_, rfl⟩
      refine lv_i2l (v := w_2) hx hb dX10_spelt_49 e_w_2 ?_
      have r_w_2 := tq_i2l r_p3 e_w_2
      have q_w_2 : Int32.toInt64 p3 = w_2 := e_w_2
      refine lv_ladd hx hb dX10_spelt_50 (lv_topl (fun w_3 e_w_3 => ?_))
      have r_w_3 := tq_ladd (lo := 381193) (hi := 381193) r_w_1 r_w_2 (by decide +kernel) e_w_3
      have q_w_3 : w_1 + w_2 = w_3 := e_w_3.symm
      refine lv_ldc2 (v := 96) hx hb hown (hts _ tw_1313) dX10_spelt_51 ?_
      refine lv_lsub hx hb dX10_spelt_54 (lv_topl (fun w_4 e_w_4 => ?_))
      have r_w_4 := tq_lsub (lo := 381097) (hi := 381097) r_w_3 rk_96 (by decide +kernel) e_w_4
      have q_w_4 : w_3 - (96 : Int64) = w_4 := e_w_4.symm
      refine lv_lstore (lv' := [(7, .long w_4), (0, .int p0), (1, .int p1), (2, .int p2), (3, .int p3), (4, .int p4), (5, .int p5), (6, .int p6)]) hx hb dX10_spelt_55 hl (by decide) rfl (fun ls hl => ?_)
      simp only [f_X10_spelt__31_38, ↓reduceIte, eq_false c_39, q_w_1, q_w_2, q_w_3, q_w_4] at hE
      exact B57 w_4 _ _ ls r_p0 r_p1 r_p2 r_p3 r_p4 r_p5 r_p6 r_w_4 hE hw (lv_sub hl [1, 2, 3, 4, 5, 6, 7, 0] rfl)
  refine lv_ldc2 (v := 27) hx hb hown (hts _ tw_1312) dX10_spelt_0 ?_
  refine lv_iload_n hx hb dX10_spelt_3 rfl (lv_at hl 0 rfl) ?_
  obtain ⟨w_5, e_w_5⟩ : ∃ q9 : Int64, (p0 : Int32).toInt64 = q9 := ⟨_, rfl⟩
  refine lv_i2l (v := w_5) hx hb dX10_spelt_4 e_w_5 ?_
  have r_w_5 := tq_i2l r_p0 e_w_5
  have q_w_5 : Int32.toInt64 p0 = w_5 := e_w_5
  refine lv_ldc2 (v := 96) hx hb hown (hts _ tw_1313) dX10_spelt_5 ?_
  refine lv_lsub hx hb dX10_spelt_8 (lv_topl (fun w_6 e_w_6 => ?_))
  have r_w_6 := tq_lsub (lo := 19) (hi := 19) r_w_5 rk_96 (by decide +kernel) e_w_6
  have q_w_6 : w_5 - (96 : Int64) = w_6 := e_w_6.symm
  refine lv_lmul hx hb dX10_spelt_9 (lv_topl (fun w_7 e_w_7 => ?_))
  have r_w_7 := tq_lmul (lo := 513) (hi := 513) rk_27 r_w_6 (by decide +kernel) e_w_7
  have q_w_7 : (27 : Int64) * w_6 = w_7 := e_w_7.symm
  refine lv_iload_n hx hb dX10_spelt_10 rfl (lv_at hl 1 rfl) ?_
  obtain ⟨w_8, e_w_8⟩ : ∃ q9 : Int64, (p1 : Int32).toInt64 = q9 := ⟨_, rfl⟩
  refine lv_i2l (v := w_8) hx hb dX10_spelt_11 e_w_8 ?_
  have r_w_8 := tq_i2l r_p1 e_w_8
  have q_w_8 : Int32.toInt64 p1 = w_8 := e_w_8
  refine lv_ladd hx hb dX10_spelt_12 (lv_topl (fun w_9 e_w_9 => ?_))
  have r_w_9 := tq_ladd (lo := 618) (hi := 618) r_w_7 r_w_8 (by decide +kernel) e_w_9
  have q_w_9 : w_7 + w_8 = w_9 := e_w_9.symm
  refine lv_ldc2 (v := 96) hx hb hown (hts _ tw_1313) dX10_spelt_13 ?_
  refine lv_lsub hx hb dX10_spelt_16 (lv_topl (fun w_10 e_w_10 => ?_))
  have r_w_10 := tq_lsub (lo := 522) (hi := 522) r_w_9 rk_96 (by decide +kernel) e_w_10
  have q_w_10 : w_9 - (96 : Int64) = w_10 := e_w_10.symm
  refine lv_lstore (lv' := [(7, .long w_10), (0, .int p0), (1, .int p1), (2, .int p2), (3, .int p3), (4, .int p4), (5, .int p5), (6, .int p6)]) hx hb dX10_spelt_17 hl (by decide) rfl (fun ls hl => ?_)
  refine lv_iload_n hx hb dX10_spelt_19 rfl (lv_at hl 3 rfl) ?_
  refine lv_if_le (tgt := 38) hx hb dX10_spelt_20 (by decide) (fun c_20 => ?_) (fun c_20 => ?_)
  · have r_p2 : RI p2 116 0 := rc_le1 r_p2 rl_0 (ti_le c_20) (by decide)
    exact (r_p2.no (by decide)).elim
  · refine lv_ldc2 (v := 27) hx hb hown (hts _ tw_1312) dX10_spelt_23 ?_
    refine lv_lload hx hb dX10_spelt_26 (lv_at hl 0 rfl) ?_
    refine lv_lmul hx hb dX10_spelt_28 (lv_topl (fun w_11 e_w_11 => ?_))
    have r_w_11 := tq_lmul (lo := 14094) (hi := 14094) rk_27 r_w_10 (by decide +kernel) e_w_11
    have q_w_11 : (27 : Int64) * w_10 = w_11 := e_w_11.symm
    refine lv_iload_n hx hb dX10_spelt_29 rfl (lv_at hl 3 rfl) ?_
    obtain ⟨w_12, e_w_12⟩ : ∃ q9 : Int64, (p2 : Int32).toInt64 = q9 := ⟨_, rfl⟩
    refine lv_i2l (v := w_12) hx hb dX10_spelt_30 e_w_12 ?_
    have r_w_12 := tq_i2l r_p2 e_w_12
    have q_w_12 : Int32.toInt64 p2 = w_12 := e_w_12
    refine lv_ladd hx hb dX10_spelt_31 (lv_topl (fun w_13 e_w_13 => ?_))
    have r_w_13 := tq_ladd (lo := 14210) (hi := 14210) r_w_11 r_w_12 (by decide +kernel) e_w_13
    have q_w_13 : w_11 + w_12 = w_13 := e_w_13.symm
    refine lv_ldc2 (v := 96) hx hb hown (hts _ tw_1313) dX10_spelt_32 ?_
    refine lv_lsub hx hb dX10_spelt_35 (lv_topl (fun w_14 e_w_14 => ?_))
    have r_w_14 := tq_lsub (lo := 14114) (hi := 14114) r_w_13 rk_96 (by decide +kernel) e_w_14
    have q_w_14 : w_13 - (96 : Int64) = w_14 := e_w_14.symm
    refine lv_lstore (lv' := [(7, .long w_14), (0, .int p0), (1, .int p1), (2, .int p2), (3, .int p3), (4, .int p4), (5, .int p5), (6, .int p6)]) hx hb dX10_spelt_36 hl (by decide) rfl (fun ls hl => ?_)
    simp only [f_X10_spelt__31, ↓reduceIte, q_w_5, q_w_6, q_w_7, q_w_8, q_w_9, q_w_10, eq_false c_20, q_w_11, q_w_12, q_w_13, q_w_14] at hE
    exact B38 w_14 _ _ ls r_p0 r_p1 r_p2 r_p3 r_p4 r_p5 r_p6 r_w_14 hE hw (lv_sub hl [1, 2, 3, 4, 5, 6, 7, 0] rfl)
abbrev wr_X10_spelt__36 : List (Nat × Nat) := []
abbrev wa_X10_spelt__36 : List Nat := []
set_option maxHeartbeats 4000000 in
set_option maxRecDepth 100000 in
theorem c_X10_spelt__36 (l : Launch) (D : va_G) (cy : Nat → ClassId) (z : Nat → Nat) (sz : Nat) (Ps : PSI) (w0 : va_W) (hT : HT cy GG Ps w0) (p0 : Int32) (p1 : Int32) (p2 : Int32) (p3 : Int32) (p4 : Int32) (p5 : Int32) (p6 : Int32) (r_p0 : RI p0 104 104) (r_p1 : RI p1 97 97) (r_p2 : RI p2 115 115) (r_p3 : RI p3 0 0) (r_p4 : RI p4 0 0) (r_p5 : RI p5 0 0) (r_p6 : RI p6 0 0) : Met l yX10_spelt (Cond.code yX10_spelt cX10_spelt 9 (some .long) :: gT) ({ frames := 0, cells := 0, slots := 0, locals := 200 } : Room) (va_Pc [.int p0, .int p1, .int p2, .int p3, .int p4, .int p5, .int p6] (PRE D cy z w0 sz)) (va_Ql (fun (r : Int64) (u : Unit) => ((f_X10_spelt__36 p0 p1 p2 p3 p4 p5 p6) = r ∧ True) ∧ (RJ r 5878 5878)) (BB D cy (va_A w0 sz) (fun (u : Unit) => w0)) (va_A w0 sz)) 0 0 (va_A w0 sz) := by
  refine Met.ofW (cc := cX10_spelt) (maxL := 9) (ret := (some .long)) (by decide) rfl ?_
  intro p e s m args below meth c s₁ B hml hv
  obtain ⟨rfl, hsz, hP, hK, hD0, hSD⟩ := hv
  have hx := B.exec
  have hb := B.bytes
  have hr := B.returns
  have hlocks := B.notSynchronized
  have hts : ∀ w ∈ gT, w.before _ s = true := fun w h => atoms_spec (ws := Cond.code yX10_spelt cX10_spelt 9 (some .long) :: gT) B.pre w (List.mem_cons_of_mem _ h)
  have hown : s.vm.findClass RX10 = some m.cls := findClass_of_methodNamed B.named
  subst hsz
  have hD := hD0.self (sz := s.heap.size)
  generalize hAe : va_A w0 s.heap.size = A at hD hSD ⊢
  have hA : ∀ q : Nat, s.heap.size ≤ q → A q := fun q h => by rw [← hAe]; exact Or.inr h
  have hl := lv_entry ([.int p0, .int p1, .int p2, .int p3, .int p4, .int p5, .int p6]) (n := 9) (Nat.le_of_ble_eq_true rfl)
  rw [lg_entry_eq]
  generalize (lg_sl ([.int p0, .int p1, .int p2, .int p3, .int p4, .int p5, .int p6]) ++ List.replicate (9 - (lg_sl ([.int p0, .int p1, .int p2, .int p3, .int p4, .int p5, .int p6])).length) Slot.unset).toArray = ls at hl ⊢
  have hl : lv_has ls 9 [(0, .int p0), (1, .int p1), (2, .int p2), (3, .int p3), (4, .int p4), (5, .int p5), (6, .int p6)] := hl
  refine nameQ (fun Q hQ => ?_)
  have hw : WD D cy GG A s wr_X10_spelt__36 wa_X10_spelt__36 Ps w0 Ps w0 s.heap [] := ⟨hT, hP, hD, va_S.rf, FR.rf, hT.1, [], (List.append_nil _).symm⟩
  obtain ⟨R9, hR⟩ : ∃ q9 : Int64, f_X10_spelt__36 p0 p1 p2 p3 p4 p5 p6 = q9 := ⟨_, rfl⟩
  have hE := hR
  have B99 : ∀ (x7 : Int64) (H : Heap) (locs : List Loc) (ls : Array Slot), RI p0 104 104 → RI p1 97 97 → RI p2 115 115 → RI p3 0 0 → RI p4 0 0 → RI p5 0 0 → RI p6 0 0 → RJ x7 5878 5878 → f_X10_spelt__36_99 p0 p1 p2 p3 p4 p5 p6 x7 = R9 → WD D cy GG A s wr_X10_spelt__36 wa_X10_spelt__36 Ps w0 Ps w0 H locs → lv_has ls 9 [(0, .int p0), (1, .int p1), (2, .int p2), (3, .int p3), (4, .int p4), (5, .int p5), (6, .int p6), (7, .long x7)] → W p l e (headSpec (Cond.code yX10_spelt cX10_spelt 9 (some .long) :: gT) ({ frames := 0, cells := 0, slots := 0, locals := 200 } : Room)).room s m ([.int p0, .int p1, .int p2, .int p3, .int p4, .int p5, .int p6] : List Value).toArray below meth c H locs 0 0 Q (F0 m 99 ls []) := by
    intro x7 H locs ls r_p0 r_p1 r_p2 r_p3 r_p4 r_p5 r_p6 r_x7 hE hw hl
    refine lv_iload hx hb dX10_spelt_99 (lv_at hl 6 rfl) ?_
    refine lv_if_le (tgt := 120) hx hb dX10_spelt_101 (by decide) (fun c_101 => ?_) (fun c_101 => ?_)
    · refine lv_lload hx hb dX10_spelt_120 (lv_at hl 7 rfl) ?_
      simp only [f_X10_spelt__36_99, ↓reduceIte, eq_true c_101] at hE
      subst hQ
      exact W.lret (v := x7) hx hb hr (fun t ht hW => ⟨⟨x7, (), rfl, ⟨⟨(by rw [hR, ← hE]), trivial⟩, r_x7.to (by decide)⟩, by rw [ht]; exact hw.2.1, va_K.moved hW.alike hK, hw.2.2.1⟩, hw.2.2.2.1.F ht⟩) hw.2.2.2.1.2.2 dX10_spelt_122
    · have r_p6 : RI p6 1 0 := rc_lt2 rl_0 r_p6 (ti_nle c_101) (by decide)
      exact (r_p6.no (by decide)).elim
  have B78 : ∀ (x7 : Int64) (H : Heap) (locs : List Loc) (ls : Array Slot), RI p0 104 104 → RI p1 97 97 → RI p2 115 115 → RI p3 0 0 → RI p4 0 0 → RI p5 0 0 → RI p6 0 0 → RJ x7 5878 5878 → f_X10_spelt__36_78 p0 p1 p2 p3 p4 p5 p6 x7 = R9 → WD D cy GG A s wr_X10_spelt__36 wa_X10_spelt__36 Ps w0 Ps w0 H locs → lv_has ls 9 [(0, .int p0), (1, .int p1), (2, .int p2), (3, .int p3), (4, .int p4), (5, .int p5), (6, .int p6), (7, .long x7)] → W p l e (headSpec (Cond.code yX10_spelt cX10_spelt 9 (some .long) :: gT) ({ frames := 0, cells := 0, slots := 0, locals := 200 } : Room)).room s m ([.int p0, .int p1, .int p2, .int p3, .int p4, .int p5, .int p6] : List Value).toArray below meth c H locs 0 0 Q (F0 m 78 ls []) := by
    intro x7 H locs ls r_p0 r_p1 r_p2 r_p3 r_p4 r_p5 r_p6 r_x7 hE hw hl
    refine lv_iload hx hb dX10_spelt_78 (lv_at hl 5 rfl) ?_
    refine lv_if_le (tgt := 99) hx hb dX10_spelt_80 (by decide) (fun c_80 => ?_) (fun c_80 => ?_)
    · simp only [f_X10_spelt__36_78, ↓reduceIte, eq_true c_80] at hE
      exact B99 x7 _ _ ls r_p0 r_p1 r_p2 r_p3 r_p4 r_p5 r_p6 r_x7 hE hw hl
    · have r_p5 : RI p5 1 0 := rc_lt2 rl_0 r_p5 (ti_nle c_80) (by decide)
      exact (r_p5.no (by decide)).elim
  have B57 : ∀ (x7 : Int64) (H : Heap) (locs : List Loc) (ls : Array Slot), RI p0 104 104 → RI p1 97 97 → RI p2 115 115 → RI p3 0 0 → RI p4 0 0 → RI p5 0 0 → RI p6 0 0 → RJ x7 5878 5878 → f_X10_spelt__36_57 p0 p1 p2 p3 p4 p5 p6 x7 = R9 → WD D cy GG A s wr_X10_spelt__36 wa_X10_spelt__36 Ps w0 Ps w0 H locs → lv_has ls 9 [(0, .int p0), (1, .int p1), (2, .int p2), (3, .int p3), (4, .int p4), (5, .int p5), (6, .int p6), (7, .long x7)] → W p l e (headSpec (Cond.code yX10_spelt cX10_spelt 9 (some .long) :: gT) ({ frames := 0, cells := 0, slots := 0, locals := 200 } : Room)).room s m ([.int p0, .int p1, .int p2, .int p3, .int p4, .int p5, .int p6] : List Value).toArray below meth c H locs 0 0 Q (F0 m 57 ls []) := by
    intro x7 H locs ls r_p0 r_p1 r_p2 r_p3 r_p4 r_p5 r_p6 r_x7 hE hw hl
    refine lv_iload hx hb dX10_spelt_57 (lv_at hl 4 rfl) ?_
    refine lv_if_le (tgt := 78) hx hb dX10_spelt_59 (by decide) (fun c_59 => ?_) (fun c_59 => ?_)
    · simp only [f_X10_spelt__36_57, ↓reduceIte, eq_true c_59] at hE
      exact B78 x7 _ _ ls r_p0 r_p1 r_p2 r_p3 r_p4 r_p5 r_p6 r_x7 hE hw hl
    · have r_p4 : RI p4 1 0 := rc_lt2 rl_0 r_p4 (ti_nle c_59) (by decide)
      exact (r_p4.no (by decide)).elim
  have B38 : ∀ (x7 : Int64) (H : Heap) (locs : List Loc) (ls : Array Slot), RI p0 104 104 → RI p1 97 97 → RI p2 115 115 → RI p3 0 0 → RI p4 0 0 → RI p5 0 0 → RI p6 0 0 → RJ x7 5878 5878 → f_X10_spelt__36_38 p0 p1 p2 p3 p4 p5 p6 x7 = R9 → WD D cy GG A s wr_X10_spelt__36 wa_X10_spelt__36 Ps w0 Ps w0 H locs → lv_has ls 9 [(0, .int p0), (1, .int p1), (2, .int p2), (3, .int p3), (4, .int p4), (5, .int p5), (6, .int p6), (7, .long x7)] → W p l e (headSpec (Cond.code yX10_spelt cX10_spelt 9 (some .long) :: gT) ({ frames := 0, cells := 0, slots := 0, locals := 200 } : Room)).room s m ([.int p0, .int p1, .int p2, .int p3, .int p4, .int p5, .int p6] : List Value).toArray below meth c H locs 0 0 Q (F0 m 38 ls []) := by
    intro x7 H locs ls r_p0 r_p1 r_p2 r_p3 r_p4 r_p5 r_p6 r_x7 hE hw hl
    refine lv_iload_n hx hb dX10_spelt_38 rfl (lv_at hl 3 rfl) ?_
    refine lv_if_le (tgt := 57) hx hb dX10_spelt_39 (by decide) (fun c_39 => ?_) (fun c_39 => ?_)
    · simp only [f_X10_spelt__36_38, ↓reduceIte, eq_true c_39] at hE
      exact B57 x7 _ _ ls r_p0 r_p1 r_p2 r_p3 r_p4 r_p5 r_p6 r_x7 hE hw hl
    · have r_p3 : RI p3 1 0 := rc_lt2 rl_0 r_p3 (ti_nle c_39) (by decide)
      exact (r_p3.no (by decide)).elim
  refine lv_ldc2 (v := 27) hx hb hown (hts _ tw_1312) dX10_spelt_0 ?_
  refine lv_iload_n hx hb dX10_spelt_3 rfl (lv_at hl 0 rfl) ?_
  obtain ⟨w_1, e_w_1⟩ : ∃ q9 : Int64, (p0 : Int32).toInt64 = q9 := ⟨_, rfl⟩
  refine lv_i2l (v := w_1) hx hb dX10_spelt_4 e_w_1 ?_
  have r_w_1 := tq_i2l r_p0 e_w_1
  have q_w_1 : Int32.toInt64 p0 = w_1 := e_w_1
  refine lv_ldc2 (v := 96) hx hb hown (hts _ tw_1313) dX10_spelt_5 ?_
  refine lv_lsub hx hb dX10_spelt_8 (lv_topl (fun w_2 e_w_2 => ?_))
  have r_w_2 := tq_lsub (lo := 8) (hi := 8) r_w_1 rk_96 (by decide +kernel) e_w_2
  have q_w_2 : w_1 - (96 : Int64) = w_2 := e_w_2.symm
  refine lv_lmul hx hb dX10_spelt_9 (lv_topl (fun w_3 e_w_3 => ?_))
  have r_w_3 := tq_lmul (lo := 216) (hi := 216) rk_27 r_w_2 (by decide +kernel) e_w_3
  have q_w_3 : (27 : Int64) * w_2 = w_3 := e_w_3.symm
  refine lv_iload_n hx hb dX10_spelt_10 rfl (lv_at hl 1 rfl) ?_
  obtain ⟨w_4, e_w_4⟩ : ∃ q9 : Int64, (p1 : Int32).toInt64 = q9 := ⟨_, rfl⟩
  refine lv_i2l (v := w_4) hx hb dX10_spelt_11 e_w_4 ?_
  have r_w_4 := tq_i2l r_p1 e_w_4
  have q_w_4 : Int32.toInt64 p1 = w_4 := e_w_4
  refine lv_ladd hx hb dX10_spelt_12 (lv_topl (fun w_5 e_w_5 => ?_))
  have r_w_5 := tq_ladd (lo := 313) (hi := 313) r_w_3 r_w_4 (by decide +kernel) e_w_5
  have q_w_5 : w_3 + w_4 = w_5 := e_w_5.symm
  refine lv_ldc2 (v := 96) hx hb hown (hts _ tw_1313) dX10_spelt_13 ?_
  refine lv_lsub hx hb dX10_spelt_16 (lv_topl (fun w_6 e_w_6 => ?_))
  have r_w_6 := tq_lsub (lo := 217) (hi := 217) r_w_5 rk_96 (by decide +kernel) e_w_6
  have q_w_6 : w_5 - (96 : Int64) = w_6 := e_w_6.symm
  refine lv_lstore (lv' := [(7, .long w_6), (0, .int p0), (1, .int p1), (2, .int p2), (3, .int p3), (4, .int p4), (5, .int p5), (6, .int p6)]) hx hb dX10_spelt_17 hl (by decide) rfl (fun ls hl => ?_)
  refine lv_iload_n hx hb dX10_spelt_19 rfl (lv_at hl 3 rfl) ?_
  refine lv_if_le (tgt := 38) hx hb dX10_spelt_20 (by decide) (fun c_20 => ?_) (fun c_20 => ?_)
  · have r_p2 : RI p2 115 0 := rc_le1 r_p2 rl_0 (ti_le c_20) (by decide)
    exact (r_p2.no (by decide)).elim
  · refine lv_ldc2 (v := 27) hx hb hown (hts _ tw_1312) dX10_spelt_23 ?_
    refine lv_lload hx hb dX10_spelt_26 (lv_at hl 0 rfl) ?_
    refine lv_lmul hx hb dX10_spelt_28 (lv_topl (fun w_7 e_w_7 => ?_))
    have r_w_7 := tq_lmul (lo := 5859) (hi := 5859) rk_27 r_w_6 (by decide +kernel) e_w_7
    have q_w_7 : (27 : Int64) * w_6 = w_7 := e_w_7.symm
    refine lv_iload_n hx hb dX10_spelt_29 rfl (lv_at hl 3 rfl) ?_
    obtain ⟨w_8, e_w_8⟩ : ∃ q9 : Int64, (p2 : Int32).toInt64 = q9 := ⟨_, rfl⟩
    refine lv_i2l (v := w_8) hx hb dX10_spelt_30 e_w_8 ?_
    have r_w_8 := tq_i2l r_p2 e_w_8
    have q_w_8 : Int32.toInt64 p2 = w_8 := e_w_8
    refine lv_ladd hx hb dX10_spelt_31 (lv_topl (fun w_9 e_w_9 => ?_))
    have r_w_9 := tq_ladd (lo := 5974) (hi := 5974) r_w_7 r_w_8 (by decide +kernel) e_w_9
    have q_w_9 : w_7 + w_8 = w_9 := e_w_9.symm
    refine lv_ldc2 (v := 96) hx hb hown (hts _ tw_1313) dX10_spelt_32 ?_
    refine lv_lsub hx hb dX10_spelt_35 (lv_topl (fun w_10 e_w_10 => ?_))
    have r_w_10 := tq_lsub (lo := 5878) (hi := 5878) r_w_9 rk_96 (by decide +kernel) e_w_10
    have q_w_10 : w_9 - (96 : Int64) = w_10 := e_w_10.symm
    refine lv_lstore (lv' := [(7, .long w_10), (0, .int p0), (1, .int p1), (2, .int p2), (3, .int p3), (4, .int p4), (5, .int p5), (6, .int p6)]) hx hb dX10_spelt_36 hl (by decide) rfl (fun ls hl => ?_)
    simp only [f_X10_spelt__36, ↓reduceIte, q_w_1, q_w_2, q_w_3, q_w_4, q_w_5, q_w_6, eq_false c_20, q_w_7, q_w_8, q_w_9, q_w_10] at hE
    exact B38 w_10 _ _ ls r_p0 r_p1 r_p2 r_p3 r_p4 r_p5 r_p6 r_w_10 hE hw (lv_sub hl [1, 2, 3, 4, 5, 6, 7, 0] rfl)
abbrev wr_X10_spelt__37 : List (Nat × Nat) := []
abbrev wa_X10_spelt__37 : List Nat := []
set_option maxHeartbeats 4000000 in
set_option maxRecDepth 100000 in
theorem c_X10_spelt__37 (l : Launch) (D : va_G) (cy : Nat → ClassId) (z : Nat → Nat) (sz : Nat) (Ps : PSI) (w0 : va_W) (hT : HT cy GG Ps w0) (p0 : Int32) (p1 : Int32) (p2 : Int32) (p3 : Int32) (p4 : Int32) (p5 : Int32) (p6 : Int32) (r_p0 : RI p0 113 113) (r_p1 : RI p1 117 117) (r_p2 : RI p2 97 97) (r_p3 : RI p3 114 114) (r_p4 : RI p4 114 114) (r_p5 : RI p5 101 101) (r_p6 : RI p6 108 108) : Met l yX10_spelt (Cond.code yX10_spelt cX10_spelt 9 (some .long) :: gT) ({ frames := 0, cells := 0, slots := 0, locals := 200 } : Room) (va_Pc [.int p0, .int p1, .int p2, .int p3, .int p4, .int p5, .int p6] (PRE D cy z w0 sz)) (va_Ql (fun (r : Int64) (u : Unit) => ((f_X10_spelt__37 p0 p1 p2 p3 p4 p5 p6) = r ∧ True) ∧ (RJ r 6888374364 6888374364)) (BB D cy (va_A w0 sz) (fun (u : Unit) => w0)) (va_A w0 sz)) 0 0 (va_A w0 sz) := by
  refine Met.ofW (cc := cX10_spelt) (maxL := 9) (ret := (some .long)) (by decide) rfl ?_
  intro p e s m args below meth c s₁ B hml hv
  obtain ⟨rfl, hsz, hP, hK, hD0, hSD⟩ := hv
  have hx := B.exec
  have hb := B.bytes
  have hr := B.returns
  have hlocks := B.notSynchronized
  have hts : ∀ w ∈ gT, w.before _ s = true := fun w h => atoms_spec (ws := Cond.code yX10_spelt cX10_spelt 9 (some .long) :: gT) B.pre w (List.mem_cons_of_mem _ h)
  have hown : s.vm.findClass RX10 = some m.cls := findClass_of_methodNamed B.named
  subst hsz
  have hD := hD0.self (sz := s.heap.size)
  generalize hAe : va_A w0 s.heap.size = A at hD hSD ⊢
  have hA : ∀ q : Nat, s.heap.size ≤ q → A q := fun q h => by rw [← hAe]; exact Or.inr h
  have hl := lv_entry ([.int p0, .int p1, .int p2, .int p3, .int p4, .int p5, .int p6]) (n := 9) (Nat.le_of_ble_eq_true rfl)
  rw [lg_entry_eq]
  generalize (lg_sl ([.int p0, .int p1, .int p2, .int p3, .int p4, .int p5, .int p6]) ++ List.replicate (9 - (lg_sl ([.int p0, .int p1, .int p2, .int p3, .int p4, .int p5, .int p6])).length) Slot.unset).toArray = ls at hl ⊢
  have hl : lv_has ls 9 [(0, .int p0), (1, .int p1), (2, .int p2), (3, .int p3), (4, .int p4), (5, .int p5), (6, .int p6)] := hl
  refine nameQ (fun Q hQ => ?_)
  have hw : WD D cy GG A s wr_X10_spelt__37 wa_X10_spelt__37 Ps w0 Ps w0 s.heap [] := ⟨hT, hP, hD, va_S.rf, FR.rf, hT.1, [], (List.append_nil _).symm⟩
  obtain ⟨R9, hR⟩ : ∃ q9 : Int64, f_X10_spelt__37 p0 p1 p2 p3 p4 p5 p6 = q9 := ⟨_, rfl⟩
  have hE := hR
  have B99 : ∀ (x7 : Int64) (H : Heap) (locs : List Loc) (ls : Array Slot), RI p0 113 113 → RI p1 117 117 → RI p2 97 97 → RI p3 114 114 → RI p4 114 114 → RI p5 101 101 → RI p6 108 108 → RJ x7 255124976 255124976 → f_X10_spelt__37_99 p0 p1 p2 p3 p4 p5 p6 x7 = R9 → WD D cy GG A s wr_X10_spelt__37 wa_X10_spelt__37 Ps w0 Ps w0 H locs → lv_has ls 9 [(0, .int p0), (1, .int p1), (2, .int p2), (3, .int p3), (4, .int p4), (5, .int p5), (6, .int p6), (7, .long x7)] → W p l e (headSpec (Cond.code yX10_spelt cX10_spelt 9 (some .long) :: gT) ({ frames := 0, cells := 0, slots := 0, locals := 200 } : Room)).room s m ([.int p0, .int p1, .int p2, .int p3, .int p4, .int p5, .int p6] : List Value).toArray below meth c H locs 0 0 Q (F0 m 99 ls []) := by
    intro x7 H locs ls r_p0 r_p1 r_p2 r_p3 r_p4 r_p5 r_p6 r_x7 hE hw hl
    refine lv_iload hx hb dX10_spelt_99 (lv_at hl 6 rfl) ?_
    refine lv_if_le (tgt := 120) hx hb dX10_spelt_101 (by decide) (fun c_101 => ?_) (fun c_101 => ?_)
    · have r_p6 : RI p6 108 0 := rc_le1 r_p6 rl_0 (ti_le c_101) (by decide)
      exact (r_p6.no (by decide)).elim
    · refine lv_ldc2 (v := 27) hx hb hown (hts _ tw_1312) dX10_spelt_104 ?_
      refine lv_lload hx hb dX10_spelt_107 (lv_at hl 7 rfl) ?_
      refine lv_lmul hx hb dX10_spelt_109 (lv_topl (fun w_1 e_w_1 => ?_))
      have r_w_1 := tq_lmul (lo := 6888374352) (hi := 6888374352) rk_27 r_x7 (by decide +kernel) e_w_1
      have q_w_1 : (27 : Int64) * x7 = w_1 := e_w_1.symm
      refine lv_iload hx hb dX10_spelt_110 (lv_at hl 6 rfl) ?_
      obtain ⟨w_2, e_w_2⟩ : ∃ q9 : Int64, (p6 : Int32).toInt64 = q9 := ⟨_, rfl⟩
      refine lv_i2l (v := w_2) hx hb dX10_spelt_112 e_w_2 ?_
      have r_w_2 := tq_i2l r_p6 e_w_2
      have q_w_2 : Int32.toInt64 p6 = w_2 := e_w_2
      refine lv_ladd hx hb dX10_spelt_113 (lv_topl (fun w_3 e_w_3 => ?_))
      have r_w_3 := tq_ladd (lo := 6888374460) (hi := 6888374460) r_w_1 r_w_2 (by decide +kernel) e_w_3
      have q_w_3 : w_1 + w_2 = w_3 := e_w_3.symm
      refine lv_ldc2 (v := 96) hx hb hown (hts _ tw_1313) dX10_spelt_114 ?_
      refine lv_lsub hx hb dX10_spelt_117 (lv_topl (fun w_4 e_w_4 => ?_))
      have r_w_4 := tq_lsub (lo := 6888374364) (hi := 6888374364) r_w_3 rk_96 (by decide +kernel) e_w_4
      have q_w_4 : w_3 - (96 : Int64) = w_4 := e_w_4.symm
      refine lv_lstore (lv' := [(7, .long w_4), (0, .int p0), (1, .int p1), (2, .int p2), (3, .int p3), (4, .int p4), (5, .int p5), (6, .int p6)]) hx hb dX10_spelt_118 hl (by decide) rfl (fun ls hl => ?_)
      refine lv_lload hx hb dX10_spelt_120 (lv_at hl 0 rfl) ?_
      simp only [f_X10_spelt__37_99, ↓reduceIte, eq_false c_101, q_w_1, q_w_2, q_w_3, q_w_4] at hE
      subst hQ
      exact W.lret (v := w_4) hx hb hr (fun t ht hW => ⟨⟨w_4, (), rfl, ⟨⟨(by rw [hR, ← hE]), trivial⟩, r_w_4.to (by decide)⟩, by rw [ht]; exact hw.2.1, va_K.moved hW.alike hK, hw.2.2.1⟩, hw.2.2.2.1.F ht⟩) hw.2.2.2.1.2.2 dX10_spelt_122
  have B78 : ∀ (x7 : Int64) (H : Heap) (locs : List Loc) (ls : Array Slot), RI p0 113 113 → RI p1 117 117 → RI p2 97 97 → RI p3 114 114 → RI p4 114 114 → RI p5 101 101 → RI p6 108 108 → RJ x7 9449073 9449073 → f_X10_spelt__37_78 p0 p1 p2 p3 p4 p5 p6 x7 = R9 → WD D cy GG A s wr_X10_spelt__37 wa_X10_spelt__37 Ps w0 Ps w0 H locs → lv_has ls 9 [(0, .int p0), (1, .int p1), (2, .int p2), (3, .int p3), (4, .int p4), (5, .int p5), (6, .int p6), (7, .long x7)] → W p l e (headSpec (Cond.code yX10_spelt cX10_spelt 9 (some .long) :: gT) ({ frames := 0, cells := 0, slots := 0, locals := 200 } : Room)).room s m ([.int p0, .int p1, .int p2, .int p3, .int p4, .int p5, .int p6] : List Value).toArray below meth c H locs 0 0 Q (F0 m 78 ls []) := by
    intro x7 H locs ls r_p0 r_p1 r_p2 r_p3 r_p4 r_p5 r_p6 r_x7 hE hw hl
    refine lv_iload hx hb dX10_spelt_78 (lv_at hl 5 rfl) ?_
    refine lv_if_le (tgt := 99) hx hb dX10_spelt_80 (by decide) (fun c_80 => ?_) (fun c_80 => ?_)
    · have r_p5 : RI p5 101 0 := rc_le1 r_p5 rl_0 (ti_le c_80) (by decide)
      exact (r_p5.no (by decide)).elim
    · refine lv_ldc2 (v := 27) hx hb hown (hts _ tw_1312) dX10_spelt_83 ?_
      refine lv_lload hx hb dX10_spelt_86 (lv_at hl 7 rfl) ?_
      refine lv_lmul hx hb dX10_spelt_88 (lv_topl (fun w_5 e_w_5 => ?_))
      have r_w_5 := tq_lmul (lo := 255124971) (hi := 255124971) rk_27 r_x7 (by decide +kernel) e_w_5
      have q_w_5 : (27 : Int64) * x7 = w_5 := e_w_5.symm
      refine lv_iload hx hb dX10_spelt_89 (lv_at hl 5 rfl) ?_
      obtain ⟨w_6, e_w_6⟩ : ∃ q9 : Int64, (p5 : Int32).toInt64 = q9 := ⟨_, rfl⟩
      refine lv_i2l (v := w_6) hx hb dX10_spelt_91 e_w_6 ?_
      have r_w_6 := tq_i2l r_p5 e_w_6
      have q_w_6 : Int32.toInt64 p5 = w_6 := e_w_6
      refine lv_ladd hx hb dX10_spelt_92 (lv_topl (fun w_7 e_w_7 => ?_))
      have r_w_7 := tq_ladd (lo := 255125072) (hi := 255125072) r_w_5 r_w_6 (by decide +kernel) e_w_7
      have q_w_7 : w_5 + w_6 = w_7 := e_w_7.symm
      refine lv_ldc2 (v := 96) hx hb hown (hts _ tw_1313) dX10_spelt_93 ?_
      refine lv_lsub hx hb dX10_spelt_96 (lv_topl (fun w_8 e_w_8 => ?_))
      have r_w_8 := tq_lsub (lo := 255124976) (hi := 255124976) r_w_7 rk_96 (by decide +kernel) e_w_8
      have q_w_8 : w_7 - (96 : Int64) = w_8 := e_w_8.symm
      refine lv_lstore (lv' := [(7, .long w_8), (0, .int p0), (1, .int p1), (2, .int p2), (3, .int p3), (4, .int p4), (5, .int p5), (6, .int p6)]) hx hb dX10_spelt_97 hl (by decide) rfl (fun ls hl => ?_)
      simp only [f_X10_spelt__37_78, ↓reduceIte, eq_false c_80, q_w_5, q_w_6, q_w_7, q_w_8] at hE
      exact B99 w_8 _ _ ls r_p0 r_p1 r_p2 r_p3 r_p4 r_p5 r_p6 r_w_8 hE hw (lv_sub hl [1, 2, 3, 4, 5, 6, 7, 0] rfl)
  have B57 : ∀ (x7 : Int64) (H : Heap) (locs : List Loc) (ls : Array Slot), RI p0 113 113 → RI p1 117 117 → RI p2 97 97 → RI p3 114 114 → RI p4 114 114 → RI p5 101 101 → RI p6 108 108 → RJ x7 349965 349965 → f_X10_spelt__37_57 p0 p1 p2 p3 p4 p5 p6 x7 = R9 → WD D cy GG A s wr_X10_spelt__37 wa_X10_spelt__37 Ps w0 Ps w0 H locs → lv_has ls 9 [(0, .int p0), (1, .int p1), (2, .int p2), (3, .int p3), (4, .int p4), (5, .int p5), (6, .int p6), (7, .long x7)] → W p l e (headSpec (Cond.code yX10_spelt cX10_spelt 9 (some .long) :: gT) ({ frames := 0, cells := 0, slots := 0, locals := 200 } : Room)).room s m ([.int p0, .int p1, .int p2, .int p3, .int p4, .int p5, .int p6] : List Value).toArray below meth c H locs 0 0 Q (F0 m 57 ls []) := by
    intro x7 H locs ls r_p0 r_p1 r_p2 r_p3 r_p4 r_p5 r_p6 r_x7 hE hw hl
    refine lv_iload hx hb dX10_spelt_57 (lv_at hl 4 rfl) ?_
    refine lv_if_le (tgt := 78) hx hb dX10_spelt_59 (by decide) (fun c_59 => ?_) (fun c_59 => ?_)
    · have r_p4 : RI p4 114 0 := rc_le1 r_p4 rl_0 (ti_le c_59) (by decide)
      exact (r_p4.no (by decide)).elim
    · refine lv_ldc2 (v := 27) hx hb hown (hts _ tw_1312) dX10_spelt_62 ?_
      refine lv_lload hx hb dX10_spelt_65 (lv_at hl 7 rfl) ?_
      refine lv_lmul hx hb dX10_spelt_67 (lv_topl (fun w_9 e_w_9 => ?_))
      have r_w_9 := tq_lmul (lo := 9449055) (hi := 9449055) rk_27 r_x7 (by decide +kernel) e_w_9
      have q_w_9 : (27 : Int64) * x7 = w_9 := e_w_9.symm
      refine lv_iload hx hb dX10_spelt_68 (lv_at hl 4 rfl) ?_
      obtain ⟨w_10, e_w_10⟩ : ∃ q9 : Int64, (p4 : Int32).toInt64 = q9 := ⟨_, rfl⟩
      refine lv_i2l (v := w_10) hx hb dX10_spelt_70 e_w_10 ?_
      have r_w_10 := tq_i2l r_p4 e_w_10
      have q_w_10 : Int32.toInt64 p4 = w_10 := e_w_10
      refine lv_ladd hx hb dX10_spelt_71 (lv_topl (fun w_11 e_w_11 => ?_))
      have r_w_11 := tq_ladd (lo := 9449169) (hi := 9449169) r_w_9 r_w_10 (by decide +kernel) e_w_11
      have q_w_11 : w_9 + w_10 = w_11 := e_w_11.symm
      refine lv_ldc2 (v := 96) hx hb hown (hts _ tw_1313) dX10_spelt_72 ?_
      refine lv_lsub hx hb dX10_spelt_75 (lv_topl (fun w_12 e_w_12 => ?_))
      have r_w_12 := tq_lsub (lo := 9449073) (hi := 9449073) r_w_11 rk_96 (by decide +kernel) e_w_12
      have q_w_12 : w_11 - (96 : Int64) = w_12 := e_w_12.symm
      refine lv_lstore (lv' := [(7, .long w_12), (0, .int p0), (1, .int p1), (2, .int p2), (3, .int p3), (4, .int p4), (5, .int p5), (6, .int p6)]) hx hb dX10_spelt_76 hl (by decide) rfl (fun ls hl => ?_)
      simp only [f_X10_spelt__37_57, ↓reduceIte, eq_false c_59, q_w_9, q_w_10, q_w_11, q_w_12] at hE
      exact B78 w_12 _ _ ls r_p0 r_p1 r_p2 r_p3 r_p4 r_p5 r_p6 r_w_12 hE hw (lv_sub hl [1, 2, 3, 4, 5, 6, 7, 0] rfl)
  have B38 : ∀ (x7 : Int64) (H : Heap) (locs : List Loc) (ls : Array Slot), RI p0 113 113 → RI p1 117 117 → RI p2 97 97 → RI p3 114 114 → RI p4 114 114 → RI p5 101 101 → RI p6 108 108 → RJ x7 12961 12961 → f_X10_spelt__37_38 p0 p1 p2 p3 p4 p5 p6 x7 = R9 → WD D cy GG A s wr_X10_spelt__37 wa_X10_spelt__37 Ps w0 Ps w0 H locs → lv_has ls 9 [(0, .int p0), (1, .int p1), (2, .int p2), (3, .int p3), (4, .int p4), (5, .int p5), (6, .int p6), (7, .long x7)] → W p l e (headSpec (Cond.code yX10_spelt cX10_spelt 9 (some .long) :: gT) ({ frames := 0, cells := 0, slots := 0, locals := 200 } : Room)).room s m ([.int p0, .int p1, .int p2, .int p3, .int p4, .int p5, .int p6] : List Value).toArray below meth c H locs 0 0 Q (F0 m 38 ls []) := by
    intro x7 H locs ls r_p0 r_p1 r_p2 r_p3 r_p4 r_p5 r_p6 r_x7 hE hw hl
    refine lv_iload_n hx hb dX10_spelt_38 rfl (lv_at hl 3 rfl) ?_
    refine lv_if_le (tgt := 57) hx hb dX10_spelt_39 (by decide) (fun c_39 => ?_) (fun c_39 => ?_)
    · have r_p3 : RI p3 114 0 := rc_le1 r_p3 rl_0 (ti_le c_39) (by decide)
      exact (r_p3.no (by decide)).elim
    · refine lv_ldc2 (v := 27) hx hb hown (hts _ tw_1312) dX10_spelt_42 ?_
      refine lv_lload hx hb dX10_spelt_45 (lv_at hl 7 rfl) ?_
      refine lv_lmul hx hb dX10_spelt_47 (lv_topl (fun w_13 e_w_13 => ?_))
      have r_w_13 := tq_lmul (lo := 349947) (hi := 349947) rk_27 r_x7 (by decide +kernel) e_w_13
      have q_w_13 : (27 : Int64) * x7 = w_13 := e_w_13.symm
      refine lv_iload_n hx hb dX10_spelt_48 rfl (lv_at hl 3 rfl) ?_
      obtain ⟨w_14, e_w_14⟩ : ∃ q9 : Int64, (p3 : Int32).toInt64 = q9 := ⟨_, rfl⟩
      refine lv_i2l (v := w_14) hx hb dX10_spelt_49 e_w_14 ?_
      have r_w_14 := tq_i2l r_p3 e_w_14
      have q_w_14 : Int32.toInt64 p3 = w_14 := e_w_14
      refine lv_ladd hx hb dX10_spelt_50 (lv_topl (fun w_15 e_w_15 => ?_))
      have r_w_15 := tq_ladd (lo := 350061) (hi := 350061) r_w_13 r_w_14 (by decide +kernel) e_w_15
      have q_w_15 : w_13 + w_14 = w_15 := e_w_15.symm
      refine lv_ldc2 (v := 96) hx hb hown (hts _ tw_1313) dX10_spelt_51 ?_
      refine lv_lsub hx hb dX10_spelt_54 (lv_topl (fun w_16 e_w_16 => ?_))
      have r_w_16 := tq_lsub (lo := 349965) (hi := 349965) r_w_15 rk_96 (by decide +kernel) e_w_16
      have q_w_16 : w_15 - (96 : Int64) = w_16 := e_w_16.symm
      refine lv_lstore (lv' := [(7, .long w_16), (0, .int p0), (1, .int p1), (2, .int p2), (3, .int p3), (4, .int p4), (5, .int p5), (6, .int p6)]) hx hb dX10_spelt_55 hl (by decide) rfl (fun ls hl => ?_)
      simp only [f_X10_spelt__37_38, ↓reduceIte, eq_false c_39, q_w_13, q_w_14, q_w_15, q_w_16] at hE
      exact B57 w_16 _ _ ls r_p0 r_p1 r_p2 r_p3 r_p4 r_p5 r_p6 r_w_16 hE hw (lv_sub hl [1, 2, 3, 4, 5, 6, 7, 0] rfl)
  refine lv_ldc2 (v := 27) hx hb hown (hts _ tw_1312) dX10_spelt_0 ?_
  refine lv_iload_n hx hb dX10_spelt_3 rfl (lv_at hl 0 rfl) ?_
  obtain ⟨w_17, e_w_17⟩ : ∃ q9 : Int64, (p0 : Int32).toInt64 = q9 := ⟨_, rfl⟩
  refine lv_i2l (v := w_17) hx hb dX10_spelt_4 e_w_17 ?_
  have r_w_17 := tq_i2l r_p0 e_w_17
  have q_w_17 : Int32.toInt64 p0 = w_17 := e_w_17
  refine lv_ldc2 (v := 96) hx hb hown (hts _ tw_1313) dX10_spelt_5 ?_
  refine lv_lsub hx hb dX10_spelt_8 (lv_topl (fun w_18 e_w_18 => ?_))
  have r_w_18 := tq_lsub (lo := 17) (hi := 17) r_w_17 rk_96 (by decide +kernel) e_w_18
  have q_w_18 : w_17 - (96 : Int64) = w_18 := e_w_18.symm
  refine lv_lmul hx hb dX10_spelt_9 (lv_topl (fun w_19 e_w_19 => ?_))
  have r_w_19 := tq_lmul (lo := 459) (hi := 459) rk_27 r_w_18 (by decide +kernel) e_w_19
  have q_w_19 : (27 : Int64) * w_18 = w_19 := e_w_19.symm
  refine lv_iload_n hx hb dX10_spelt_10 rfl (lv_at hl 1 rfl) ?_
  obtain ⟨w_20, e_w_20⟩ : ∃ q9 : Int64, (p1 : Int32).toInt64 = q9 := ⟨_, rfl⟩
  refine lv_i2l (v := w_20) hx hb dX10_spelt_11 e_w_20 ?_
  have r_w_20 := tq_i2l r_p1 e_w_20
  have q_w_20 : Int32.toInt64 p1 = w_20 := e_w_20
  refine lv_ladd hx hb dX10_spelt_12 (lv_topl (fun w_21 e_w_21 => ?_))
  have r_w_21 := tq_ladd (lo := 576) (hi := 576) r_w_19 r_w_20 (by decide +kernel) e_w_21
  have q_w_21 : w_19 + w_20 = w_21 := e_w_21.symm
  refine lv_ldc2 (v := 96) hx hb hown (hts _ tw_1313) dX10_spelt_13 ?_
  refine lv_lsub hx hb dX10_spelt_16 (lv_topl (fun w_22 e_w_22 => ?_))
  have r_w_22 := tq_lsub (lo := 480) (hi := 480) r_w_21 rk_96 (by decide +kernel) e_w_22
  have q_w_22 : w_21 - (96 : Int64) = w_22 := e_w_22.symm
  refine lv_lstore (lv' := [(7, .long w_22), (0, .int p0), (1, .int p1), (2, .int p2), (3, .int p3), (4, .int p4), (5, .int p5), (6, .int p6)]) hx hb dX10_spelt_17 hl (by decide) rfl (fun ls hl => ?_)
  refine lv_iload_n hx hb dX10_spelt_19 rfl (lv_at hl 3 rfl) ?_
  refine lv_if_le (tgt := 38) hx hb dX10_spelt_20 (by decide) (fun c_20 => ?_) (fun c_20 => ?_)
  · have r_p2 : RI p2 97 0 := rc_le1 r_p2 rl_0 (ti_le c_20) (by decide)
    exact (r_p2.no (by decide)).elim
  · refine lv_ldc2 (v := 27) hx hb hown (hts _ tw_1312) dX10_spelt_23 ?_
    refine lv_lload hx hb dX10_spelt_26 (lv_at hl 0 rfl) ?_
    refine lv_lmul hx hb dX10_spelt_28 (lv_topl (fun w_23 e_w_23 => ?_))
    have r_w_23 := tq_lmul (lo := 12960) (hi := 12960) rk_27 r_w_22 (by decide +kernel) e_w_23
    have q_w_23 : (27 : Int64) * w_22 = w_23 := e_w_23.symm
    refine lv_iload_n hx hb dX10_spelt_29 rfl (lv_at hl 3 rfl) ?_
    obtain ⟨w_24, e_w_24⟩ : ∃ q9 : Int64, (p2 : Int32).toInt64 = q9 := ⟨_, rfl⟩
    refine lv_i2l (v := w_24) hx hb dX10_spelt_30 e_w_24 ?_
    have r_w_24 := tq_i2l r_p2 e_w_24
    have q_w_24 : Int32.toInt64 p2 = w_24 := e_w_24
    refine lv_ladd hx hb dX10_spelt_31 (lv_topl (fun w_25 e_w_25 => ?_))
    have r_w_25 := tq_ladd (lo := 13057) (hi := 13057) r_w_23 r_w_24 (by decide +kernel) e_w_25
    have q_w_25 : w_23 + w_24 = w_25 := e_w_25.symm
    refine lv_ldc2 (v := 96) hx hb hown (hts _ tw_1313) dX10_spelt_32 ?_
    refine lv_lsub hx hb dX10_spelt_35 (lv_topl (fun w_26 e_w_26 => ?_))
    have r_w_26 := tq_lsub (lo := 12961) (hi := 12961) r_w_25 rk_96 (by decide +kernel) e_w_26
    have q_w_26 : w_25 - (96 : Int64) = w_26 := e_w_26.symm
    refine lv_lstore (lv' := [(7, .long w_26), (0, .int p0), (1, .int p1), (2, .int p2), (3, .int p3), (4, .int p4), (5, .int p5), (6, .int p6)]) hx hb dX10_spelt_36 hl (by decide) rfl (fun ls hl => ?_)
    simp only [f_X10_spelt__37, ↓reduceIte, q_w_17, q_w_18, q_w_19, q_w_20, q_w_21, q_w_22, eq_false c_20, q_w_23, q_w_24, q_w_25, q_w_26] at hE
    exact B38 w_26 _ _ ls r_p0 r_p1 r_p2 r_p3 r_p4 r_p5 r_p6 r_w_26 hE hw (lv_sub hl [1, 2, 3, 4, 5, 6, 7, 0] rfl)
abbrev wr_X10_spelt__38 : List (Nat × Nat) := []
abbrev wa_X10_spelt__38 : List Nat := []
set_option maxHeartbeats 4000000 in
set_option maxRecDepth 100000 in
theorem c_X10_spelt__38 (l : Launch) (D : va_G) (cy : Nat → ClassId) (z : Nat → Nat) (sz : Nat) (Ps : PSI) (w0 : va_W) (hT : HT cy GG Ps w0) (p0 : Int32) (p1 : Int32) (p2 : Int32) (p3 : Int32) (p4 : Int32) (p5 : Int32) (p6 : Int32) (r_p0 : RI p0 108 108) (r_p1 : RI p1 101 101) (r_p2 : RI p2 97 97) (r_p3 : RI p3 107 107) (r_p4 : RI p4 0 0) (r_p5 : RI p5 0 0) (r_p6 : RI p6 0 0) : Met l yX10_spelt (Cond.code yX10_spelt cX10_spelt 9 (some .long) :: gT) ({ frames := 0, cells := 0, slots := 0, locals := 200 } : Room) (va_Pc [.int p0, .int p1, .int p2, .int p3, .int p4, .int p5, .int p6] (PRE D cy z w0 sz)) (va_Ql (fun (r : Int64) (u : Unit) => ((f_X10_spelt__31 p0 p1 p2 p3 p4 p5 p6) = r ∧ True) ∧ (RJ r 239879 239879)) (BB D cy (va_A w0 sz) (fun (u : Unit) => w0)) (va_A w0 sz)) 0 0 (va_A w0 sz) := by
  refine Met.ofW (cc := cX10_spelt) (maxL := 9) (ret := (some .long)) (by decide) rfl ?_
  intro p e s m args below meth c s₁ B hml hv
  obtain ⟨rfl, hsz, hP, hK, hD0, hSD⟩ := hv
  have hx := B.exec
  have hb := B.bytes
  have hr := B.returns
  have hlocks := B.notSynchronized
  have hts : ∀ w ∈ gT, w.before _ s = true := fun w h => atoms_spec (ws := Cond.code yX10_spelt cX10_spelt 9 (some .long) :: gT) B.pre w (List.mem_cons_of_mem _ h)
  have hown : s.vm.findClass RX10 = some m.cls := findClass_of_methodNamed B.named
  subst hsz
  have hD := hD0.self (sz := s.heap.size)
  generalize hAe : va_A w0 s.heap.size = A at hD hSD ⊢
  have hA : ∀ q : Nat, s.heap.size ≤ q → A q := fun q h => by rw [← hAe]; exact Or.inr h
  have hl := lv_entry ([.int p0, .int p1, .int p2, .int p3, .int p4, .int p5, .int p6]) (n := 9) (Nat.le_of_ble_eq_true rfl)
  rw [lg_entry_eq]
  generalize (lg_sl ([.int p0, .int p1, .int p2, .int p3, .int p4, .int p5, .int p6]) ++ List.replicate (9 - (lg_sl ([.int p0, .int p1, .int p2, .int p3, .int p4, .int p5, .int p6])).length) Slot.unset).toArray = ls at hl ⊢
  have hl : lv_has ls 9 [(0, .int p0), (1, .int p1), (2, .int p2), (3, .int p3), (4, .int p4), (5, .int p5), (6, .int p6)] := hl
  refine nameQ (fun Q hQ => ?_)
  have hw : WD D cy GG A s wr_X10_spelt__38 wa_X10_spelt__38 Ps w0 Ps w0 s.heap [] := ⟨hT, hP, hD, va_S.rf, FR.rf, hT.1, [], (List.append_nil _).symm⟩
  obtain ⟨R9, hR⟩ : ∃ q9 : Int64, f_X10_spelt__31 p0 p1 p2 p3 p4 p5 p6 = q9 := ⟨_, rfl⟩
  have hE := hR
  have B99 : ∀ (x7 : Int64) (H : Heap) (locs : List Loc) (ls : Array Slot), RI p0 108 108 → RI p1 101 101 → RI p2 97 97 → RI p3 107 107 → RI p4 0 0 → RI p5 0 0 → RI p6 0 0 → RJ x7 239879 239879 → f_X10_spelt__31_99 p0 p1 p2 p3 p4 p5 p6 x7 = R9 → WD D cy GG A s wr_X10_spelt__38 wa_X10_spelt__38 Ps w0 Ps w0 H locs → lv_has ls 9 [(0, .int p0), (1, .int p1), (2, .int p2), (3, .int p3), (4, .int p4), (5, .int p5), (6, .int p6), (7, .long x7)] → W p l e (headSpec (Cond.code yX10_spelt cX10_spelt 9 (some .long) :: gT) ({ frames := 0, cells := 0, slots := 0, locals := 200 } : Room)).room s m ([.int p0, .int p1, .int p2, .int p3, .int p4, .int p5, .int p6] : List Value).toArray below meth c H locs 0 0 Q (F0 m 99 ls []) := by
    intro x7 H locs ls r_p0 r_p1 r_p2 r_p3 r_p4 r_p5 r_p6 r_x7 hE hw hl
    refine lv_iload hx hb dX10_spelt_99 (lv_at hl 6 rfl) ?_
    refine lv_if_le (tgt := 120) hx hb dX10_spelt_101 (by decide) (fun c_101 => ?_) (fun c_101 => ?_)
    · refine lv_lload hx hb dX10_spelt_120 (lv_at hl 7 rfl) ?_
      simp only [f_X10_spelt__31_99, ↓reduceIte, eq_true c_101] at hE
      subst hQ
      exact W.lret (v := x7) hx hb hr (fun t ht hW => ⟨⟨x7, (), rfl, ⟨⟨(by rw [hR, ← hE]), trivial⟩, r_x7.to (by decide)⟩, by rw [ht]; exact hw.2.1, va_K.moved hW.alike hK, hw.2.2.1⟩, hw.2.2.2.1.F ht⟩) hw.2.2.2.1.2.2 dX10_spelt_122
    · have r_p6 : RI p6 1 0 := rc_lt2 rl_0 r_p6 (ti_nle c_101) (by decide)
      exact (r_p6.no (by decide)).elim
  have B78 : ∀ (x7 : Int64) (H : Heap) (locs : List Loc) (ls : Array Slot), RI p0 108 108 → RI p1 101 101 → RI p2 97 97 → RI p3 107 107 → RI p4 0 0 → RI p5 0 0 → RI p6 0 0 → RJ x7 239879 239879 → f_X10_spelt__31_78 p0 p1 p2 p3 p4 p5 p6 x7 = R9 → WD D cy GG A s wr_X10_spelt__38 wa_X10_spelt__38 Ps w0 Ps w0 H locs → lv_has ls 9 [(0, .int p0), (1, .int p1), (2, .int p2), (3, .int p3), (4, .int p4), (5, .int p5), (6, .int p6), (7, .long x7)] → W p l e (headSpec (Cond.code yX10_spelt cX10_spelt 9 (some .long) :: gT) ({ frames := 0, cells := 0, slots := 0, locals := 200 } : Room)).room s m ([.int p0, .int p1, .int p2, .int p3, .int p4, .int p5, .int p6] : List Value).toArray below meth c H locs 0 0 Q (F0 m 78 ls []) := by
    intro x7 H locs ls r_p0 r_p1 r_p2 r_p3 r_p4 r_p5 r_p6 r_x7 hE hw hl
    refine lv_iload hx hb dX10_spelt_78 (lv_at hl 5 rfl) ?_
    refine lv_if_le (tgt := 99) hx hb dX10_spelt_80 (by decide) (fun c_80 => ?_) (fun c_80 => ?_)
    · simp only [f_X10_spelt__31_78, ↓reduceIte, eq_true c_80] at hE
      exact B99 x7 _ _ ls r_p0 r_p1 r_p2 r_p3 r_p4 r_p5 r_p6 r_x7 hE hw hl
    · have r_p5 : RI p5 1 0 := rc_lt2 rl_0 r_p5 (ti_nle c_80) (by decide)
      exact (r_p5.no (by decide)).elim
  have B57 : ∀ (x7 : Int64) (H : Heap) (locs : List Loc) (ls : Array Slot), RI p0 108 108 → RI p1 101 101 → RI p2 97 97 → RI p3 107 107 → RI p4 0 0 → RI p5 0 0 → RI p6 0 0 → RJ x7 239879 239879 → f_X10_spelt__31_57 p0 p1 p2 p3 p4 p5 p6 x7 = R9 → WD D cy GG A s wr_X10_spelt__38 wa_X10_spelt__38 Ps w0 Ps w0 H locs → lv_has ls 9 [(0, .int p0), (1, .int p1), (2, .int p2), (3, .int p3), (4, .int p4), (5, .int p5), (6, .int p6), (7, .long x7)] → W p l e (headSpec (Cond.code yX10_spelt cX10_spelt 9 (some .long) :: gT) ({ frames := 0, cells := 0, slots := 0, locals := 200 } : Room)).room s m ([.int p0, .int p1, .int p2, .int p3, .int p4, .int p5, .int p6] : List Value).toArray below meth c H locs 0 0 Q (F0 m 57 ls []) := by
    intro x7 H locs ls r_p0 r_p1 r_p2 r_p3 r_p4 r_p5 r_p6 r_x7 hE hw hl
    refine lv_iload hx hb dX10_spelt_57 (lv_at hl 4 rfl) ?_
    refine lv_if_le (tgt := 78) hx hb dX10_spelt_59 (by decide) (fun c_59 => ?_) (fun c_59 => ?_)
    · simp only [f_X10_spelt__31_57, ↓reduceIte, eq_true c_59] at hE
      exact B78 x7 _ _ ls r_p0 r_p1 r_p2 r_p3 r_p4 r_p5 r_p6 r_x7 hE hw hl
    · have r_p4 : RI p4 1 0 := rc_lt2 rl_0 r_p4 (ti_nle c_59) (by decide)
      exact (r_p4.no (by decide)).elim
  have B38 : ∀ (x7 : Int64) (H : Heap) (locs : List Loc) (ls : Array Slot), RI p0 108 108 → RI p1 101 101 → RI p2 97 97 → RI p3 107 107 → RI p4 0 0 → RI p5 0 0 → RI p6 0 0 → RJ x7 8884 8884 → f_X10_spelt__31_38 p0 p1 p2 p3 p4 p5 p6 x7 = R9 → WD D cy GG A s wr_X10_spelt__38 wa_X10_spelt__38 Ps w0 Ps w0 H locs → lv_has ls 9 [(0, .int p0), (1, .int p1), (2, .int p2), (3, .int p3), (4, .int p4), (5, .int p5), (6, .int p6), (7, .long x7)] → W p l e (headSpec (Cond.code yX10_spelt cX10_spelt 9 (some .long) :: gT) ({ frames := 0, cells := 0, slots := 0, locals := 200 } : Room)).room s m ([.int p0, .int p1, .int p2, .int p3, .int p4, .int p5, .int p6] : List Value).toArray below meth c H locs 0 0 Q (F0 m 38 ls []) := by
    intro x7 H locs ls r_p0 r_p1 r_p2 r_p3 r_p4 r_p5 r_p6 r_x7 hE hw hl
    refine lv_iload_n hx hb dX10_spelt_38 rfl (lv_at hl 3 rfl) ?_
    refine lv_if_le (tgt := 57) hx hb dX10_spelt_39 (by decide) (fun c_39 => ?_) (fun c_39 => ?_)
    · have r_p3 : RI p3 107 0 := rc_le1 r_p3 rl_0 (ti_le c_39) (by decide)
      exact (r_p3.no (by decide)).elim
    · refine lv_ldc2 (v := 27) hx hb hown (hts _ tw_1312) dX10_spelt_42 ?_
      refine lv_lload hx hb dX10_spelt_45 (lv_at hl 7 rfl) ?_
      refine lv_lmul hx hb dX10_spelt_47 (lv_topl (fun w_1 e_w_1 => ?_))
      have r_w_1 := tq_lmul (lo := 239868) (hi := 239868) rk_27 r_x7 (by decide +kernel) e_w_1
      have q_w_1 : (27 : Int64) * x7 = w_1 := e_w_1.symm
      refine lv_iload_n hx hb dX10_spelt_48 rfl (lv_at hl 3 rfl) ?_
      obtain ⟨w_2, e_w_2⟩ : ∃ q9 : Int64, (p3 : Int32).toInt64 = q9 := ⟨_, rfl⟩
      refine lv_i2l (v := w_2) hx hb dX10_spelt_49 e_w_2 ?_
      have r_w_2 := tq_i2l r_p3 e_w_2
      have q_w_2 : Int32.toInt64 p3 = w_2 := e_w_2
      refine lv_ladd hx hb dX10_spelt_50 (lv_topl (fun w_3 e_w_3 => ?_))
      have r_w_3 := tq_ladd (lo := 239975) (hi := 239975) r_w_1 r_w_2 (by decide +kernel) e_w_3
      have q_w_3 : w_1 + w_2 = w_3 := e_w_3.symm
      refine lv_ldc2 (v := 96) hx hb hown (hts _ tw_1313) dX10_spelt_51 ?_
      refine lv_lsub hx hb dX10_spelt_54 (lv_topl (fun w_4 e_w_4 => ?_))
      have r_w_4 := tq_lsub (lo := 239879) (hi := 239879) r_w_3 rk_96 (by decide +kernel) e_w_4
      have q_w_4 : w_3 - (96 : Int64) = w_4 := e_w_4.symm
      refine lv_lstore (lv' := [(7, .long w_4), (0, .int p0), (1, .int p1), (2, .int p2), (3, .int p3), (4, .int p4), (5, .int p5), (6, .int p6)]) hx hb dX10_spelt_55 hl (by decide) rfl (fun ls hl => ?_)
      simp only [f_X10_spelt__31_38, ↓reduceIte, eq_false c_39, q_w_1, q_w_2, q_w_3, q_w_4] at hE
      exact B57 w_4 _ _ ls r_p0 r_p1 r_p2 r_p3 r_p4 r_p5 r_p6 r_w_4 hE hw (lv_sub hl [1, 2, 3, 4, 5, 6, 7, 0] rfl)
  refine lv_ldc2 (v := 27) hx hb hown (hts _ tw_1312) dX10_spelt_0 ?_
  refine lv_iload_n hx hb dX10_spelt_3 rfl (lv_at hl 0 rfl) ?_
  obtain ⟨w_5, e_w_5⟩ : ∃ q9 : Int64, (p0 : Int32).toInt64 = q9 := ⟨_, rfl⟩
  refine lv_i2l (v := w_5) hx hb dX10_spelt_4 e_w_5 ?_
  have r_w_5 := tq_i2l r_p0 e_w_5
  have q_w_5 : Int32.toInt64 p0 = w_5 := e_w_5
  refine lv_ldc2 (v := 96) hx hb hown (hts _ tw_1313) dX10_spelt_5 ?_
  refine lv_lsub hx hb dX10_spelt_8 (lv_topl (fun w_6 e_w_6 => ?_))
  have r_w_6 := tq_lsub (lo := 12) (hi := 12) r_w_5 rk_96 (by decide +kernel) e_w_6
  have q_w_6 : w_5 - (96 : Int64) = w_6 := e_w_6.symm
  refine lv_lmul hx hb dX10_spelt_9 (lv_topl (fun w_7 e_w_7 => ?_))
  have r_w_7 := tq_lmul (lo := 324) (hi := 324) rk_27 r_w_6 (by decide +kernel) e_w_7
  have q_w_7 : (27 : Int64) * w_6 = w_7 := e_w_7.symm
  refine lv_iload_n hx hb dX10_spelt_10 rfl (lv_at hl 1 rfl) ?_
  obtain ⟨w_8, e_w_8⟩ : ∃ q9 : Int64, (p1 : Int32).toInt64 = q9 := ⟨_, rfl⟩
  refine lv_i2l (v := w_8) hx hb dX10_spelt_11 e_w_8 ?_
  have r_w_8 := tq_i2l r_p1 e_w_8
  have q_w_8 : Int32.toInt64 p1 = w_8 := e_w_8
  refine lv_ladd hx hb dX10_spelt_12 (lv_topl (fun w_9 e_w_9 => ?_))
  have r_w_9 := tq_ladd (lo := 425) (hi := 425) r_w_7 r_w_8 (by decide +kernel) e_w_9
  have q_w_9 : w_7 + w_8 = w_9 := e_w_9.symm
  refine lv_ldc2 (v := 96) hx hb hown (hts _ tw_1313) dX10_spelt_13 ?_
  refine lv_lsub hx hb dX10_spelt_16 (lv_topl (fun w_10 e_w_10 => ?_))
  have r_w_10 := tq_lsub (lo := 329) (hi := 329) r_w_9 rk_96 (by decide +kernel) e_w_10
  have q_w_10 : w_9 - (96 : Int64) = w_10 := e_w_10.symm
  refine lv_lstore (lv' := [(7, .long w_10), (0, .int p0), (1, .int p1), (2, .int p2), (3, .int p3), (4, .int p4), (5, .int p5), (6, .int p6)]) hx hb dX10_spelt_17 hl (by decide) rfl (fun ls hl => ?_)
  refine lv_iload_n hx hb dX10_spelt_19 rfl (lv_at hl 3 rfl) ?_
  refine lv_if_le (tgt := 38) hx hb dX10_spelt_20 (by decide) (fun c_20 => ?_) (fun c_20 => ?_)
  · have r_p2 : RI p2 97 0 := rc_le1 r_p2 rl_0 (ti_le c_20) (by decide)
    exact (r_p2.no (by decide)).elim
  · refine lv_ldc2 (v := 27) hx hb hown (hts _ tw_1312) dX10_spelt_23 ?_
    refine lv_lload hx hb dX10_spelt_26 (lv_at hl 0 rfl) ?_
    refine lv_lmul hx hb dX10_spelt_28 (lv_topl (fun w_11 e_w_11 => ?_))
    have r_w_11 := tq_lmul (lo := 8883) (hi := 8883) rk_27 r_w_10 (by decide +kernel) e_w_11
    have q_w_11 : (27 : Int64) * w_10 = w_11 := e_w_11.symm
    refine lv_iload_n hx hb dX10_spelt_29 rfl (lv_at hl 3 rfl) ?_
    obtain ⟨w_12, e_w_12⟩ : ∃ q9 : Int64, (p2 : Int32).toInt64 = q9 := ⟨_, rfl⟩
    refine lv_i2l (v := w_12) hx hb dX10_spelt_30 e_w_12 ?_
    have r_w_12 := tq_i2l r_p2 e_w_12
    have q_w_12 : Int32.toInt64 p2 = w_12 := e_w_12
    refine lv_ladd hx hb dX10_spelt_31 (lv_topl (fun w_13 e_w_13 => ?_))
    have r_w_13 := tq_ladd (lo := 8980) (hi := 8980) r_w_11 r_w_12 (by decide +kernel) e_w_13
    have q_w_13 : w_11 + w_12 = w_13 := e_w_13.symm
    refine lv_ldc2 (v := 96) hx hb hown (hts _ tw_1313) dX10_spelt_32 ?_
    refine lv_lsub hx hb dX10_spelt_35 (lv_topl (fun w_14 e_w_14 => ?_))
    have r_w_14 := tq_lsub (lo := 8884) (hi := 8884) r_w_13 rk_96 (by decide +kernel) e_w_14
    have q_w_14 : w_13 - (96 : Int64) = w_14 := e_w_14.symm
    refine lv_lstore (lv' := [(7, .long w_14), (0, .int p0), (1, .int p1), (2, .int p2), (3, .int p3), (4, .int p4), (5, .int p5), (6, .int p6)]) hx hb dX10_spelt_36 hl (by decide) rfl (fun ls hl => ?_)
    simp only [f_X10_spelt__31, ↓reduceIte, q_w_5, q_w_6, q_w_7, q_w_8, q_w_9, q_w_10, eq_false c_20, q_w_11, q_w_12, q_w_13, q_w_14] at hE
    exact B38 w_14 _ _ ls r_p0 r_p1 r_p2 r_p3 r_p4 r_p5 r_p6 r_w_14 hE hw (lv_sub hl [1, 2, 3, 4, 5, 6, 7, 0] rfl)
abbrev wr_X10_spelt__39 : List (Nat × Nat) := []
abbrev wa_X10_spelt__39 : List Nat := []
set_option maxHeartbeats 4000000 in
set_option maxRecDepth 100000 in
theorem c_X10_spelt__39 (l : Launch) (D : va_G) (cy : Nat → ClassId) (z : Nat → Nat) (sz : Nat) (Ps : PSI) (w0 : va_W) (hT : HT cy GG Ps w0) (p0 : Int32) (p1 : Int32) (p2 : Int32) (p3 : Int32) (p4 : Int32) (p5 : Int32) (p6 : Int32) (r_p0 : RI p0 103 103) (r_p1 : RI p1 117 117) (r_p2 : RI p2 101 101) (r_p3 : RI p3 115 115) (r_p4 : RI p4 115 115) (r_p5 : RI p5 0 0) (r_p6 : RI p6 0 0) : Met l yX10_spelt (Cond.code yX10_spelt cX10_spelt 9 (some .long) :: gT) ({ frames := 0, cells := 0, slots := 0, locals := 200 } : Room) (va_Pc [.int p0, .int p1, .int p2, .int p3, .int p4, .int p5, .int p6] (PRE D cy z w0 sz)) (va_Ql (fun (r : Int64) (u : Unit) => ((f_X10_spelt__39 p0 p1 p2 p3 p4 p5 p6) = r ∧ True) ∧ (RJ r 4137607 4137607)) (BB D cy (va_A w0 sz) (fun (u : Unit) => w0)) (va_A w0 sz)) 0 0 (va_A w0 sz) := by
  refine Met.ofW (cc := cX10_spelt) (maxL := 9) (ret := (some .long)) (by decide) rfl ?_
  intro p e s m args below meth c s₁ B hml hv
  obtain ⟨rfl, hsz, hP, hK, hD0, hSD⟩ := hv
  have hx := B.exec
  have hb := B.bytes
  have hr := B.returns
  have hlocks := B.notSynchronized
  have hts : ∀ w ∈ gT, w.before _ s = true := fun w h => atoms_spec (ws := Cond.code yX10_spelt cX10_spelt 9 (some .long) :: gT) B.pre w (List.mem_cons_of_mem _ h)
  have hown : s.vm.findClass RX10 = some m.cls := findClass_of_methodNamed B.named
  subst hsz
  have hD := hD0.self (sz := s.heap.size)
  generalize hAe : va_A w0 s.heap.size = A at hD hSD ⊢
  have hA : ∀ q : Nat, s.heap.size ≤ q → A q := fun q h => by rw [← hAe]; exact Or.inr h
  have hl := lv_entry ([.int p0, .int p1, .int p2, .int p3, .int p4, .int p5, .int p6]) (n := 9) (Nat.le_of_ble_eq_true rfl)
  rw [lg_entry_eq]
  generalize (lg_sl ([.int p0, .int p1, .int p2, .int p3, .int p4, .int p5, .int p6]) ++ List.replicate (9 - (lg_sl ([.int p0, .int p1, .int p2, .int p3, .int p4, .int p5, .int p6])).length) Slot.unset).toArray = ls at hl ⊢
  have hl : lv_has ls 9 [(0, .int p0), (1, .int p1), (2, .int p2), (3, .int p3), (4, .int p4), (5, .int p5), (6, .int p6)] := hl
  refine nameQ (fun Q hQ => ?_)
  have hw : WD D cy GG A s wr_X10_spelt__39 wa_X10_spelt__39 Ps w0 Ps w0 s.heap [] := ⟨hT, hP, hD, va_S.rf, FR.rf, hT.1, [], (List.append_nil _).symm⟩
  obtain ⟨R9, hR⟩ : ∃ q9 : Int64, f_X10_spelt__39 p0 p1 p2 p3 p4 p5 p6 = q9 := ⟨_, rfl⟩
  have hE := hR
  have B99 : ∀ (x7 : Int64) (H : Heap) (locs : List Loc) (ls : Array Slot), RI p0 103 103 → RI p1 117 117 → RI p2 101 101 → RI p3 115 115 → RI p4 115 115 → RI p5 0 0 → RI p6 0 0 → RJ x7 4137607 4137607 → f_X10_spelt__39_99 p0 p1 p2 p3 p4 p5 p6 x7 = R9 → WD D cy GG A s wr_X10_spelt__39 wa_X10_spelt__39 Ps w0 Ps w0 H locs → lv_has ls 9 [(0, .int p0), (1, .int p1), (2, .int p2), (3, .int p3), (4, .int p4), (5, .int p5), (6, .int p6), (7, .long x7)] → W p l e (headSpec (Cond.code yX10_spelt cX10_spelt 9 (some .long) :: gT) ({ frames := 0, cells := 0, slots := 0, locals := 200 } : Room)).room s m ([.int p0, .int p1, .int p2, .int p3, .int p4, .int p5, .int p6] : List Value).toArray below meth c H locs 0 0 Q (F0 m 99 ls []) := by
    intro x7 H locs ls r_p0 r_p1 r_p2 r_p3 r_p4 r_p5 r_p6 r_x7 hE hw hl
    refine lv_iload hx hb dX10_spelt_99 (lv_at hl 6 rfl) ?_
    refine lv_if_le (tgt := 120) hx hb dX10_spelt_101 (by decide) (fun c_101 => ?_) (fun c_101 => ?_)
    · refine lv_lload hx hb dX10_spelt_120 (lv_at hl 7 rfl) ?_
      simp only [f_X10_spelt__39_99, ↓reduceIte, eq_true c_101] at hE
      subst hQ
      exact W.lret (v := x7) hx hb hr (fun t ht hW => ⟨⟨x7, (), rfl, ⟨⟨(by rw [hR, ← hE]), trivial⟩, r_x7.to (by decide)⟩, by rw [ht]; exact hw.2.1, va_K.moved hW.alike hK, hw.2.2.1⟩, hw.2.2.2.1.F ht⟩) hw.2.2.2.1.2.2 dX10_spelt_122
    · have r_p6 : RI p6 1 0 := rc_lt2 rl_0 r_p6 (ti_nle c_101) (by decide)
      exact (r_p6.no (by decide)).elim
  have B78 : ∀ (x7 : Int64) (H : Heap) (locs : List Loc) (ls : Array Slot), RI p0 103 103 → RI p1 117 117 → RI p2 101 101 → RI p3 115 115 → RI p4 115 115 → RI p5 0 0 → RI p6 0 0 → RJ x7 4137607 4137607 → f_X10_spelt__39_78 p0 p1 p2 p3 p4 p5 p6 x7 = R9 → WD D cy GG A s wr_X10_spelt__39 wa_X10_spelt__39 Ps w0 Ps w0 H locs → lv_has ls 9 [(0, .int p0), (1, .int p1), (2, .int p2), (3, .int p3), (4, .int p4), (5, .int p5), (6, .int p6), (7, .long x7)] → W p l e (headSpec (Cond.code yX10_spelt cX10_spelt 9 (some .long) :: gT) ({ frames := 0, cells := 0, slots := 0, locals := 200 } : Room)).room s m ([.int p0, .int p1, .int p2, .int p3, .int p4, .int p5, .int p6] : List Value).toArray below meth c H locs 0 0 Q (F0 m 78 ls []) := by
    intro x7 H locs ls r_p0 r_p1 r_p2 r_p3 r_p4 r_p5 r_p6 r_x7 hE hw hl
    refine lv_iload hx hb dX10_spelt_78 (lv_at hl 5 rfl) ?_
    refine lv_if_le (tgt := 99) hx hb dX10_spelt_80 (by decide) (fun c_80 => ?_) (fun c_80 => ?_)
    · simp only [f_X10_spelt__39_78, ↓reduceIte, eq_true c_80] at hE
      exact B99 x7 _ _ ls r_p0 r_p1 r_p2 r_p3 r_p4 r_p5 r_p6 r_x7 hE hw hl
    · have r_p5 : RI p5 1 0 := rc_lt2 rl_0 r_p5 (ti_nle c_80) (by decide)
      exact (r_p5.no (by decide)).elim
  have B57 : ∀ (x7 : Int64) (H : Heap) (locs : List Loc) (ls : Array Slot), RI p0 103 103 → RI p1 117 117 → RI p2 101 101 → RI p3 115 115 → RI p4 115 115 → RI p5 0 0 → RI p6 0 0 → RJ x7 153244 153244 → f_X10_spelt__39_57 p0 p1 p2 p3 p4 p5 p6 x7 = R9 → WD D cy GG A s wr_X10_spelt__39 wa_X10_spelt__39 Ps w0 Ps w0 H locs → lv_has ls 9 [(0, .int p0), (1, .int p1), (2, .int p2), (3, .int p3), (4, .int p4), (5, .int p5), (6, .int p6), (7, .long x7)] → W p l e (headSpec (Cond.code yX10_spelt cX10_spelt 9 (some .long) :: gT) ({ frames := 0, cells := 0, slots := 0, locals := 200 } : Room)).room s m ([.int p0, .int p1, .int p2, .int p3, .int p4, .int p5, .int p6] : List Value).toArray below meth c H locs 0 0 Q (F0 m 57 ls []) := by
    intro x7 H locs ls r_p0 r_p1 r_p2 r_p3 r_p4 r_p5 r_p6 r_x7 hE hw hl
    refine lv_iload hx hb dX10_spelt_57 (lv_at hl 4 rfl) ?_
    refine lv_if_le (tgt := 78) hx hb dX10_spelt_59 (by decide) (fun c_59 => ?_) (fun c_59 => ?_)
    · have r_p4 : RI p4 115 0 := rc_le1 r_p4 rl_0 (ti_le c_59) (by decide)
      exact (r_p4.no (by decide)).elim
    · refine lv_ldc2 (v := 27) hx hb hown (hts _ tw_1312) dX10_spelt_62 ?_
      refine lv_lload hx hb dX10_spelt_65 (lv_at hl 7 rfl) ?_
      refine lv_lmul hx hb dX10_spelt_67 (lv_topl (fun w_1 e_w_1 => ?_))
      have r_w_1 := tq_lmul (lo := 4137588) (hi := 4137588) rk_27 r_x7 (by decide +kernel) e_w_1
      have q_w_1 : (27 : Int64) * x7 = w_1 := e_w_1.symm
      refine lv_iload hx hb dX10_spelt_68 (lv_at hl 4 rfl) ?_
      obtain ⟨w_2, e_w_2⟩ : ∃ q9 : Int64, (p4 : Int32).toInt64 = q9 := ⟨_, rfl⟩
      refine lv_i2l (v := w_2) hx hb dX10_spelt_70 e_w_2 ?_
      have r_w_2 := tq_i2l r_p4 e_w_2
      have q_w_2 : Int32.toInt64 p4 = w_2 := e_w_2
      refine lv_ladd hx hb dX10_spelt_71 (lv_topl (fun w_3 e_w_3 => ?_))
      have r_w_3 := tq_ladd (lo := 4137703) (hi := 4137703) r_w_1 r_w_2 (by decide +kernel) e_w_3
      have q_w_3 : w_1 + w_2 = w_3 := e_w_3.symm
      refine lv_ldc2 (v := 96) hx hb hown (hts _ tw_1313) dX10_spelt_72 ?_
      refine lv_lsub hx hb dX10_spelt_75 (lv_topl (fun w_4 e_w_4 => ?_))
      have r_w_4 := tq_lsub (lo := 4137607) (hi := 4137607) r_w_3 rk_96 (by decide +kernel) e_w_4
      have q_w_4 : w_3 - (96 : Int64) = w_4 := e_w_4.symm
      refine lv_lstore (lv' := [(7, .long w_4), (0, .int p0), (1, .int p1), (2, .int p2), (3, .int p3), (4, .int p4), (5, .int p5), (6, .int p6)]) hx hb dX10_spelt_76 hl (by decide) rfl (fun ls hl => ?_)
      simp only [f_X10_spelt__39_57, ↓reduceIte, eq_false c_59, q_w_1, q_w_2, q_w_3, q_w_4] at hE
      exact B78 w_4 _ _ ls r_p0 r_p1 r_p2 r_p3 r_p4 r_p5 r_p6 r_w_4 hE hw (lv_sub hl [1, 2, 3, 4, 5, 6, 7, 0] rfl)
  have B38 : ∀ (x7 : Int64) (H : Heap) (locs : List Loc) (ls : Array Slot), RI p0 103 103 → RI p1 117 117 → RI p2 101 101 → RI p3 115 115 → RI p4 115 115 → RI p5 0 0 → RI p6 0 0 → RJ x7 5675 5675 → f_X10_spelt__39_38 p0 p1 p2 p3 p4 p5 p6 x7 = R9 → WD D cy GG A s wr_X10_spelt__39 wa_X10_spelt__39 Ps w0 Ps w0 H locs → lv_has ls 9 [(0, .int p0), (1, .int p1), (2, .int p2), (3, .int p3), (4, .int p4), (5, .int p5), (6, .int p6), (7, .long x7)] → W p l e (headSpec (Cond.code yX10_spelt cX10_spelt 9 (some .long) :: gT) ({ frames := 0, cells := 0, slots := 0, locals := 200 } : Room)).room s m ([.int p0, .int p1, .int p2, .int p3, .int p4, .int p5, .int p6] : List Value).toArray below meth c H locs 0 0 Q (F0 m 38 ls []) := by
    intro x7 H locs ls r_p0 r_p1 r_p2 r_p3 r_p4 r_p5 r_p6 r_x7 hE hw hl
    refine lv_iload_n hx hb dX10_spelt_38 rfl (lv_at hl 3 rfl) ?_
    refine lv_if_le (tgt := 57) hx hb dX10_spelt_39 (by decide) (fun c_39 => ?_) (fun c_39 => ?_)
    · have r_p3 : RI p3 115 0 := rc_le1 r_p3 rl_0 (ti_le c_39) (by decide)
      exact (r_p3.no (by decide)).elim
    · refine lv_ldc2 (v := 27) hx hb hown (hts _ tw_1312) dX10_spelt_42 ?_
      refine lv_lload hx hb dX10_spelt_45 (lv_at hl 7 rfl) ?_
      refine lv_lmul hx hb dX10_spelt_47 (lv_topl (fun w_5 e_w_5 => ?_))
      have r_w_5 := tq_lmul (lo := 153225) (hi := 153225) rk_27 r_x7 (by decide +kernel) e_w_5
      have q_w_5 : (27 : Int64) * x7 = w_5 := e_w_5.symm
      refine lv_iload_n hx hb dX10_spelt_48 rfl (lv_at hl 3 rfl) ?_
      obtain ⟨w_6, e_w_6⟩ : ∃ q9 : Int64, (p3 : Int32).toInt64 = q9 := ⟨_, rfl⟩
      refine lv_i2l (v := w_6) hx hb dX10_spelt_49 e_w_6 ?_
      have r_w_6 := tq_i2l r_p3 e_w_6
      have q_w_6 : Int32.toInt64 p3 = w_6 := e_w_6
      refine lv_ladd hx hb dX10_spelt_50 (lv_topl (fun w_7 e_w_7 => ?_))
      have r_w_7 := tq_ladd (lo := 153340) (hi := 153340) r_w_5 r_w_6 (by decide +kernel) e_w_7
      have q_w_7 : w_5 + w_6 = w_7 := e_w_7.symm
      refine lv_ldc2 (v := 96) hx hb hown (hts _ tw_1313) dX10_spelt_51 ?_
      refine lv_lsub hx hb dX10_spelt_54 (lv_topl (fun w_8 e_w_8 => ?_))
      have r_w_8 := tq_lsub (lo := 153244) (hi := 153244) r_w_7 rk_96 (by decide +kernel) e_w_8
      have q_w_8 : w_7 - (96 : Int64) = w_8 := e_w_8.symm
      refine lv_lstore (lv' := [(7, .long w_8), (0, .int p0), (1, .int p1), (2, .int p2), (3, .int p3), (4, .int p4), (5, .int p5), (6, .int p6)]) hx hb dX10_spelt_55 hl (by decide) rfl (fun ls hl => ?_)
      simp only [f_X10_spelt__39_38, ↓reduceIte, eq_false c_39, q_w_5, q_w_6, q_w_7, q_w_8] at hE
      exact B57 w_8 _ _ ls r_p0 r_p1 r_p2 r_p3 r_p4 r_p5 r_p6 r_w_8 hE hw (lv_sub hl [1, 2, 3, 4, 5, 6, 7, 0] rfl)
  refine lv_ldc2 (v := 27) hx hb hown (hts _ tw_1312) dX10_spelt_0 ?_
  refine lv_iload_n hx hb dX10_spelt_3 rfl (lv_at hl 0 rfl) ?_
  obtain ⟨w_9, e_w_9⟩ : ∃ q9 : Int64, (p0 : Int32).toInt64 = q9 := ⟨_, rfl⟩
  refine lv_i2l (v := w_9) hx hb dX10_spelt_4 e_w_9 ?_
  have r_w_9 := tq_i2l r_p0 e_w_9
  have q_w_9 : Int32.toInt64 p0 = w_9 := e_w_9
  refine lv_ldc2 (v := 96) hx hb hown (hts _ tw_1313) dX10_spelt_5 ?_
  refine lv_lsub hx hb dX10_spelt_8 (lv_topl (fun w_10 e_w_10 => ?_))
  have r_w_10 := tq_lsub (lo := 7) (hi := 7) r_w_9 rk_96 (by decide +kernel) e_w_10
  have q_w_10 : w_9 - (96 : Int64) = w_10 := e_w_10.symm
  refine lv_lmul hx hb dX10_spelt_9 (lv_topl (fun w_11 e_w_11 => ?_))
  have r_w_11 := tq_lmul (lo := 189) (hi := 189) rk_27 r_w_10 (by decide +kernel) e_w_11
  have q_w_11 : (27 : Int64) * w_10 = w_11 := e_w_11.symm
  refine lv_iload_n hx hb dX10_spelt_10 rfl (lv_at hl 1 rfl) ?_
  obtain ⟨w_12, e_w_12⟩ : ∃ q9 : Int64, (p1 : Int32).toInt64 = q9 := ⟨_, rfl⟩
  refine lv_i2l (v := w_12) hx hb dX10_spelt_11 e_w_12 ?_
  have r_w_12 := tq_i2l r_p1 e_w_12
  have q_w_12 : Int32.toInt64 p1 = w_12 := e_w_12
  refine lv_ladd hx hb dX10_spelt_12 (lv_topl (fun w_13 e_w_13 => ?_))
  have r_w_13 := tq_ladd (lo := 306) (hi := 306) r_w_11 r_w_12 (by decide +kernel) e_w_13
  have q_w_13 : w_11 + w_12 = w_13 := e_w_13.symm
  refine lv_ldc2 (v := 96) hx hb hown (hts _ tw_1313) dX10_spelt_13 ?_
  refine lv_lsub hx hb dX10_spelt_16 (lv_topl (fun w_14 e_w_14 => ?_))
  have r_w_14 := tq_lsub (lo := 210) (hi := 210) r_w_13 rk_96 (by decide +kernel) e_w_14
  have q_w_14 : w_13 - (96 : Int64) = w_14 := e_w_14.symm
  refine lv_lstore (lv' := [(7, .long w_14), (0, .int p0), (1, .int p1), (2, .int p2), (3, .int p3), (4, .int p4), (5, .int p5), (6, .int p6)]) hx hb dX10_spelt_17 hl (by decide) rfl (fun ls hl => ?_)
  refine lv_iload_n hx hb dX10_spelt_19 rfl (lv_at hl 3 rfl) ?_
  refine lv_if_le (tgt := 38) hx hb dX10_spelt_20 (by decide) (fun c_20 => ?_) (fun c_20 => ?_)
  · have r_p2 : RI p2 101 0 := rc_le1 r_p2 rl_0 (ti_le c_20) (by decide)
    exact (r_p2.no (by decide)).elim
  · refine lv_ldc2 (v := 27) hx hb hown (hts _ tw_1312) dX10_spelt_23 ?_
    refine lv_lload hx hb dX10_spelt_26 (lv_at hl 0 rfl) ?_
    refine lv_lmul hx hb dX10_spelt_28 (lv_topl (fun w_15 e_w_15 => ?_))
    have r_w_15 := tq_lmul (lo := 5670) (hi := 5670) rk_27 r_w_14 (by decide +kernel) e_w_15
    have q_w_15 : (27 : Int64) * w_14 = w_15 := e_w_15.symm
    refine lv_iload_n hx hb dX10_spelt_29 rfl (lv_at hl 3 rfl) ?_
    obtain ⟨w_16, e_w_16⟩ : ∃ q9 : Int64, (p2 : Int32).toInt64 = q9 := ⟨_, rfl⟩
    refine lv_i2l (v := w_16) hx hb dX10_spelt_30 e_w_16 ?_
    have r_w_16 := tq_i2l r_p2 e_w_16
    have q_w_16 : Int32.toInt64 p2 = w_16 := e_w_16
    refine lv_ladd hx hb dX10_spelt_31 (lv_topl (fun w_17 e_w_17 => ?_))
    have r_w_17 := tq_ladd (lo := 5771) (hi := 5771) r_w_15 r_w_16 (by decide +kernel) e_w_17
    have q_w_17 : w_15 + w_16 = w_17 := e_w_17.symm
    refine lv_ldc2 (v := 96) hx hb hown (hts _ tw_1313) dX10_spelt_32 ?_
    refine lv_lsub hx hb dX10_spelt_35 (lv_topl (fun w_18 e_w_18 => ?_))
    have r_w_18 := tq_lsub (lo := 5675) (hi := 5675) r_w_17 rk_96 (by decide +kernel) e_w_18
    have q_w_18 : w_17 - (96 : Int64) = w_18 := e_w_18.symm
    refine lv_lstore (lv' := [(7, .long w_18), (0, .int p0), (1, .int p1), (2, .int p2), (3, .int p3), (4, .int p4), (5, .int p5), (6, .int p6)]) hx hb dX10_spelt_36 hl (by decide) rfl (fun ls hl => ?_)
    simp only [f_X10_spelt__39, ↓reduceIte, q_w_9, q_w_10, q_w_11, q_w_12, q_w_13, q_w_14, eq_false c_20, q_w_15, q_w_16, q_w_17, q_w_18] at hE
    exact B38 w_18 _ _ ls r_p0 r_p1 r_p2 r_p3 r_p4 r_p5 r_p6 r_w_18 hE hw (lv_sub hl [1, 2, 3, 4, 5, 6, 7, 0] rfl)
abbrev wr_X10_spelt__40 : List (Nat × Nat) := []
abbrev wa_X10_spelt__40 : List Nat := []
set_option maxHeartbeats 4000000 in
set_option maxRecDepth 100000 in
theorem c_X10_spelt__40 (l : Launch) (D : va_G) (cy : Nat → ClassId) (z : Nat → Nat) (sz : Nat) (Ps : PSI) (w0 : va_W) (hT : HT cy GG Ps w0) (p0 : Int32) (p1 : Int32) (p2 : Int32) (p3 : Int32) (p4 : Int32) (p5 : Int32) (p6 : Int32) (r_p0 : RI p0 106 106) (r_p1 : RI p1 111 111) (r_p2 : RI p2 105 105) (r_p3 : RI p3 110 110) (r_p4 : RI p4 115 115) (r_p5 : RI p5 0 0) (r_p6 : RI p6 0 0) : Met l yX10_spelt (Cond.code yX10_spelt cX10_spelt 9 (some .long) :: gT) ({ frames := 0, cells := 0, slots := 0, locals := 200 } : Room) (va_Pc [.int p0, .int p1, .int p2, .int p3, .int p4, .int p5, .int p6] (PRE D cy z w0 sz)) (va_Ql (fun (r : Int64) (u : Unit) => ((f_X10_spelt__39 p0 p1 p2 p3 p4 p5 p6) = r ∧ True) ∧ (RJ r 5616613 5616613)) (BB D cy (va_A w0 sz) (fun (u : Unit) => w0)) (va_A w0 sz)) 0 0 (va_A w0 sz) := by
  refine Met.ofW (cc := cX10_spelt) (maxL := 9) (ret := (some .long)) (by decide) rfl ?_
  intro p e s m args below meth c s₁ B hml hv
  obtain ⟨rfl, hsz, hP, hK, hD0, hSD⟩ := hv
  have hx := B.exec
  have hb := B.bytes
  have hr := B.returns
  have hlocks := B.notSynchronized
  have hts : ∀ w ∈ gT, w.before _ s = true := fun w h => atoms_spec (ws := Cond.code yX10_spelt cX10_spelt 9 (some .long) :: gT) B.pre w (List.mem_cons_of_mem _ h)
  have hown : s.vm.findClass RX10 = some m.cls := findClass_of_methodNamed B.named
  subst hsz
  have hD := hD0.self (sz := s.heap.size)
  generalize hAe : va_A w0 s.heap.size = A at hD hSD ⊢
  have hA : ∀ q : Nat, s.heap.size ≤ q → A q := fun q h => by rw [← hAe]; exact Or.inr h
  have hl := lv_entry ([.int p0, .int p1, .int p2, .int p3, .int p4, .int p5, .int p6]) (n := 9) (Nat.le_of_ble_eq_true rfl)
  rw [lg_entry_eq]
  generalize (lg_sl ([.int p0, .int p1, .int p2, .int p3, .int p4, .int p5, .int p6]) ++ List.replicate (9 - (lg_sl ([.int p0, .int p1, .int p2, .int p3, .int p4, .int p5, .int p6])).length) Slot.unset).toArray = ls at hl ⊢
  have hl : lv_has ls 9 [(0, .int p0), (1, .int p1), (2, .int p2), (3, .int p3), (4, .int p4), (5, .int p5), (6, .int p6)] := hl
  refine nameQ (fun Q hQ => ?_)
  have hw : WD D cy GG A s wr_X10_spelt__40 wa_X10_spelt__40 Ps w0 Ps w0 s.heap [] := ⟨hT, hP, hD, va_S.rf, FR.rf, hT.1, [], (List.append_nil _).symm⟩
  obtain ⟨R9, hR⟩ : ∃ q9 : Int64, f_X10_spelt__39 p0 p1 p2 p3 p4 p5 p6 = q9 := ⟨_, rfl⟩
  have hE := hR
  have B99 : ∀ (x7 : Int64) (H : Heap) (locs : List Loc) (ls : Array Slot), RI p0 106 106 → RI p1 111 111 → RI p2 105 105 → RI p3 110 110 → RI p4 115 115 → RI p5 0 0 → RI p6 0 0 → RJ x7 5616613 5616613 → f_X10_spelt__39_99 p0 p1 p2 p3 p4 p5 p6 x7 = R9 → WD D cy GG A s wr_X10_spelt__40 wa_X10_spelt__40 Ps w0 Ps w0 H locs → lv_has ls 9 [(0, .int p0), (1, .int p1), (2, .int p2), (3, .int p3), (4, .int p4), (5, .int p5), (6, .int p6), (7, .long x7)] → W p l e (headSpec (Cond.code yX10_spelt cX10_spelt 9 (some .long) :: gT) ({ frames := 0, cells := 0, slots := 0, locals := 200 } : Room)).room s m ([.int p0, .int p1, .int p2, .int p3, .int p4, .int p5, .int p6] : List Value).toArray below meth c H locs 0 0 Q (F0 m 99 ls []) := by
    intro x7 H locs ls r_p0 r_p1 r_p2 r_p3 r_p4 r_p5 r_p6 r_x7 hE hw hl
    refine lv_iload hx hb dX10_spelt_99 (lv_at hl 6 rfl) ?_
    refine lv_if_le (tgt := 120) hx hb dX10_spelt_101 (by decide) (fun c_101 => ?_) (fun c_101 => ?_)
    · refine lv_lload hx hb dX10_spelt_120 (lv_at hl 7 rfl) ?_
      simp only [f_X10_spelt__39_99, ↓reduceIte, eq_true c_101] at hE
      subst hQ
      exact W.lret (v := x7) hx hb hr (fun t ht hW => ⟨⟨x7, (), rfl, ⟨⟨(by rw [hR, ← hE]), trivial⟩, r_x7.to (by decide)⟩, by rw [ht]; exact hw.2.1, va_K.moved hW.alike hK, hw.2.2.1⟩, hw.2.2.2.1.F ht⟩) hw.2.2.2.1.2.2 dX10_spelt_122
    · have r_p6 : RI p6 1 0 := rc_lt2 rl_0 r_p6 (ti_nle c_101) (by decide)
      exact (r_p6.no (by decide)).elim
  have B78 : ∀ (x7 : Int64) (H : Heap) (locs : List Loc) (ls : Array Slot), RI p0 106 106 → RI p1 111 111 → RI p2 105 105 → RI p3 110 110 → RI p4 115 115 → RI p5 0 0 → RI p6 0 0 → RJ x7 5616613 5616613 → f_X10_spelt__39_78 p0 p1 p2 p3 p4 p5 p6 x7 = R9 → WD D cy GG A s wr_X10_spelt__40 wa_X10_spelt__40 Ps w0 Ps w0 H locs → lv_has ls 9 [(0, .int p0), (1, .int p1), (2, .int p2), (3, .int p3), (4, .int p4), (5, .int p5), (6, .int p6), (7, .long x7)] → W p l e (headSpec (Cond.code yX10_spelt cX10_spelt 9 (some .long) :: gT) ({ frames := 0, cells := 0, slots := 0, locals := 200 } : Room)).room s m ([.int p0, .int p1, .int p2, .int p3, .int p4, .int p5, .int p6] : List Value).toArray below meth c H locs 0 0 Q (F0 m 78 ls []) := by
    intro x7 H locs ls r_p0 r_p1 r_p2 r_p3 r_p4 r_p5 r_p6 r_x7 hE hw hl
    refine lv_iload hx hb dX10_spelt_78 (lv_at hl 5 rfl) ?_
    refine lv_if_le (tgt := 99) hx hb dX10_spelt_80 (by decide) (fun c_80 => ?_) (fun c_80 => ?_)
    · simp only [f_X10_spelt__39_78, ↓reduceIte, eq_true c_80] at hE
      exact B99 x7 _ _ ls r_p0 r_p1 r_p2 r_p3 r_p4 r_p5 r_p6 r_x7 hE hw hl
    · have r_p5 : RI p5 1 0 := rc_lt2 rl_0 r_p5 (ti_nle c_80) (by decide)
      exact (r_p5.no (by decide)).elim
  have B57 : ∀ (x7 : Int64) (H : Heap) (locs : List Loc) (ls : Array Slot), RI p0 106 106 → RI p1 111 111 → RI p2 105 105 → RI p3 110 110 → RI p4 115 115 → RI p5 0 0 → RI p6 0 0 → RJ x7 208022 208022 → f_X10_spelt__39_57 p0 p1 p2 p3 p4 p5 p6 x7 = R9 → WD D cy GG A s wr_X10_spelt__40 wa_X10_spelt__40 Ps w0 Ps w0 H locs → lv_has ls 9 [(0, .int p0), (1, .int p1), (2, .int p2), (3, .int p3), (4, .int p4), (5, .int p5), (6, .int p6), (7, .long x7)] → W p l e (headSpec (Cond.code yX10_spelt cX10_spelt 9 (some .long) :: gT) ({ frames := 0, cells := 0, slots := 0, locals := 200 } : Room)).room s m ([.int p0, .int p1, .int p2, .int p3, .int p4, .int p5, .int p6] : List Value).toArray below meth c H locs 0 0 Q (F0 m 57 ls []) := by
    intro x7 H locs ls r_p0 r_p1 r_p2 r_p3 r_p4 r_p5 r_p6 r_x7 hE hw hl
    refine lv_iload hx hb dX10_spelt_57 (lv_at hl 4 rfl) ?_
    refine lv_if_le (tgt := 78) hx hb dX10_spelt_59 (by decide) (fun c_59 => ?_) (fun c_59 => ?_)
    · have r_p4 : RI p4 115 0 := rc_le1 r_p4 rl_0 (ti_le c_59) (by decide)
      exact (r_p4.no (by decide)).elim
    · refine lv_ldc2 (v := 27) hx hb hown (hts _ tw_1312) dX10_spelt_62 ?_
      refine lv_lload hx hb dX10_spelt_65 (lv_at hl 7 rfl) ?_
      refine lv_lmul hx hb dX10_spelt_67 (lv_topl (fun w_1 e_w_1 => ?_))
      have r_w_1 := tq_lmul (lo := 5616594) (hi := 5616594) rk_27 r_x7 (by decide +kernel) e_w_1
      have q_w_1 : (27 : Int64) * x7 = w_1 := e_w_1.symm
      refine lv_iload hx hb dX10_spelt_68 (lv_at hl 4 rfl) ?_
      obtain ⟨w_2, e_w_2⟩ : ∃ q9 : Int64, (p4 : Int32).toInt64 = q9 := ⟨_, rfl⟩
      refine lv_i2l (v := w_2) hx hb dX10_spelt_70 e_w_2 ?_
      have r_w_2 := tq_i2l r_p4 e_w_2
      have q_w_2 : Int32.toInt64 p4 = w_2 := e_w_2
      refine lv_ladd hx hb dX10_spelt_71 (lv_topl (fun w_3 e_w_3 => ?_))
      have r_w_3 := tq_ladd (lo := 5616709) (hi := 5616709) r_w_1 r_w_2 (by decide +kernel) e_w_3
      have q_w_3 : w_1 + w_2 = w_3 := e_w_3.symm
      refine lv_ldc2 (v := 96) hx hb hown (hts _ tw_1313) dX10_spelt_72 ?_
      refine lv_lsub hx hb dX10_spelt_75 (lv_topl (fun w_4 e_w_4 => ?_))
      have r_w_4 := tq_lsub (lo := 5616613) (hi := 5616613) r_w_3 rk_96 (by decide +kernel) e_w_4
      have q_w_4 : w_3 - (96 : Int64) = w_4 := e_w_4.symm
      refine lv_lstore (lv' := [(7, .long w_4), (0, .int p0), (1, .int p1), (2, .int p2), (3, .int p3), (4, .int p4), (5, .int p5), (6, .int p6)]) hx hb dX10_spelt_76 hl (by decide) rfl (fun ls hl => ?_)
      simp only [f_X10_spelt__39_57, ↓reduceIte, eq_false c_59, q_w_1, q_w_2, q_w_3, q_w_4] at hE
      exact B78 w_4 _ _ ls r_p0 r_p1 r_p2 r_p3 r_p4 r_p5 r_p6 r_w_4 hE hw (lv_sub hl [1, 2, 3, 4, 5, 6, 7, 0] rfl)
  have B38 : ∀ (x7 : Int64) (H : Heap) (locs : List Loc) (ls : Array Slot), RI p0 106 106 → RI p1 111 111 → RI p2 105 105 → RI p3 110 110 → RI p4 115 115 → RI p5 0 0 → RI p6 0 0 → RJ x7 7704 7704 → f_X10_spelt__39_38 p0 p1 p2 p3 p4 p5 p6 x7 = R9 → WD D cy GG A s wr_X10_spelt__40 wa_X10_spelt__40 Ps w0 Ps w0 H locs → lv_has ls 9 [(0, .int p0), (1, .int p1), (2, .int p2), (3, .int p3), (4, .int p4), (5, .int p5), (6, .int p6), (7, .long x7)] → W p l e (headSpec (Cond.code yX10_spelt cX10_spelt 9 (some .long) :: gT) ({ frames := 0, cells := 0, slots := 0, locals := 200 } : Room)).room s m ([.int p0, .int p1, .int p2, .int p3, .int p4, .int p5, .int p6] : List Value).toArray below meth c H locs 0 0 Q (F0 m 38 ls []) := by
    intro x7 H locs ls r_p0 r_p1 r_p2 r_p3 r_p4 r_p5 r_p6 r_x7 hE hw hl
    refine lv_iload_n hx hb dX10_spelt_38 rfl (lv_at hl 3 rfl) ?_
    refine lv_if_le (tgt := 57) hx hb dX10_spelt_39 (by decide) (fun c_39 => ?_) (fun c_39 => ?_)
    · have r_p3 : RI p3 110 0 := rc_le1 r_p3 rl_0 (ti_le c_39) (by decide)
      exact (r_p3.no (by decide)).elim
    · refine lv_ldc2 (v := 27) hx hb hown (hts _ tw_1312) dX10_spelt_42 ?_
      refine lv_lload hx hb dX10_spelt_45 (lv_at hl 7 rfl) ?_
      refine lv_lmul hx hb dX10_spelt_47 (lv_topl (fun w_5 e_w_5 => ?_))
      have r_w_5 := tq_lmul (lo := 208008) (hi := 208008) rk_27 r_x7 (by decide +kernel) e_w_5
      have q_w_5 : (27 : Int64) * x7 = w_5 := e_w_5.symm
      refine lv_iload_n hx hb dX10_spelt_48 rfl (lv_at hl 3 rfl) ?_
      obtain ⟨w_6, e_w_6⟩ : ∃ q9 : Int64, (p3 : Int32).toInt64 = q9 := ⟨_, rfl⟩
      refine lv_i2l (v := w_6) hx hb dX10_spelt_49 e_w_6 ?_
      have r_w_6 := tq_i2l r_p3 e_w_6
      have q_w_6 : Int32.toInt64 p3 = w_6 := e_w_6
      refine lv_ladd hx hb dX10_spelt_50 (lv_topl (fun w_7 e_w_7 => ?_))
      have r_w_7 := tq_ladd (lo := 208118) (hi := 208118) r_w_5 r_w_6 (by decide +kernel) e_w_7
      have q_w_7 : w_5 + w_6 = w_7 := e_w_7.symm
      refine lv_ldc2 (v := 96) hx hb hown (hts _ tw_1313) dX10_spelt_51 ?_
      refine lv_lsub hx hb dX10_spelt_54 (lv_topl (fun w_8 e_w_8 => ?_))
      have r_w_8 := tq_lsub (lo := 208022) (hi := 208022) r_w_7 rk_96 (by decide +kernel) e_w_8
      have q_w_8 : w_7 - (96 : Int64) = w_8 := e_w_8.symm
      refine lv_lstore (lv' := [(7, .long w_8), (0, .int p0), (1, .int p1), (2, .int p2), (3, .int p3), (4, .int p4), (5, .int p5), (6, .int p6)]) hx hb dX10_spelt_55 hl (by decide) rfl (fun ls hl => ?_)
      simp only [f_X10_spelt__39_38, ↓reduceIte, eq_false c_39, q_w_5, q_w_6, q_w_7, q_w_8] at hE
      exact B57 w_8 _ _ ls r_p0 r_p1 r_p2 r_p3 r_p4 r_p5 r_p6 r_w_8 hE hw (lv_sub hl [1, 2, 3, 4, 5, 6, 7, 0] rfl)
  refine lv_ldc2 (v := 27) hx hb hown (hts _ tw_1312) dX10_spelt_0 ?_
  refine lv_iload_n hx hb dX10_spelt_3 rfl (lv_at hl 0 rfl) ?_
  obtain ⟨w_9, e_w_9⟩ : ∃ q9 : Int64, (p0 : Int32).toInt64 = q9 := ⟨_, rfl⟩
  refine lv_i2l (v := w_9) hx hb dX10_spelt_4 e_w_9 ?_
  have r_w_9 := tq_i2l r_p0 e_w_9
  have q_w_9 : Int32.toInt64 p0 = w_9 := e_w_9
  refine lv_ldc2 (v := 96) hx hb hown (hts _ tw_1313) dX10_spelt_5 ?_
  refine lv_lsub hx hb dX10_spelt_8 (lv_topl (fun w_10 e_w_10 => ?_))
  have r_w_10 := tq_lsub (lo := 10) (hi := 10) r_w_9 rk_96 (by decide +kernel) e_w_10
  have q_w_10 : w_9 - (96 : Int64) = w_10 := e_w_10.symm
  refine lv_lmul hx hb dX10_spelt_9 (lv_topl (fun w_11 e_w_11 => ?_))
  have r_w_11 := tq_lmul (lo := 270) (hi := 270) rk_27 r_w_10 (by decide +kernel) e_w_11
  have q_w_11 : (27 : Int64) * w_10 = w_11 := e_w_11.symm
  refine lv_iload_n hx hb dX10_spelt_10 rfl (lv_at hl 1 rfl) ?_
  obtain ⟨w_12, e_w_12⟩ : ∃ q9 : Int64, (p1 : Int32).toInt64 = q9 := ⟨_, rfl⟩
  refine lv_i2l (v := w_12) hx hb dX10_spelt_11 e_w_12 ?_
  have r_w_12 := tq_i2l r_p1 e_w_12
  have q_w_12 : Int32.toInt64 p1 = w_12 := e_w_12
  refine lv_ladd hx hb dX10_spelt_12 (lv_topl (fun w_13 e_w_13 => ?_))
  have r_w_13 := tq_ladd (lo := 381) (hi := 381) r_w_11 r_w_12 (by decide +kernel) e_w_13
  have q_w_13 : w_11 + w_12 = w_13 := e_w_13.symm
  refine lv_ldc2 (v := 96) hx hb hown (hts _ tw_1313) dX10_spelt_13 ?_
  refine lv_lsub hx hb dX10_spelt_16 (lv_topl (fun w_14 e_w_14 => ?_))
  have r_w_14 := tq_lsub (lo := 285) (hi := 285) r_w_13 rk_96 (by decide +kernel) e_w_14
  have q_w_14 : w_13 - (96 : Int64) = w_14 := e_w_14.symm
  refine lv_lstore (lv' := [(7, .long w_14), (0, .int p0), (1, .int p1), (2, .int p2), (3, .int p3), (4, .int p4), (5, .int p5), (6, .int p6)]) hx hb dX10_spelt_17 hl (by decide) rfl (fun ls hl => ?_)
  refine lv_iload_n hx hb dX10_spelt_19 rfl (lv_at hl 3 rfl) ?_
  refine lv_if_le (tgt := 38) hx hb dX10_spelt_20 (by decide) (fun c_20 => ?_) (fun c_20 => ?_)
  · have r_p2 : RI p2 105 0 := rc_le1 r_p2 rl_0 (ti_le c_20) (by decide)
    exact (r_p2.no (by decide)).elim
  · refine lv_ldc2 (v := 27) hx hb hown (hts _ tw_1312) dX10_spelt_23 ?_
    refine lv_lload hx hb dX10_spelt_26 (lv_at hl 0 rfl) ?_
    refine lv_lmul hx hb dX10_spelt_28 (lv_topl (fun w_15 e_w_15 => ?_))
    have r_w_15 := tq_lmul (lo := 7695) (hi := 7695) rk_27 r_w_14 (by decide +kernel) e_w_15
    have q_w_15 : (27 : Int64) * w_14 = w_15 := e_w_15.symm
    refine lv_iload_n hx hb dX10_spelt_29 rfl (lv_at hl 3 rfl) ?_
    obtain ⟨w_16, e_w_16⟩ : ∃ q9 : Int64, (p2 : Int32).toInt64 = q9 := ⟨_, rfl⟩
    refine lv_i2l (v := w_16) hx hb dX10_spelt_30 e_w_16 ?_
    have r_w_16 := tq_i2l r_p2 e_w_16
    have q_w_16 : Int32.toInt64 p2 = w_16 := e_w_16
    refine lv_ladd hx hb dX10_spelt_31 (lv_topl (fun w_17 e_w_17 => ?_))
    have r_w_17 := tq_ladd (lo := 7800) (hi := 7800) r_w_15 r_w_16 (by decide +kernel) e_w_17
    have q_w_17 : w_15 + w_16 = w_17 := e_w_17.symm
    refine lv_ldc2 (v := 96) hx hb hown (hts _ tw_1313) dX10_spelt_32 ?_
    refine lv_lsub hx hb dX10_spelt_35 (lv_topl (fun w_18 e_w_18 => ?_))
    have r_w_18 := tq_lsub (lo := 7704) (hi := 7704) r_w_17 rk_96 (by decide +kernel) e_w_18
    have q_w_18 : w_17 - (96 : Int64) = w_18 := e_w_18.symm
    refine lv_lstore (lv' := [(7, .long w_18), (0, .int p0), (1, .int p1), (2, .int p2), (3, .int p3), (4, .int p4), (5, .int p5), (6, .int p6)]) hx hb dX10_spelt_36 hl (by decide) rfl (fun ls hl => ?_)
    simp only [f_X10_spelt__39, ↓reduceIte, q_w_9, q_w_10, q_w_11, q_w_12, q_w_13, q_w_14, eq_false c_20, q_w_15, q_w_16, q_w_17, q_w_18] at hE
    exact B38 w_18 _ _ ls r_p0 r_p1 r_p2 r_p3 r_p4 r_p5 r_p6 r_w_18 hE hw (lv_sub hl [1, 2, 3, 4, 5, 6, 7, 0] rfl)
abbrev wr_X10_spelt__41 : List (Nat × Nat) := []
abbrev wa_X10_spelt__41 : List Nat := []
set_option maxHeartbeats 4000000 in
set_option maxRecDepth 100000 in
theorem c_X10_spelt__41 (l : Launch) (D : va_G) (cy : Nat → ClassId) (z : Nat → Nat) (sz : Nat) (Ps : PSI) (w0 : va_W) (hT : HT cy GG Ps w0) (p0 : Int32) (p1 : Int32) (p2 : Int32) (p3 : Int32) (p4 : Int32) (p5 : Int32) (p6 : Int32) (r_p0 : RI p0 115 115) (r_p1 : RI p1 116 116) (r_p2 : RI p2 97 97) (r_p3 : RI p3 110 110) (r_p4 : RI p4 100 100) (r_p5 : RI p5 115 115) (r_p6 : RI p6 0 0) : Met l yX10_spelt (Cond.code yX10_spelt cX10_spelt 9 (some .long) :: gT) ({ frames := 0, cells := 0, slots := 0, locals := 200 } : Room) (va_Pc [.int p0, .int p1, .int p2, .int p3, .int p4, .int p5, .int p6] (PRE D cy z w0 sz)) (va_Ql (fun (r : Int64) (u : Unit) => ((f_X10_spelt__30 p0 p1 p2 p3 p4 p5 p6) = r ∧ True) ∧ (RJ r 283288069 283288069)) (BB D cy (va_A w0 sz) (fun (u : Unit) => w0)) (va_A w0 sz)) 0 0 (va_A w0 sz) := by
  refine Met.ofW (cc := cX10_spelt) (maxL := 9) (ret := (some .long)) (by decide) rfl ?_
  intro p e s m args below meth c s₁ B hml hv
  obtain ⟨rfl, hsz, hP, hK, hD0, hSD⟩ := hv
  have hx := B.exec
  have hb := B.bytes
  have hr := B.returns
  have hlocks := B.notSynchronized
  have hts : ∀ w ∈ gT, w.before _ s = true := fun w h => atoms_spec (ws := Cond.code yX10_spelt cX10_spelt 9 (some .long) :: gT) B.pre w (List.mem_cons_of_mem _ h)
  have hown : s.vm.findClass RX10 = some m.cls := findClass_of_methodNamed B.named
  subst hsz
  have hD := hD0.self (sz := s.heap.size)
  generalize hAe : va_A w0 s.heap.size = A at hD hSD ⊢
  have hA : ∀ q : Nat, s.heap.size ≤ q → A q := fun q h => by rw [← hAe]; exact Or.inr h
  have hl := lv_entry ([.int p0, .int p1, .int p2, .int p3, .int p4, .int p5, .int p6]) (n := 9) (Nat.le_of_ble_eq_true rfl)
  rw [lg_entry_eq]
  generalize (lg_sl ([.int p0, .int p1, .int p2, .int p3, .int p4, .int p5, .int p6]) ++ List.replicate (9 - (lg_sl ([.int p0, .int p1, .int p2, .int p3, .int p4, .int p5, .int p6])).length) Slot.unset).toArray = ls at hl ⊢
  have hl : lv_has ls 9 [(0, .int p0), (1, .int p1), (2, .int p2), (3, .int p3), (4, .int p4), (5, .int p5), (6, .int p6)] := hl
  refine nameQ (fun Q hQ => ?_)
  have hw : WD D cy GG A s wr_X10_spelt__41 wa_X10_spelt__41 Ps w0 Ps w0 s.heap [] := ⟨hT, hP, hD, va_S.rf, FR.rf, hT.1, [], (List.append_nil _).symm⟩
  obtain ⟨R9, hR⟩ : ∃ q9 : Int64, f_X10_spelt__30 p0 p1 p2 p3 p4 p5 p6 = q9 := ⟨_, rfl⟩
  have hE := hR
  have B99 : ∀ (x7 : Int64) (H : Heap) (locs : List Loc) (ls : Array Slot), RI p0 115 115 → RI p1 116 116 → RI p2 97 97 → RI p3 110 110 → RI p4 100 100 → RI p5 115 115 → RI p6 0 0 → RJ x7 283288069 283288069 → f_X10_spelt__30_99 p0 p1 p2 p3 p4 p5 p6 x7 = R9 → WD D cy GG A s wr_X10_spelt__41 wa_X10_spelt__41 Ps w0 Ps w0 H locs → lv_has ls 9 [(0, .int p0), (1, .int p1), (2, .int p2), (3, .int p3), (4, .int p4), (5, .int p5), (6, .int p6), (7, .long x7)] → W p l e (headSpec (Cond.code yX10_spelt cX10_spelt 9 (some .long) :: gT) ({ frames := 0, cells := 0, slots := 0, locals := 200 } : Room)).room s m ([.int p0, .int p1, .int p2, .int p3, .int p4, .int p5, .int p6] : List Value).toArray below meth c H locs 0 0 Q (F0 m 99 ls []) := by
    intro x7 H locs ls r_p0 r_p1 r_p2 r_p3 r_p4 r_p5 r_p6 r_x7 hE hw hl
    refine lv_iload hx hb dX10_spelt_99 (lv_at hl 6 rfl) ?_
    refine lv_if_le (tgt := 120) hx hb dX10_spelt_101 (by decide) (fun c_101 => ?_) (fun c_101 => ?_)
    · refine lv_lload hx hb dX10_spelt_120 (lv_at hl 7 rfl) ?_
      simp only [f_X10_spelt__30_99, ↓reduceIte, eq_true c_101] at hE
      subst hQ
      exact W.lret (v := x7) hx hb hr (fun t ht hW => ⟨⟨x7, (), rfl, ⟨⟨(by rw [hR, ← hE]), trivial⟩, r_x7.to (by decide)⟩, by rw [ht]; exact hw.2.1, va_K.moved hW.alike hK, hw.2.2.1⟩, hw.2.2.2.1.F ht⟩) hw.2.2.2.1.2.2 dX10_spelt_122
    · have r_p6 : RI p6 1 0 := rc_lt2 rl_0 r_p6 (ti_nle c_101) (by decide)
      exact (r_p6.no (by decide)).elim
  have B78 : ∀ (x7 : Int64) (H : Heap) (locs : List Loc) (ls : Array Slot), RI p0 115 115 → RI p1 116 116 → RI p2 97 97 → RI p3 110 110 → RI p4 100 100 → RI p5 115 115 → RI p6 0 0 → RJ x7 10492150 10492150 → f_X10_spelt__30_78 p0 p1 p2 p3 p4 p5 p6 x7 = R9 → WD D cy GG A s wr_X10_spelt__41 wa_X10_spelt__41 Ps w0 Ps w0 H locs → lv_has ls 9 [(0, .int p0), (1, .int p1), (2, .int p2), (3, .int p3), (4, .int p4), (5, .int p5), (6, .int p6), (7, .long x7)] → W p l e (headSpec (Cond.code yX10_spelt cX10_spelt 9 (some .long) :: gT) ({ frames := 0, cells := 0, slots := 0, locals := 200 } : Room)).room s m ([.int p0, .int p1, .int p2, .int p3, .int p4, .int p5, .int p6] : List Value).toArray below meth c H locs 0 0 Q (F0 m 78 ls []) := by
    intro x7 H locs ls r_p0 r_p1 r_p2 r_p3 r_p4 r_p5 r_p6 r_x7 hE hw hl
    refine lv_iload hx hb dX10_spelt_78 (lv_at hl 5 rfl) ?_
    refine lv_if_le (tgt := 99) hx hb dX10_spelt_80 (by decide) (fun c_80 => ?_) (fun c_80 => ?_)
    · have r_p5 : RI p5 115 0 := rc_le1 r_p5 rl_0 (ti_le c_80) (by decide)
      exact (r_p5.no (by decide)).elim
    · refine lv_ldc2 (v := 27) hx hb hown (hts _ tw_1312) dX10_spelt_83 ?_
      refine lv_lload hx hb dX10_spelt_86 (lv_at hl 7 rfl) ?_
      refine lv_lmul hx hb dX10_spelt_88 (lv_topl (fun w_1 e_w_1 => ?_))
      have r_w_1 := tq_lmul (lo := 283288050) (hi := 283288050) rk_27 r_x7 (by decide +kernel) e_w_1
      have q_w_1 : (27 : Int64) * x7 = w_1 := e_w_1.symm
      refine lv_iload hx hb dX10_spelt_89 (lv_at hl 5 rfl) ?_
      obtain ⟨w_2, e_w_2⟩ : ∃ q9 : Int64, (p5 : Int32).toInt64 = q9 := ⟨_, rfl⟩
      refine lv_i2l (v := w_2) hx hb dX10_spelt_91 e_w_2 ?_
      have r_w_2 := tq_i2l r_p5 e_w_2
      have q_w_2 : Int32.toInt64 p5 = w_2 := e_w_2
      refine lv_ladd hx hb dX10_spelt_92 (lv_topl (fun w_3 e_w_3 => ?_))
      have r_w_3 := tq_ladd (lo := 283288165) (hi := 283288165) r_w_1 r_w_2 (by decide +kernel) e_w_3
      have q_w_3 : w_1 + w_2 = w_3 := e_w_3.symm
      refine lv_ldc2 (v := 96) hx hb hown (hts _ tw_1313) dX10_spelt_93 ?_
      refine lv_lsub hx hb dX10_spelt_96 (lv_topl (fun w_4 e_w_4 => ?_))
      have r_w_4 := tq_lsub (lo := 283288069) (hi := 283288069) r_w_3 rk_96 (by decide +kernel) e_w_4
      have q_w_4 : w_3 - (96 : Int64) = w_4 := e_w_4.symm
      refine lv_lstore (lv' := [(7, .long w_4), (0, .int p0), (1, .int p1), (2, .int p2), (3, .int p3), (4, .int p4), (5, .int p5), (6, .int p6)]) hx hb dX10_spelt_97 hl (by decide) rfl (fun ls hl => ?_)
      simp only [f_X10_spelt__30_78, ↓reduceIte, eq_false c_80, q_w_1, q_w_2, q_w_3, q_w_4] at hE
      exact B99 w_4 _ _ ls r_p0 r_p1 r_p2 r_p3 r_p4 r_p5 r_p6 r_w_4 hE hw (lv_sub hl [1, 2, 3, 4, 5, 6, 7, 0] rfl)
  have B57 : ∀ (x7 : Int64) (H : Heap) (locs : List Loc) (ls : Array Slot), RI p0 115 115 → RI p1 116 116 → RI p2 97 97 → RI p3 110 110 → RI p4 100 100 → RI p5 115 115 → RI p6 0 0 → RJ x7 388598 388598 → f_X10_spelt__30_57 p0 p1 p2 p3 p4 p5 p6 x7 = R9 → WD D cy GG A s wr_X10_spelt__41 wa_X10_spelt__41 Ps w0 Ps w0 H locs → lv_has ls 9 [(0, .int p0), (1, .int p1), (2, .int p2), (3, .int p3), (4, .int p4), (5, .int p5), (6, .int p6), (7, .long x7)] → W p l e (headSpec (Cond.code yX10_spelt cX10_spelt 9 (some .long) :: gT) ({ frames := 0, cells := 0, slots := 0, locals := 200 } : Room)).room s m ([.int p0, .int p1, .int p2, .int p3, .int p4, .int p5, .int p6] : List Value).toArray below meth c H locs 0 0 Q (F0 m 57 ls []) := by
    intro x7 H locs ls r_p0 r_p1 r_p2 r_p3 r_p4 r_p5 r_p6 r_x7 hE hw hl
    refine lv_iload hx hb dX10_spelt_57 (lv_at hl 4 rfl) ?_
    refine lv_if_le (tgt := 78) hx hb dX10_spelt_59 (by decide) (fun c_59 => ?_) (fun c_59 => ?_)
    · have r_p4 : RI p4 100 0 := rc_le1 r_p4 rl_0 (ti_le c_59) (by decide)
      exact (r_p4.no (by decide)).elim
    · refine lv_ldc2 (v := 27) hx hb hown (hts _ tw_1312) dX10_spelt_62 ?_
      refine lv_lload hx hb dX10_spelt_65 (lv_at hl 7 rfl) ?_
      refine lv_lmul hx hb dX10_spelt_67 (lv_topl (fun w_5 e_w_5 => ?_))
      have r_w_5 := tq_lmul (lo := 10492146) (hi := 10492146) rk_27 r_x7 (by decide +kernel) e_w_5
      have q_w_5 : (27 : Int64) * x7 = w_5 := e_w_5.symm
      refine lv_iload hx hb dX10_spelt_68 (lv_at hl 4 rfl) ?_
      obtain ⟨w_6, e_w_6⟩ : ∃ q9 : Int64, (p4 : Int32).toInt64 = q9 := ⟨_, rfl⟩
      refine lv_i2l (v := w_6) hx hb dX10_spelt_70 e_w_6 ?_
      have r_w_6 := tq_i2l r_p4 e_w_6
      have q_w_6 : Int32.toInt64 p4 = w_6 := e_w_6
      refine lv_ladd hx hb dX10_spelt_71 (lv_topl (fun w_7 e_w_7 => ?_))
      have r_w_7 := tq_ladd (lo := 10492246) (hi := 10492246) r_w_5 r_w_6 (by decide +kernel) e_w_7
      have q_w_7 : w_5 + w_6 = w_7 := e_w_7.symm
      refine lv_ldc2 (v := 96) hx hb hown (hts _ tw_1313) dX10_spelt_72 ?_
      refine lv_lsub hx hb dX10_spelt_75 (lv_topl (fun w_8 e_w_8 => ?_))
      have r_w_8 := tq_lsub (lo := 10492150) (hi := 10492150) r_w_7 rk_96 (by decide +kernel) e_w_8
      have q_w_8 : w_7 - (96 : Int64) = w_8 := e_w_8.symm
      refine lv_lstore (lv' := [(7, .long w_8), (0, .int p0), (1, .int p1), (2, .int p2), (3, .int p3), (4, .int p4), (5, .int p5), (6, .int p6)]) hx hb dX10_spelt_76 hl (by decide) rfl (fun ls hl => ?_)
      simp only [f_X10_spelt__30_57, ↓reduceIte, eq_false c_59, q_w_5, q_w_6, q_w_7, q_w_8] at hE
      exact B78 w_8 _ _ ls r_p0 r_p1 r_p2 r_p3 r_p4 r_p5 r_p6 r_w_8 hE hw (lv_sub hl [1, 2, 3, 4, 5, 6, 7, 0] rfl)
  have B38 : ∀ (x7 : Int64) (H : Heap) (locs : List Loc) (ls : Array Slot), RI p0 115 115 → RI p1 116 116 → RI p2 97 97 → RI p3 110 110 → RI p4 100 100 → RI p5 115 115 → RI p6 0 0 → RJ x7 14392 14392 → f_X10_spelt__30_38 p0 p1 p2 p3 p4 p5 p6 x7 = R9 → WD D cy GG A s wr_X10_spelt__41 wa_X10_spelt__41 Ps w0 Ps w0 H locs → lv_has ls 9 [(0, .int p0), (1, .int p1), (2, .int p2), (3, .int p3), (4, .int p4), (5, .int p5), (6, .int p6), (7, .long x7)] → W p l e (headSpec (Cond.code yX10_spelt cX10_spelt 9 (some .long) :: gT) ({ frames := 0, cells := 0, slots := 0, locals := 200 } : Room)).room s m ([.int p0, .int p1, .int p2, .int p3, .int p4, .int p5, .int p6] : List Value).toArray below meth c H locs 0 0 Q (F0 m 38 ls []) := by
    intro x7 H locs ls r_p0 r_p1 r_p2 r_p3 r_p4 r_p5 r_p6 r_x7 hE hw hl
    refine lv_iload_n hx hb dX10_spelt_38 rfl (lv_at hl 3 rfl) ?_
    refine lv_if_le (tgt := 57) hx hb dX10_spelt_39 (by decide) (fun c_39 => ?_) (fun c_39 => ?_)
    · have r_p3 : RI p3 110 0 := rc_le1 r_p3 rl_0 (ti_le c_39) (by decide)
      exact (r_p3.no (by decide)).elim
    · refine lv_ldc2 (v := 27) hx hb hown (hts _ tw_1312) dX10_spelt_42 ?_
      refine lv_lload hx hb dX10_spelt_45 (lv_at hl 7 rfl) ?_
      refine lv_lmul hx hb dX10_spelt_47 (lv_topl (fun w_9 e_w_9 => ?_))
      have r_w_9 := tq_lmul (lo := 388584) (hi := 388584) rk_27 r_x7 (by decide +kernel) e_w_9
      have q_w_9 : (27 : Int64) * x7 = w_9 := e_w_9.symm
      refine lv_iload_n hx hb dX10_spelt_48 rfl (lv_at hl 3 rfl) ?_
      obtain ⟨w_10, e_w_10⟩ : ∃ q9 : Int64, (p3 : Int32).toInt64 = q9 := ⟨_, rfl⟩
      refine lv_i2l (v := w_10) hx hb dX10_spelt_49 e_w_10 ?_
      have r_w_10 := tq_i2l r_p3 e_w_10
      have q_w_10 : Int32.toInt64 p3 = w_10 := e_w_10
      refine lv_ladd hx hb dX10_spelt_50 (lv_topl (fun w_11 e_w_11 => ?_))
      have r_w_11 := tq_ladd (lo := 388694) (hi := 388694) r_w_9 r_w_10 (by decide +kernel) e_w_11
      have q_w_11 : w_9 + w_10 = w_11 := e_w_11.symm
      refine lv_ldc2 (v := 96) hx hb hown (hts _ tw_1313) dX10_spelt_51 ?_
      refine lv_lsub hx hb dX10_spelt_54 (lv_topl (fun w_12 e_w_12 => ?_))
      have r_w_12 := tq_lsub (lo := 388598) (hi := 388598) r_w_11 rk_96 (by decide +kernel) e_w_12
      have q_w_12 : w_11 - (96 : Int64) = w_12 := e_w_12.symm
      refine lv_lstore (lv' := [(7, .long w_12), (0, .int p0), (1, .int p1), (2, .int p2), (3, .int p3), (4, .int p4), (5, .int p5), (6, .int p6)]) hx hb dX10_spelt_55 hl (by decide) rfl (fun ls hl => ?_)
      simp only [f_X10_spelt__30_38, ↓reduceIte, eq_false c_39, q_w_9, q_w_10, q_w_11, q_w_12] at hE
      exact B57 w_12 _ _ ls r_p0 r_p1 r_p2 r_p3 r_p4 r_p5 r_p6 r_w_12 hE hw (lv_sub hl [1, 2, 3, 4, 5, 6, 7, 0] rfl)
  refine lv_ldc2 (v := 27) hx hb hown (hts _ tw_1312) dX10_spelt_0 ?_
  refine lv_iload_n hx hb dX10_spelt_3 rfl (lv_at hl 0 rfl) ?_
  obtain ⟨w_13, e_w_13⟩ : ∃ q9 : Int64, (p0 : Int32).toInt64 = q9 := ⟨_, rfl⟩
  refine lv_i2l (v := w_13) hx hb dX10_spelt_4 e_w_13 ?_
  have r_w_13 := tq_i2l r_p0 e_w_13
  have q_w_13 : Int32.toInt64 p0 = w_13 := e_w_13
  refine lv_ldc2 (v := 96) hx hb hown (hts _ tw_1313) dX10_spelt_5 ?_
  refine lv_lsub hx hb dX10_spelt_8 (lv_topl (fun w_14 e_w_14 => ?_))
  have r_w_14 := tq_lsub (lo := 19) (hi := 19) r_w_13 rk_96 (by decide +kernel) e_w_14
  have q_w_14 : w_13 - (96 : Int64) = w_14 := e_w_14.symm
  refine lv_lmul hx hb dX10_spelt_9 (lv_topl (fun w_15 e_w_15 => ?_))
  have r_w_15 := tq_lmul (lo := 513) (hi := 513) rk_27 r_w_14 (by decide +kernel) e_w_15
  have q_w_15 : (27 : Int64) * w_14 = w_15 := e_w_15.symm
  refine lv_iload_n hx hb dX10_spelt_10 rfl (lv_at hl 1 rfl) ?_
  obtain ⟨w_16, e_w_16⟩ : ∃ q9 : Int64, (p1 : Int32).toInt64 = q9 := ⟨_, rfl⟩
  refine lv_i2l (v := w_16) hx hb dX10_spelt_11 e_w_16 ?_
  have r_w_16 := tq_i2l r_p1 e_w_16
  have q_w_16 : Int32.toInt64 p1 = w_16 := e_w_16
  refine lv_ladd hx hb dX10_spelt_12 (lv_topl (fun w_17 e_w_17 => ?_))
  have r_w_17 := tq_ladd (lo := 629) (hi := 629) r_w_15 r_w_16 (by decide +kernel) e_w_17
  have q_w_17 : w_15 + w_16 = w_17 := e_w_17.symm
  refine lv_ldc2 (v := 96) hx hb hown (hts _ tw_1313) dX10_spelt_13 ?_
  refine lv_lsub hx hb dX10_spelt_16 (lv_topl (fun w_18 e_w_18 => ?_))
  have r_w_18 := tq_lsub (lo := 533) (hi := 533) r_w_17 rk_96 (by decide +kernel) e_w_18
  have q_w_18 : w_17 - (96 : Int64) = w_18 := e_w_18.symm
  refine lv_lstore (lv' := [(7, .long w_18), (0, .int p0), (1, .int p1), (2, .int p2), (3, .int p3), (4, .int p4), (5, .int p5), (6, .int p6)]) hx hb dX10_spelt_17 hl (by decide) rfl (fun ls hl => ?_)
  refine lv_iload_n hx hb dX10_spelt_19 rfl (lv_at hl 3 rfl) ?_
  refine lv_if_le (tgt := 38) hx hb dX10_spelt_20 (by decide) (fun c_20 => ?_) (fun c_20 => ?_)
  · have r_p2 : RI p2 97 0 := rc_le1 r_p2 rl_0 (ti_le c_20) (by decide)
    exact (r_p2.no (by decide)).elim
  · refine lv_ldc2 (v := 27) hx hb hown (hts _ tw_1312) dX10_spelt_23 ?_
    refine lv_lload hx hb dX10_spelt_26 (lv_at hl 0 rfl) ?_
    refine lv_lmul hx hb dX10_spelt_28 (lv_topl (fun w_19 e_w_19 => ?_))
    have r_w_19 := tq_lmul (lo := 14391) (hi := 14391) rk_27 r_w_18 (by decide +kernel) e_w_19
    have q_w_19 : (27 : Int64) * w_18 = w_19 := e_w_19.symm
    refine lv_iload_n hx hb dX10_spelt_29 rfl (lv_at hl 3 rfl) ?_
    obtain ⟨w_20, e_w_20⟩ : ∃ q9 : Int64, (p2 : Int32).toInt64 = q9 := ⟨_, rfl⟩
    refine lv_i2l (v := w_20) hx hb dX10_spelt_30 e_w_20 ?_
    have r_w_20 := tq_i2l r_p2 e_w_20
    have q_w_20 : Int32.toInt64 p2 = w_20 := e_w_20
    refine lv_ladd hx hb dX10_spelt_31 (lv_topl (fun w_21 e_w_21 => ?_))
    have r_w_21 := tq_ladd (lo := 14488) (hi := 14488) r_w_19 r_w_20 (by decide +kernel) e_w_21
    have q_w_21 : w_19 + w_20 = w_21 := e_w_21.symm
    refine lv_ldc2 (v := 96) hx hb hown (hts _ tw_1313) dX10_spelt_32 ?_
    refine lv_lsub hx hb dX10_spelt_35 (lv_topl (fun w_22 e_w_22 => ?_))
    have r_w_22 := tq_lsub (lo := 14392) (hi := 14392) r_w_21 rk_96 (by decide +kernel) e_w_22
    have q_w_22 : w_21 - (96 : Int64) = w_22 := e_w_22.symm
    refine lv_lstore (lv' := [(7, .long w_22), (0, .int p0), (1, .int p1), (2, .int p2), (3, .int p3), (4, .int p4), (5, .int p5), (6, .int p6)]) hx hb dX10_spelt_36 hl (by decide) rfl (fun ls hl => ?_)
    simp only [f_X10_spelt__30, ↓reduceIte, q_w_13, q_w_14, q_w_15, q_w_16, q_w_17, q_w_18, eq_false c_20, q_w_19, q_w_20, q_w_21, q_w_22] at hE
    exact B38 w_22 _ _ ls r_p0 r_p1 r_p2 r_p3 r_p4 r_p5 r_p6 r_w_22 hE hw (lv_sub hl [1, 2, 3, 4, 5, 6, 7, 0] rfl)
abbrev wr_X10_spelt__42 : List (Nat × Nat) := []
abbrev wa_X10_spelt__42 : List Nat := []
set_option maxHeartbeats 4000000 in
set_option maxRecDepth 100000 in
theorem c_X10_spelt__42 (l : Launch) (D : va_G) (cy : Nat → ClassId) (z : Nat → Nat) (sz : Nat) (Ps : PSI) (w0 : va_W) (hT : HT cy GG Ps w0) (p0 : Int32) (p1 : Int32) (p2 : Int32) (p3 : Int32) (p4 : Int32) (p5 : Int32) (p6 : Int32) (r_p0 : RI p0 119 119) (r_p1 : RI p1 105 105) (r_p2 : RI p2 115 115) (r_p3 : RI p3 104 104) (r_p4 : RI p4 101 101) (r_p5 : RI p5 115 115) (r_p6 : RI p6 0 0) : Met l yX10_spelt (Cond.code yX10_spelt cX10_spelt 9 (some .long) :: gT) ({ frames := 0, cells := 0, slots := 0, locals := 200 } : Room) (va_Pc [.int p0, .int p1, .int p2, .int p3, .int p4, .int p5, .int p6] (PRE D cy z w0 sz)) (va_Ql (fun (r : Int64) (u : Unit) => ((f_X10_spelt__30 p0 p1 p2 p3 p4 p5 p6) = r ∧ True) ∧ (RJ r 335187793 335187793)) (BB D cy (va_A w0 sz) (fun (u : Unit) => w0)) (va_A w0 sz)) 0 0 (va_A w0 sz) := by
  refine Met.ofW (cc := cX10_spelt) (maxL := 9) (ret := (some .long)) (by decide) rfl ?_
  intro p e s m args below meth c s₁ B hml hv
  obtain ⟨rfl, hsz, hP, hK, hD0, hSD⟩ := hv
  have hx := B.exec
  have hb := B.bytes
  have hr := B.returns
  have hlocks := B.notSynchronized
  have hts : ∀ w ∈ gT, w.before _ s = true := fun w h => atoms_spec (ws := Cond.code yX10_spelt cX10_spelt 9 (some .long) :: gT) B.pre w (List.mem_cons_of_mem _ h)
  have hown : s.vm.findClass RX10 = some m.cls := findClass_of_methodNamed B.named
  subst hsz
  have hD := hD0.self (sz := s.heap.size)
  generalize hAe : va_A w0 s.heap.size = A at hD hSD ⊢
  have hA : ∀ q : Nat, s.heap.size ≤ q → A q := fun q h => by rw [← hAe]; exact Or.inr h
  have hl := lv_entry ([.int p0, .int p1, .int p2, .int p3, .int p4, .int p5, .int p6]) (n := 9) (Nat.le_of_ble_eq_true rfl)
  rw [lg_entry_eq]
  generalize (lg_sl ([.int p0, .int p1, .int p2, .int p3, .int p4, .int p5, .int p6]) ++ List.replicate (9 - (lg_sl ([.int p0, .int p1, .int p2, .int p3, .int p4, .int p5, .int p6])).length) Slot.unset).toArray = ls at hl ⊢
  have hl : lv_has ls 9 [(0, .int p0), (1, .int p1), (2, .int p2), (3, .int p3), (4, .int p4), (5, .int p5), (6, .int p6)] := hl
  refine nameQ (fun Q hQ => ?_)
  have hw : WD D cy GG A s wr_X10_spelt__42 wa_X10_spelt__42 Ps w0 Ps w0 s.heap [] := ⟨hT, hP, hD, va_S.rf, FR.rf, hT.1, [], (List.append_nil _).symm⟩
  obtain ⟨R9, hR⟩ : ∃ q9 : Int64, f_X10_spelt__30 p0 p1 p2 p3 p4 p5 p6 = q9 := ⟨_, rfl⟩
  have hE := hR
  have B99 : ∀ (x7 : Int64) (H : Heap) (locs : List Loc) (ls : Array Slot), RI p0 119 119 → RI p1 105 105 → RI p2 115 115 → RI p3 104 104 → RI p4 101 101 → RI p5 115 115 → RI p6 0 0 → RJ x7 335187793 335187793 → f_X10_spelt__30_99 p0 p1 p2 p3 p4 p5 p6 x7 = R9 → WD D cy GG A s wr_X10_spelt__42 wa_X10_spelt__42 Ps w0 Ps w0 H locs → lv_has ls 9 [(0, .int p0), (1, .int p1), (2, .int p2), (3, .int p3), (4, .int p4), (5, .int p5), (6, .int p6), (7, .long x7)] → W p l e (headSpec (Cond.code yX10_spelt cX10_spelt 9 (some .long) :: gT) ({ frames := 0, cells := 0, slots := 0, locals := 200 } : Room)).room s m ([.int p0, .int p1, .int p2, .int p3, .int p4, .int p5, .int p6] : List Value).toArray below meth c H locs 0 0 Q (F0 m 99 ls []) := by
    intro x7 H locs ls r_p0 r_p1 r_p2 r_p3 r_p4 r_p5 r_p6 r_x7 hE hw hl
    refine lv_iload hx hb dX10_spelt_99 (lv_at hl 6 rfl) ?_
    refine lv_if_le (tgt := 120) hx hb dX10_spelt_101 (by decide) (fun c_101 => ?_) (fun c_101 => ?_)
    · refine lv_lload hx hb dX10_spelt_120 (lv_at hl 7 rfl) ?_
      simp only [f_X10_spelt__30_99, ↓reduceIte, eq_true c_101] at hE
      subst hQ
      exact W.lret (v := x7) hx hb hr (fun t ht hW => ⟨⟨x7, (), rfl, ⟨⟨(by rw [hR, ← hE]), trivial⟩, r_x7.to (by decide)⟩, by rw [ht]; exact hw.2.1, va_K.moved hW.alike hK, hw.2.2.1⟩, hw.2.2.2.1.F ht⟩) hw.2.2.2.1.2.2 dX10_spelt_122
    · have r_p6 : RI p6 1 0 := rc_lt2 rl_0 r_p6 (ti_nle c_101) (by decide)
      exact (r_p6.no (by decide)).elim
  have B78 : ∀ (x7 : Int64) (H : Heap) (locs : List Loc) (ls : Array Slot), RI p0 119 119 → RI p1 105 105 → RI p2 115 115 → RI p3 104 104 → RI p4 101 101 → RI p5 115 115 → RI p6 0 0 → RJ x7 12414362 12414362 → f_X10_spelt__30_78 p0 p1 p2 p3 p4 p5 p6 x7 = R9 → WD D cy GG A s wr_X10_spelt__42 wa_X10_spelt__42 Ps w0 Ps w0 H locs → lv_has ls 9 [(0, .int p0), (1, .int p1), (2, .int p2), (3, .int p3), (4, .int p4), (5, .int p5), (6, .int p6), (7, .long x7)] → W p l e (headSpec (Cond.code yX10_spelt cX10_spelt 9 (some .long) :: gT) ({ frames := 0, cells := 0, slots := 0, locals := 200 } : Room)).room s m ([.int p0, .int p1, .int p2, .int p3, .int p4, .int p5, .int p6] : List Value).toArray below meth c H locs 0 0 Q (F0 m 78 ls []) := by
    intro x7 H locs ls r_p0 r_p1 r_p2 r_p3 r_p4 r_p5 r_p6 r_x7 hE hw hl
    refine lv_iload hx hb dX10_spelt_78 (lv_at hl 5 rfl) ?_
    refine lv_if_le (tgt := 99) hx hb dX10_spelt_80 (by decide) (fun c_80 => ?_) (fun c_80 => ?_)
    · have r_p5 : RI p5 115 0 := rc_le1 r_p5 rl_0 (ti_le c_80) (by decide)
      exact (r_p5.no (by decide)).elim
    · refine lv_ldc2 (v := 27) hx hb hown (hts _ tw_1312) dX10_spelt_83 ?_
      refine lv_lload hx hb dX10_spelt_86 (lv_at hl 7 rfl) ?_
      refine lv_lmul hx hb dX10_spelt_88 (lv_topl (fun w_1 e_w_1 => ?_))
      have r_w_1 := tq_lmul (lo := 335187774) (hi := 335187774) rk_27 r_x7 (by decide +kernel) e_w_1
      have q_w_1 : (27 : Int64) * x7 = w_1 := e_w_1.symm
      refine lv_iload hx hb dX10_spelt_89 (lv_at hl 5 rfl) ?_
      obtain ⟨w_2, e_w_2⟩ : ∃ q9 : Int64, (p5 : Int32).toInt64 = q9 := ⟨_, rfl⟩
      refine lv_i2l (v := w_2) hx hb dX10_spelt_91 e_w_2 ?_
      have r_w_2 := tq_i2l r_p5 e_w_2
      have q_w_2 : Int32.toInt64 p5 = w_2 := e_w_2
      refine lv_ladd hx hb dX10_spelt_92 (lv_topl (fun w_3 e_w_3 => ?_))
      have r_w_3 := tq_ladd (lo := 335187889) (hi := 335187889) r_w_1 r_w_2 (by decide +kernel) e_w_3
      have q_w_3 : w_1 + w_2 = w_3 := e_w_3.symm
      refine lv_ldc2 (v := 96) hx hb hown (hts _ tw_1313) dX10_spelt_93 ?_
      refine lv_lsub hx hb dX10_spelt_96 (lv_topl (fun w_4 e_w_4 => ?_))
      have r_w_4 := tq_lsub (lo := 335187793) (hi := 335187793) r_w_3 rk_96 (by decide +kernel) e_w_4
      have q_w_4 : w_3 - (96 : Int64) = w_4 := e_w_4.symm
      refine lv_lstore (lv' := [(7, .long w_4), (0, .int p0), (1, .int p1), (2, .int p2), (3, .int p3), (4, .int p4), (5, .int p5), (6, .int p6)]) hx hb dX10_spelt_97 hl (by decide) rfl (fun ls hl => ?_)
      simp only [f_X10_spelt__30_78, ↓reduceIte, eq_false c_80, q_w_1, q_w_2, q_w_3, q_w_4] at hE
      exact B99 w_4 _ _ ls r_p0 r_p1 r_p2 r_p3 r_p4 r_p5 r_p6 r_w_4 hE hw (lv_sub hl [1, 2, 3, 4, 5, 6, 7, 0] rfl)
  have B57 : ∀ (x7 : Int64) (H : Heap) (locs : List Loc) (ls : Array Slot), RI p0 119 119 → RI p1 105 105 → RI p2 115 115 → RI p3 104 104 → RI p4 101 101 → RI p5 115 115 → RI p6 0 0 → RJ x7 459791 459791 → f_X10_spelt__30_57 p0 p1 p2 p3 p4 p5 p6 x7 = R9 → WD D cy GG A s wr_X10_spelt__42 wa_X10_spelt__42 Ps w0 Ps w0 H locs → lv_has ls 9 [(0, .int p0), (1, .int p1), (2, .int p2), (3, .int p3), (4, .int p4), (5, .int p5), (6, .int p6), (7, .long x7)] → W p l e (headSpec (Cond.code yX10_spelt cX10_spelt 9 (some .long) :: gT) ({ frames := 0, cells := 0, slots := 0, locals := 200 } : Room)).room s m ([.int p0, .int p1, .int p2, .int p3, .int p4, .int p5, .int p6] : List Value).toArray below meth c H locs 0 0 Q (F0 m 57 ls []) := by
    intro x7 H locs ls r_p0 r_p1 r_p2 r_p3 r_p4 r_p5 r_p6 r_x7 hE hw hl
    refine lv_iload hx hb dX10_spelt_57 (lv_at hl 4 rfl) ?_
    refine lv_if_le (tgt := 78) hx hb dX10_spelt_59 (by decide) (fun c_59 => ?_) (fun c_59 => ?_)
    · have r_p4 : RI p4 101 0 := rc_le1 r_p4 rl_0 (ti_le c_59) (by decide)
      exact (r_p4.no (by decide)).elim
    · refine lv_ldc2 (v := 27) hx hb hown (hts _ tw_1312) dX10_spelt_62 ?_
      refine lv_lload hx hb dX10_spelt_65 (lv_at hl 7 rfl) ?_
      refine lv_lmul hx hb dX10_spelt_67 (lv_topl (fun w_5 e_w_5 => ?_))
      have r_w_5 := tq_lmul (lo := 12414357) (hi := 12414357) rk_27 r_x7 (by decide +kernel) e_w_5
      have q_w_5 : (27 : Int64) * x7 = w_5 := e_w_5.symm
      refine lv_iload hx hb dX10_spelt_68 (lv_at hl 4 rfl) ?_
      obtain ⟨w_6, e_w_6⟩ : ∃ q9 : Int64, (p4 : Int32).toInt64 = q9 := ⟨_, rfl⟩
      refine lv_i2l (v := w_6) hx hb dX10_spelt_70 e_w_6 ?_
      have r_w_6 := tq_i2l r_p4 e_w_6
      have q_w_6 : Int32.toInt64 p4 = w_6 := e_w_6
      refine lv_ladd hx hb dX10_spelt_71 (lv_topl (fun w_7 e_w_7 => ?_))
      have r_w_7 := tq_ladd (lo := 12414458) (hi := 12414458) r_w_5 r_w_6 (by decide +kernel) e_w_7
      have q_w_7 : w_5 + w_6 = w_7 := e_w_7.symm
      refine lv_ldc2 (v := 96) hx hb hown (hts _ tw_1313) dX10_spelt_72 ?_
      refine lv_lsub hx hb dX10_spelt_75 (lv_topl (fun w_8 e_w_8 => ?_))
      have r_w_8 := tq_lsub (lo := 12414362) (hi := 12414362) r_w_7 rk_96 (by decide +kernel) e_w_8
      have q_w_8 : w_7 - (96 : Int64) = w_8 := e_w_8.symm
      refine lv_lstore (lv' := [(7, .long w_8), (0, .int p0), (1, .int p1), (2, .int p2), (3, .int p3), (4, .int p4), (5, .int p5), (6, .int p6)]) hx hb dX10_spelt_76 hl (by decide) rfl (fun ls hl => ?_)
      simp only [f_X10_spelt__30_57, ↓reduceIte, eq_false c_59, q_w_5, q_w_6, q_w_7, q_w_8] at hE
      exact B78 w_8 _ _ ls r_p0 r_p1 r_p2 r_p3 r_p4 r_p5 r_p6 r_w_8 hE hw (lv_sub hl [1, 2, 3, 4, 5, 6, 7, 0] rfl)
  have B38 : ∀ (x7 : Int64) (H : Heap) (locs : List Loc) (ls : Array Slot), RI p0 119 119 → RI p1 105 105 → RI p2 115 115 → RI p3 104 104 → RI p4 101 101 → RI p5 115 115 → RI p6 0 0 → RJ x7 17029 17029 → f_X10_spelt__30_38 p0 p1 p2 p3 p4 p5 p6 x7 = R9 → WD D cy GG A s wr_X10_spelt__42 wa_X10_spelt__42 Ps w0 Ps w0 H locs → lv_has ls 9 [(0, .int p0), (1, .int p1), (2, .int p2), (3, .int p3), (4, .int p4), (5, .int p5), (6, .int p6), (7, .long x7)] → W p l e (headSpec (Cond.code yX10_spelt cX10_spelt 9 (some .long) :: gT) ({ frames := 0, cells := 0, slots := 0, locals := 200 } : Room)).room s m ([.int p0, .int p1, .int p2, .int p3, .int p4, .int p5, .int p6] : List Value).toArray below meth c H locs 0 0 Q (F0 m 38 ls []) := by
    intro x7 H locs ls r_p0 r_p1 r_p2 r_p3 r_p4 r_p5 r_p6 r_x7 hE hw hl
    refine lv_iload_n hx hb dX10_spelt_38 rfl (lv_at hl 3 rfl) ?_
    refine lv_if_le (tgt := 57) hx hb dX10_spelt_39 (by decide) (fun c_39 => ?_) (fun c_39 => ?_)
    · have r_p3 : RI p3 104 0 := rc_le1 r_p3 rl_0 (ti_le c_39) (by decide)
      exact (r_p3.no (by decide)).elim
    · refine lv_ldc2 (v := 27) hx hb hown (hts _ tw_1312) dX10_spelt_42 ?_
      refine lv_lload hx hb dX10_spelt_45 (lv_at hl 7 rfl) ?_
      refine lv_lmul hx hb dX10_spelt_47 (lv_topl (fun w_9 e_w_9 => ?_))
      have r_w_9 := tq_lmul (lo := 459783) (hi := 459783) rk_27 r_x7 (by decide +kernel) e_w_9
      have q_w_9 : (27 : Int64) * x7 = w_9 := e_w_9.symm
      refine lv_iload_n hx hb dX10_spelt_48 rfl (lv_at hl 3 rfl) ?_
      obtain ⟨w_10, e_w_10⟩ : ∃ q9 : Int64, (p3 : Int32).toInt64 = q9 := ⟨_, rfl⟩
      refine lv_i2l (v := w_10) hx hb dX10_spelt_49 e_w_10 ?_
      have r_w_10 := tq_i2l r_p3 e_w_10
      have q_w_10 : Int32.toInt64 p3 = w_10 := e_w_10
      refine lv_ladd hx hb dX10_spelt_50 (lv_topl (fun w_11 e_w_11 => ?_))
      have r_w_11 := tq_ladd (lo := 459887) (hi := 459887) r_w_9 r_w_10 (by decide +kernel) e_w_11
      have q_w_11 : w_9 + w_10 = w_11 := e_w_11.symm
      refine lv_ldc2 (v := 96) hx hb hown (hts _ tw_1313) dX10_spelt_51 ?_
      refine lv_lsub hx hb dX10_spelt_54 (lv_topl (fun w_12 e_w_12 => ?_))
      have r_w_12 := tq_lsub (lo := 459791) (hi := 459791) r_w_11 rk_96 (by decide +kernel) e_w_12
      have q_w_12 : w_11 - (96 : Int64) = w_12 := e_w_12.symm
      refine lv_lstore (lv' := [(7, .long w_12), (0, .int p0), (1, .int p1), (2, .int p2), (3, .int p3), (4, .int p4), (5, .int p5), (6, .int p6)]) hx hb dX10_spelt_55 hl (by decide) rfl (fun ls hl => ?_)
      simp only [f_X10_spelt__30_38, ↓reduceIte, eq_false c_39, q_w_9, q_w_10, q_w_11, q_w_12] at hE
      exact B57 w_12 _ _ ls r_p0 r_p1 r_p2 r_p3 r_p4 r_p5 r_p6 r_w_12 hE hw (lv_sub hl [1, 2, 3, 4, 5, 6, 7, 0] rfl)
  refine lv_ldc2 (v := 27) hx hb hown (hts _ tw_1312) dX10_spelt_0 ?_
  refine lv_iload_n hx hb dX10_spelt_3 rfl (lv_at hl 0 rfl) ?_
  obtain ⟨w_13, e_w_13⟩ : ∃ q9 : Int64, (p0 : Int32).toInt64 = q9 := ⟨_, rfl⟩
  refine lv_i2l (v := w_13) hx hb dX10_spelt_4 e_w_13 ?_
  have r_w_13 := tq_i2l r_p0 e_w_13
  have q_w_13 : Int32.toInt64 p0 = w_13 := e_w_13
  refine lv_ldc2 (v := 96) hx hb hown (hts _ tw_1313) dX10_spelt_5 ?_
  refine lv_lsub hx hb dX10_spelt_8 (lv_topl (fun w_14 e_w_14 => ?_))
  have r_w_14 := tq_lsub (lo := 23) (hi := 23) r_w_13 rk_96 (by decide +kernel) e_w_14
  have q_w_14 : w_13 - (96 : Int64) = w_14 := e_w_14.symm
  refine lv_lmul hx hb dX10_spelt_9 (lv_topl (fun w_15 e_w_15 => ?_))
  have r_w_15 := tq_lmul (lo := 621) (hi := 621) rk_27 r_w_14 (by decide +kernel) e_w_15
  have q_w_15 : (27 : Int64) * w_14 = w_15 := e_w_15.symm
  refine lv_iload_n hx hb dX10_spelt_10 rfl (lv_at hl 1 rfl) ?_
  obtain ⟨w_16, e_w_16⟩ : ∃ q9 : Int64, (p1 : Int32).toInt64 = q9 := ⟨_, rfl⟩
  refine lv_i2l (v := w_16) hx hb dX10_spelt_11 e_w_16 ?_
  have r_w_16 := tq_i2l r_p1 e_w_16
  have q_w_16 : Int32.toInt64 p1 = w_16 := e_w_16
  refine lv_ladd hx hb dX10_spelt_12 (lv_topl (fun w_17 e_w_17 => ?_))
  have r_w_17 := tq_ladd (lo := 726) (hi := 726) r_w_15 r_w_16 (by decide +kernel) e_w_17
  have q_w_17 : w_15 + w_16 = w_17 := e_w_17.symm
  refine lv_ldc2 (v := 96) hx hb hown (hts _ tw_1313) dX10_spelt_13 ?_
  refine lv_lsub hx hb dX10_spelt_16 (lv_topl (fun w_18 e_w_18 => ?_))
  have r_w_18 := tq_lsub (lo := 630) (hi := 630) r_w_17 rk_96 (by decide +kernel) e_w_18
  have q_w_18 : w_17 - (96 : Int64) = w_18 := e_w_18.symm
  refine lv_lstore (lv' := [(7, .long w_18), (0, .int p0), (1, .int p1), (2, .int p2), (3, .int p3), (4, .int p4), (5, .int p5), (6, .int p6)]) hx hb dX10_spelt_17 hl (by decide) rfl (fun ls hl => ?_)
  refine lv_iload_n hx hb dX10_spelt_19 rfl (lv_at hl 3 rfl) ?_
  refine lv_if_le (tgt := 38) hx hb dX10_spelt_20 (by decide) (fun c_20 => ?_) (fun c_20 => ?_)
  · have r_p2 : RI p2 115 0 := rc_le1 r_p2 rl_0 (ti_le c_20) (by decide)
    exact (r_p2.no (by decide)).elim
  · refine lv_ldc2 (v := 27) hx hb hown (hts _ tw_1312) dX10_spelt_23 ?_
    refine lv_lload hx hb dX10_spelt_26 (lv_at hl 0 rfl) ?_
    refine lv_lmul hx hb dX10_spelt_28 (lv_topl (fun w_19 e_w_19 => ?_))
    have r_w_19 := tq_lmul (lo := 17010) (hi := 17010) rk_27 r_w_18 (by decide +kernel) e_w_19
    have q_w_19 : (27 : Int64) * w_18 = w_19 := e_w_19.symm
    refine lv_iload_n hx hb dX10_spelt_29 rfl (lv_at hl 3 rfl) ?_
    obtain ⟨w_20, e_w_20⟩ : ∃ q9 : Int64, (p2 : Int32).toInt64 = q9 := ⟨_, rfl⟩
    refine lv_i2l (v := w_20) hx hb dX10_spelt_30 e_w_20 ?_
    have r_w_20 := tq_i2l r_p2 e_w_20
    have q_w_20 : Int32.toInt64 p2 = w_20 := e_w_20
    refine lv_ladd hx hb dX10_spelt_31 (lv_topl (fun w_21 e_w_21 => ?_))
    have r_w_21 := tq_ladd (lo := 17125) (hi := 17125) r_w_19 r_w_20 (by decide +kernel) e_w_21
    have q_w_21 : w_19 + w_20 = w_21 := e_w_21.symm
    refine lv_ldc2 (v := 96) hx hb hown (hts _ tw_1313) dX10_spelt_32 ?_
    refine lv_lsub hx hb dX10_spelt_35 (lv_topl (fun w_22 e_w_22 => ?_))
    have r_w_22 := tq_lsub (lo := 17029) (hi := 17029) r_w_21 rk_96 (by decide +kernel) e_w_22
    have q_w_22 : w_21 - (96 : Int64) = w_22 := e_w_22.symm
    refine lv_lstore (lv' := [(7, .long w_22), (0, .int p0), (1, .int p1), (2, .int p2), (3, .int p3), (4, .int p4), (5, .int p5), (6, .int p6)]) hx hb dX10_spelt_36 hl (by decide) rfl (fun ls hl => ?_)
    simp only [f_X10_spelt__30, ↓reduceIte, q_w_13, q_w_14, q_w_15, q_w_16, q_w_17, q_w_18, eq_false c_20, q_w_19, q_w_20, q_w_21, q_w_22] at hE
    exact B38 w_22 _ _ ls r_p0 r_p1 r_p2 r_p3 r_p4 r_p5 r_p6 r_w_22 hE hw (lv_sub hl [1, 2, 3, 4, 5, 6, 7, 0] rfl)
abbrev wr_X10_spelt__43 : List (Nat × Nat) := []
abbrev wa_X10_spelt__43 : List Nat := []
set_option maxHeartbeats 4000000 in
set_option maxRecDepth 100000 in
theorem c_X10_spelt__43 (l : Launch) (D : va_G) (cy : Nat → ClassId) (z : Nat → Nat) (sz : Nat) (Ps : PSI) (w0 : va_W) (hT : HT cy GG Ps w0) (p0 : Int32) (p1 : Int32) (p2 : Int32) (p3 : Int32) (p4 : Int32) (p5 : Int32) (p6 : Int32) (r_p0 : RI p0 103 103) (r_p1 : RI p1 117 117) (r_p2 : RI p2 101 101) (r_p3 : RI p3 115 115) (r_p4 : RI p4 115 115) (r_p5 : RI p5 101 101) (r_p6 : RI p6 115 115) : Met l yX10_spelt (Cond.code yX10_spelt cX10_spelt 9 (some .long) :: gT) ({ frames := 0, cells := 0, slots := 0, locals := 200 } : Room) (va_Pc [.int p0, .int p1, .int p2, .int p3, .int p4, .int p5, .int p6] (PRE D cy z w0 sz)) (va_Ql (fun (r : Int64) (u : Unit) => ((f_X10_spelt__37 p0 p1 p2 p3 p4 p5 p6) = r ∧ True) ∧ (RJ r 3016315657 3016315657)) (BB D cy (va_A w0 sz) (fun (u : Unit) => w0)) (va_A w0 sz)) 0 0 (va_A w0 sz) := by
  refine Met.ofW (cc := cX10_spelt) (maxL := 9) (ret := (some .long)) (by decide) rfl ?_
  intro p e s m args below meth c s₁ B hml hv
  obtain ⟨rfl, hsz, hP, hK, hD0, hSD⟩ := hv
  have hx := B.exec
  have hb := B.bytes
  have hr := B.returns
  have hlocks := B.notSynchronized
  have hts : ∀ w ∈ gT, w.before _ s = true := fun w h => atoms_spec (ws := Cond.code yX10_spelt cX10_spelt 9 (some .long) :: gT) B.pre w (List.mem_cons_of_mem _ h)
  have hown : s.vm.findClass RX10 = some m.cls := findClass_of_methodNamed B.named
  subst hsz
  have hD := hD0.self (sz := s.heap.size)
  generalize hAe : va_A w0 s.heap.size = A at hD hSD ⊢
  have hA : ∀ q : Nat, s.heap.size ≤ q → A q := fun q h => by rw [← hAe]; exact Or.inr h
  have hl := lv_entry ([.int p0, .int p1, .int p2, .int p3, .int p4, .int p5, .int p6]) (n := 9) (Nat.le_of_ble_eq_true rfl)
  rw [lg_entry_eq]
  generalize (lg_sl ([.int p0, .int p1, .int p2, .int p3, .int p4, .int p5, .int p6]) ++ List.replicate (9 - (lg_sl ([.int p0, .int p1, .int p2, .int p3, .int p4, .int p5, .int p6])).length) Slot.unset).toArray = ls at hl ⊢
  have hl : lv_has ls 9 [(0, .int p0), (1, .int p1), (2, .int p2), (3, .int p3), (4, .int p4), (5, .int p5), (6, .int p6)] := hl
  refine nameQ (fun Q hQ => ?_)
  have hw : WD D cy GG A s wr_X10_spelt__43 wa_X10_spelt__43 Ps w0 Ps w0 s.heap [] := ⟨hT, hP, hD, va_S.rf, FR.rf, hT.1, [], (List.append_nil _).symm⟩
  obtain ⟨R9, hR⟩ : ∃ q9 : Int64, f_X10_spelt__37 p0 p1 p2 p3 p4 p5 p6 = q9 := ⟨_, rfl⟩
  have hE := hR
  have B99 : ∀ (x7 : Int64) (H : Heap) (locs : List Loc) (ls : Array Slot), RI p0 103 103 → RI p1 117 117 → RI p2 101 101 → RI p3 115 115 → RI p4 115 115 → RI p5 101 101 → RI p6 115 115 → RJ x7 111715394 111715394 → f_X10_spelt__37_99 p0 p1 p2 p3 p4 p5 p6 x7 = R9 → WD D cy GG A s wr_X10_spelt__43 wa_X10_spelt__43 Ps w0 Ps w0 H locs → lv_has ls 9 [(0, .int p0), (1, .int p1), (2, .int p2), (3, .int p3), (4, .int p4), (5, .int p5), (6, .int p6), (7, .long x7)] → W p l e (headSpec (Cond.code yX10_spelt cX10_spelt 9 (some .long) :: gT) ({ frames := 0, cells := 0, slots := 0, locals := 200 } : Room)).room s m ([.int p0, .int p1, .int p2, .int p3, .int p4, .int p5, .int p6] : List Value).toArray below meth c H locs 0 0 Q (F0 m 99 ls []) := by
    intro x7 H locs ls r_p0 r_p1 r_p2 r_p3 r_p4 r_p5 r_p6 r_x7 hE hw hl
    refine lv_iload hx hb dX10_spelt_99 (lv_at hl 6 rfl) ?_
    refine lv_if_le (tgt := 120) hx hb dX10_spelt_101 (by decide) (fun c_101 => ?_) (fun c_101 => ?_)
    · have r_p6 : RI p6 115 0 := rc_le1 r_p6 rl_0 (ti_le c_101) (by decide)
      exact (r_p6.no (by decide)).elim
    · refine lv_ldc2 (v := 27) hx hb hown (hts _ tw_1312) dX10_spelt_104 ?_
      refine lv_lload hx hb dX10_spelt_107 (lv_at hl 7 rfl) ?_
      refine lv_lmul hx hb dX10_spelt_109 (lv_topl (fun w_1 e_w_1 => ?_))
      have r_w_1 := tq_lmul (lo := 3016315638) (hi := 3016315638) rk_27 r_x7 (by decide +kernel) e_w_1
      have q_w_1 : (27 : Int64) * x7 = w_1 := e_w_1.symm
      refine lv_iload hx hb dX10_spelt_110 (lv_at hl 6 rfl) ?_
      obtain ⟨w_2, e_w_2⟩ : ∃ q9 : Int64, (p6 : Int32).toInt64 = q9 := ⟨_, rfl⟩
      refine lv_i2l (v := w_2) hx hb dX10_spelt_112 e_w_2 ?_
      have r_w_2 := tq_i2l r_p6 e_w_2
      have q_w_2 : Int32.toInt64 p6 = w_2 := e_w_2
      refine lv_ladd hx hb dX10_spelt_113 (lv_topl (fun w_3 e_w_3 => ?_))
      have r_w_3 := tq_ladd (lo := 3016315753) (hi := 3016315753) r_w_1 r_w_2 (by decide +kernel) e_w_3
      have q_w_3 : w_1 + w_2 = w_3 := e_w_3.symm
      refine lv_ldc2 (v := 96) hx hb hown (hts _ tw_1313) dX10_spelt_114 ?_
      refine lv_lsub hx hb dX10_spelt_117 (lv_topl (fun w_4 e_w_4 => ?_))
      have r_w_4 := tq_lsub (lo := 3016315657) (hi := 3016315657) r_w_3 rk_96 (by decide +kernel) e_w_4
      have q_w_4 : w_3 - (96 : Int64) = w_4 := e_w_4.symm
      refine lv_lstore (lv' := [(7, .long w_4), (0, .int p0), (1, .int p1), (2, .int p2), (3, .int p3), (4, .int p4), (5, .int p5), (6, .int p6)]) hx hb dX10_spelt_118 hl (by decide) rfl (fun ls hl => ?_)
      refine lv_lload hx hb dX10_spelt_120 (lv_at hl 0 rfl) ?_
      simp only [f_X10_spelt__37_99, ↓reduceIte, eq_false c_101, q_w_1, q_w_2, q_w_3, q_w_4] at hE
      subst hQ
      exact W.lret (v := w_4) hx hb hr (fun t ht hW => ⟨⟨w_4, (), rfl, ⟨⟨(by rw [hR, ← hE]), trivial⟩, r_w_4.to (by decide)⟩, by rw [ht]; exact hw.2.1, va_K.moved hW.alike hK, hw.2.2.1⟩, hw.2.2.2.1.F ht⟩) hw.2.2.2.1.2.2 dX10_spelt_122
  have B78 : ∀ (x7 : Int64) (H : Heap) (locs : List Loc) (ls : Array Slot), RI p0 103 103 → RI p1 117 117 → RI p2 101 101 → RI p3 115 115 → RI p4 115 115 → RI p5 101 101 → RI p6 115 115 → RJ x7 4137607 4137607 → f_X10_spelt__37_78 p0 p1 p2 p3 p4 p5 p6 x7 = R9 → WD D cy GG A s wr_X10_spelt__43 wa_X10_spelt__43 Ps w0 Ps w0 H locs → lv_has ls 9 [(0, .int p0), (1, .int p1), (2, .int p2), (3, .int p3), (4, .int p4), (5, .int p5), (6, .int p6), (7, .long x7)] → W p l e (headSpec (Cond.code yX10_spelt cX10_spelt 9 (some .long) :: gT) ({ frames := 0, cells := 0, slots := 0, locals := 200 } : Room)).room s m ([.int p0, .int p1, .int p2, .int p3, .int p4, .int p5, .int p6] : List Value).toArray below meth c H locs 0 0 Q (F0 m 78 ls []) := by
    intro x7 H locs ls r_p0 r_p1 r_p2 r_p3 r_p4 r_p5 r_p6 r_x7 hE hw hl
    refine lv_iload hx hb dX10_spelt_78 (lv_at hl 5 rfl) ?_
    refine lv_if_le (tgt := 99) hx hb dX10_spelt_80 (by decide) (fun c_80 => ?_) (fun c_80 => ?_)
    · have r_p5 : RI p5 101 0 := rc_le1 r_p5 rl_0 (ti_le c_80) (by decide)
      exact (r_p5.no (by decide)).elim
    · refine lv_ldc2 (v := 27) hx hb hown (hts _ tw_1312) dX10_spelt_83 ?_
      refine lv_lload hx hb dX10_spelt_86 (lv_at hl 7 rfl) ?_
      refine lv_lmul hx hb dX10_spelt_88 (lv_topl (fun w_5 e_w_5 => ?_))
      have r_w_5 := tq_lmul (lo := 111715389) (hi := 111715389) rk_27 r_x7 (by decide +kernel) e_w_5
      have q_w_5 : (27 : Int64) * x7 = w_5 := e_w_5.symm
      refine lv_iload hx hb dX10_spelt_89 (lv_at hl 5 rfl) ?_
      obtain ⟨w_6, e_w_6⟩ : ∃ q9 : Int64, (p5 : Int32).toInt64 = q9 := ⟨_, rfl⟩
      refine lv_i2l (v := w_6) hx hb dX10_spelt_91 e_w_6 ?_
      have r_w_6 := tq_i2l r_p5 e_w_6
      have q_w_6 : Int32.toInt64 p5 = w_6 := e_w_6
      refine lv_ladd hx hb dX10_spelt_92 (lv_topl (fun w_7 e_w_7 => ?_))
      have r_w_7 := tq_ladd (lo := 111715490) (hi := 111715490) r_w_5 r_w_6 (by decide +kernel) e_w_7
      have q_w_7 : w_5 + w_6 = w_7 := e_w_7.symm
      refine lv_ldc2 (v := 96) hx hb hown (hts _ tw_1313) dX10_spelt_93 ?_
      refine lv_lsub hx hb dX10_spelt_96 (lv_topl (fun w_8 e_w_8 => ?_))
      have r_w_8 := tq_lsub (lo := 111715394) (hi := 111715394) r_w_7 rk_96 (by decide +kernel) e_w_8
      have q_w_8 : w_7 - (96 : Int64) = w_8 := e_w_8.symm
      refine lv_lstore (lv' := [(7, .long w_8), (0, .int p0), (1, .int p1), (2, .int p2), (3, .int p3), (4, .int p4), (5, .int p5), (6, .int p6)]) hx hb dX10_spelt_97 hl (by decide) rfl (fun ls hl => ?_)
      simp only [f_X10_spelt__37_78, ↓reduceIte, eq_false c_80, q_w_5, q_w_6, q_w_7, q_w_8] at hE
      exact B99 w_8 _ _ ls r_p0 r_p1 r_p2 r_p3 r_p4 r_p5 r_p6 r_w_8 hE hw (lv_sub hl [1, 2, 3, 4, 5, 6, 7, 0] rfl)
  have B57 : ∀ (x7 : Int64) (H : Heap) (locs : List Loc) (ls : Array Slot), RI p0 103 103 → RI p1 117 117 → RI p2 101 101 → RI p3 115 115 → RI p4 115 115 → RI p5 101 101 → RI p6 115 115 → RJ x7 153244 153244 → f_X10_spelt__37_57 p0 p1 p2 p3 p4 p5 p6 x7 = R9 → WD D cy GG A s wr_X10_spelt__43 wa_X10_spelt__43 Ps w0 Ps w0 H locs → lv_has ls 9 [(0, .int p0), (1, .int p1), (2, .int p2), (3, .int p3), (4, .int p4), (5, .int p5), (6, .int p6), (7, .long x7)] → W p l e (headSpec (Cond.code yX10_spelt cX10_spelt 9 (some .long) :: gT) ({ frames := 0, cells := 0, slots := 0, locals := 200 } : Room)).room s m ([.int p0, .int p1, .int p2, .int p3, .int p4, .int p5, .int p6] : List Value).toArray below meth c H locs 0 0 Q (F0 m 57 ls []) := by
    intro x7 H locs ls r_p0 r_p1 r_p2 r_p3 r_p4 r_p5 r_p6 r_x7 hE hw hl
    refine lv_iload hx hb dX10_spelt_57 (lv_at hl 4 rfl) ?_
    refine lv_if_le (tgt := 78) hx hb dX10_spelt_59 (by decide) (fun c_59 => ?_) (fun c_59 => ?_)
    · have r_p4 : RI p4 115 0 := rc_le1 r_p4 rl_0 (ti_le c_59) (by decide)
      exact (r_p4.no (by decide)).elim
    · refine lv_ldc2 (v := 27) hx hb hown (hts _ tw_1312) dX10_spelt_62 ?_
      refine lv_lload hx hb dX10_spelt_65 (lv_at hl 7 rfl) ?_
      refine lv_lmul hx hb dX10_spelt_67 (lv_topl (fun w_9 e_w_9 => ?_))
      have r_w_9 := tq_lmul (lo := 4137588) (hi := 4137588) rk_27 r_x7 (by decide +kernel) e_w_9
      have q_w_9 : (27 : Int64) * x7 = w_9 := e_w_9.symm
      refine lv_iload hx hb dX10_spelt_68 (lv_at hl 4 rfl) ?_
      obtain ⟨w_10, e_w_10⟩ : ∃ q9 : Int64, (p4 : Int32).toInt64 = q9 := ⟨_, rfl⟩
      refine lv_i2l (v := w_10) hx hb dX10_spelt_70 e_w_10 ?_
      have r_w_10 := tq_i2l r_p4 e_w_10
      have q_w_10 : Int32.toInt64 p4 = w_10 := e_w_10
      refine lv_ladd hx hb dX10_spelt_71 (lv_topl (fun w_11 e_w_11 => ?_))
      have r_w_11 := tq_ladd (lo := 4137703) (hi := 4137703) r_w_9 r_w_10 (by decide +kernel) e_w_11
      have q_w_11 : w_9 + w_10 = w_11 := e_w_11.symm
      refine lv_ldc2 (v := 96) hx hb hown (hts _ tw_1313) dX10_spelt_72 ?_
      refine lv_lsub hx hb dX10_spelt_75 (lv_topl (fun w_12 e_w_12 => ?_))
      have r_w_12 := tq_lsub (lo := 4137607) (hi := 4137607) r_w_11 rk_96 (by decide +kernel) e_w_12
      have q_w_12 : w_11 - (96 : Int64) = w_12 := e_w_12.symm
      refine lv_lstore (lv' := [(7, .long w_12), (0, .int p0), (1, .int p1), (2, .int p2), (3, .int p3), (4, .int p4), (5, .int p5), (6, .int p6)]) hx hb dX10_spelt_76 hl (by decide) rfl (fun ls hl => ?_)
      simp only [f_X10_spelt__37_57, ↓reduceIte, eq_false c_59, q_w_9, q_w_10, q_w_11, q_w_12] at hE
      exact B78 w_12 _ _ ls r_p0 r_p1 r_p2 r_p3 r_p4 r_p5 r_p6 r_w_12 hE hw (lv_sub hl [1, 2, 3, 4, 5, 6, 7, 0] rfl)
  have B38 : ∀ (x7 : Int64) (H : Heap) (locs : List Loc) (ls : Array Slot), RI p0 103 103 → RI p1 117 117 → RI p2 101 101 → RI p3 115 115 → RI p4 115 115 → RI p5 101 101 → RI p6 115 115 → RJ x7 5675 5675 → f_X10_spelt__37_38 p0 p1 p2 p3 p4 p5 p6 x7 = R9 → WD D cy GG A s wr_X10_spelt__43 wa_X10_spelt__43 Ps w0 Ps w0 H locs → lv_has ls 9 [(0, .int p0), (1, .int p1), (2, .int p2), (3, .int p3), (4, .int p4), (5, .int p5), (6, .int p6), (7, .long x7)] → W p l e (headSpec (Cond.code yX10_spelt cX10_spelt 9 (some .long) :: gT) ({ frames := 0, cells := 0, slots := 0, locals := 200 } : Room)).room s m ([.int p0, .int p1, .int p2, .int p3, .int p4, .int p5, .int p6] : List Value).toArray below meth c H locs 0 0 Q (F0 m 38 ls []) := by
    intro x7 H locs ls r_p0 r_p1 r_p2 r_p3 r_p4 r_p5 r_p6 r_x7 hE hw hl
    refine lv_iload_n hx hb dX10_spelt_38 rfl (lv_at hl 3 rfl) ?_
    refine lv_if_le (tgt := 57) hx hb dX10_spelt_39 (by decide) (fun c_39 => ?_) (fun c_39 => ?_)
    · have r_p3 : RI p3 115 0 := rc_le1 r_p3 rl_0 (ti_le c_39) (by decide)
      exact (r_p3.no (by decide)).elim
    · refine lv_ldc2 (v := 27) hx hb hown (hts _ tw_1312) dX10_spelt_42 ?_
      refine lv_lload hx hb dX10_spelt_45 (lv_at hl 7 rfl) ?_
      refine lv_lmul hx hb dX10_spelt_47 (lv_topl (fun w_13 e_w_13 => ?_))
      have r_w_13 := tq_lmul (lo := 153225) (hi := 153225) rk_27 r_x7 (by decide +kernel) e_w_13
      have q_w_13 : (27 : Int64) * x7 = w_13 := e_w_13.symm
      refine lv_iload_n hx hb dX10_spelt_48 rfl (lv_at hl 3 rfl) ?_
      obtain ⟨w_14, e_w_14⟩ : ∃ q9 : Int64, (p3 : Int32).toInt64 = q9 := ⟨_, rfl⟩
      refine lv_i2l (v := w_14) hx hb dX10_spelt_49 e_w_14 ?_
      have r_w_14 := tq_i2l r_p3 e_w_14
      have q_w_14 : Int32.toInt64 p3 = w_14 := e_w_14
      refine lv_ladd hx hb dX10_spelt_50 (lv_topl (fun w_15 e_w_15 => ?_))
      have r_w_15 := tq_ladd (lo := 153340) (hi := 153340) r_w_13 r_w_14 (by decide +kernel) e_w_15
      have q_w_15 : w_13 + w_14 = w_15 := e_w_15.symm
      refine lv_ldc2 (v := 96) hx hb hown (hts _ tw_1313) dX10_spelt_51 ?_
      refine lv_lsub hx hb dX10_spelt_54 (lv_topl (fun w_16 e_w_16 => ?_))
      have r_w_16 := tq_lsub (lo := 153244) (hi := 153244) r_w_15 rk_96 (by decide +kernel) e_w_16
      have q_w_16 : w_15 - (96 : Int64) = w_16 := e_w_16.symm
      refine lv_lstore (lv' := [(7, .long w_16), (0, .int p0), (1, .int p1), (2, .int p2), (3, .int p3), (4, .int p4), (5, .int p5), (6, .int p6)]) hx hb dX10_spelt_55 hl (by decide) rfl (fun ls hl => ?_)
      simp only [f_X10_spelt__37_38, ↓reduceIte, eq_false c_39, q_w_13, q_w_14, q_w_15, q_w_16] at hE
      exact B57 w_16 _ _ ls r_p0 r_p1 r_p2 r_p3 r_p4 r_p5 r_p6 r_w_16 hE hw (lv_sub hl [1, 2, 3, 4, 5, 6, 7, 0] rfl)
  refine lv_ldc2 (v := 27) hx hb hown (hts _ tw_1312) dX10_spelt_0 ?_
  refine lv_iload_n hx hb dX10_spelt_3 rfl (lv_at hl 0 rfl) ?_
  obtain ⟨w_17, e_w_17⟩ : ∃ q9 : Int64, (p0 : Int32).toInt64 = q9 := ⟨_, rfl⟩
  refine lv_i2l (v := w_17) hx hb dX10_spelt_4 e_w_17 ?_
  have r_w_17 := tq_i2l r_p0 e_w_17
  have q_w_17 : Int32.toInt64 p0 = w_17 := e_w_17
  refine lv_ldc2 (v := 96) hx hb hown (hts _ tw_1313) dX10_spelt_5 ?_
  refine lv_lsub hx hb dX10_spelt_8 (lv_topl (fun w_18 e_w_18 => ?_))
  have r_w_18 := tq_lsub (lo := 7) (hi := 7) r_w_17 rk_96 (by decide +kernel) e_w_18
  have q_w_18 : w_17 - (96 : Int64) = w_18 := e_w_18.symm
  refine lv_lmul hx hb dX10_spelt_9 (lv_topl (fun w_19 e_w_19 => ?_))
  have r_w_19 := tq_lmul (lo := 189) (hi := 189) rk_27 r_w_18 (by decide +kernel) e_w_19
  have q_w_19 : (27 : Int64) * w_18 = w_19 := e_w_19.symm
  refine lv_iload_n hx hb dX10_spelt_10 rfl (lv_at hl 1 rfl) ?_
  obtain ⟨w_20, e_w_20⟩ : ∃ q9 : Int64, (p1 : Int32).toInt64 = q9 := ⟨_, rfl⟩
  refine lv_i2l (v := w_20) hx hb dX10_spelt_11 e_w_20 ?_
  have r_w_20 := tq_i2l r_p1 e_w_20
  have q_w_20 : Int32.toInt64 p1 = w_20 := e_w_20
  refine lv_ladd hx hb dX10_spelt_12 (lv_topl (fun w_21 e_w_21 => ?_))
  have r_w_21 := tq_ladd (lo := 306) (hi := 306) r_w_19 r_w_20 (by decide +kernel) e_w_21
  have q_w_21 : w_19 + w_20 = w_21 := e_w_21.symm
  refine lv_ldc2 (v := 96) hx hb hown (hts _ tw_1313) dX10_spelt_13 ?_
  refine lv_lsub hx hb dX10_spelt_16 (lv_topl (fun w_22 e_w_22 => ?_))
  have r_w_22 := tq_lsub (lo := 210) (hi := 210) r_w_21 rk_96 (by decide +kernel) e_w_22
  have q_w_22 : w_21 - (96 : Int64) = w_22 := e_w_22.symm
  refine lv_lstore (lv' := [(7, .long w_22), (0, .int p0), (1, .int p1), (2, .int p2), (3, .int p3), (4, .int p4), (5, .int p5), (6, .int p6)]) hx hb dX10_spelt_17 hl (by decide) rfl (fun ls hl => ?_)
  refine lv_iload_n hx hb dX10_spelt_19 rfl (lv_at hl 3 rfl) ?_
  refine lv_if_le (tgt := 38) hx hb dX10_spelt_20 (by decide) (fun c_20 => ?_) (fun c_20 => ?_)
  · have r_p2 : RI p2 101 0 := rc_le1 r_p2 rl_0 (ti_le c_20) (by decide)
    exact (r_p2.no (by decide)).elim
  · refine lv_ldc2 (v := 27) hx hb hown (hts _ tw_1312) dX10_spelt_23 ?_
    refine lv_lload hx hb dX10_spelt_26 (lv_at hl 0 rfl) ?_
    refine lv_lmul hx hb dX10_spelt_28 (lv_topl (fun w_23 e_w_23 => ?_))
    have r_w_23 := tq_lmul (lo := 5670) (hi := 5670) rk_27 r_w_22 (by decide +kernel) e_w_23
    have q_w_23 : (27 : Int64) * w_22 = w_23 := e_w_23.symm
    refine lv_iload_n hx hb dX10_spelt_29 rfl (lv_at hl 3 rfl) ?_
    obtain ⟨w_24, e_w_24⟩ : ∃ q9 : Int64, (p2 : Int32).toInt64 = q9 := ⟨_, rfl⟩
    refine lv_i2l (v := w_24) hx hb dX10_spelt_30 e_w_24 ?_
    have r_w_24 := tq_i2l r_p2 e_w_24
    have q_w_24 : Int32.toInt64 p2 = w_24 := e_w_24
    refine lv_ladd hx hb dX10_spelt_31 (lv_topl (fun w_25 e_w_25 => ?_))
    have r_w_25 := tq_ladd (lo := 5771) (hi := 5771) r_w_23 r_w_24 (by decide +kernel) e_w_25
    have q_w_25 : w_23 + w_24 = w_25 := e_w_25.symm
    refine lv_ldc2 (v := 96) hx hb hown (hts _ tw_1313) dX10_spelt_32 ?_
    refine lv_lsub hx hb dX10_spelt_35 (lv_topl (fun w_26 e_w_26 => ?_))
    have r_w_26 := tq_lsub (lo := 5675) (hi := 5675) r_w_25 rk_96 (by decide +kernel) e_w_26
    have q_w_26 : w_25 - (96 : Int64) = w_26 := e_w_26.symm
    refine lv_lstore (lv' := [(7, .long w_26), (0, .int p0), (1, .int p1), (2, .int p2), (3, .int p3), (4, .int p4), (5, .int p5), (6, .int p6)]) hx hb dX10_spelt_36 hl (by decide) rfl (fun ls hl => ?_)
    simp only [f_X10_spelt__37, ↓reduceIte, q_w_17, q_w_18, q_w_19, q_w_20, q_w_21, q_w_22, eq_false c_20, q_w_23, q_w_24, q_w_25, q_w_26] at hE
    exact B38 w_26 _ _ ls r_p0 r_p1 r_p2 r_p3 r_p4 r_p5 r_p6 r_w_26 hE hw (lv_sub hl [1, 2, 3, 4, 5, 6, 7, 0] rfl)
abbrev wr_X10_spelt__44 : List (Nat × Nat) := []
abbrev wa_X10_spelt__44 : List Nat := []
set_option maxHeartbeats 4000000 in
set_option maxRecDepth 100000 in
theorem c_X10_spelt__44 (l : Launch) (D : va_G) (cy : Nat → ClassId) (z : Nat → Nat) (sz : Nat) (Ps : PSI) (w0 : va_W) (hT : HT cy GG Ps w0) (p0 : Int32) (p1 : Int32) (p2 : Int32) (p3 : Int32) (p4 : Int32) (p5 : Int32) (p6 : Int32) (r_p0 : RI p0 111 111) (r_p1 : RI p1 112 112) (r_p2 : RI p2 101 101) (r_p3 : RI p3 110 110) (r_p4 : RI p4 0 0) (r_p5 : RI p5 0 0) (r_p6 : RI p6 0 0) : Met l yX10_spelt (Cond.code yX10_spelt cX10_spelt 9 (some .long) :: gT) ({ frames := 0, cells := 0, slots := 0, locals := 200 } : Room) (va_Pc [.int p0, .int p1, .int p2, .int p3, .int p4, .int p5, .int p6] (PRE D cy z w0 sz)) (va_Ql (fun (r : Int64) (u : Unit) => ((f_X10_spelt__31 p0 p1 p2 p3 p4 p5 p6) = r ∧ True) ∧ (RJ r 307058 307058)) (BB D cy (va_A w0 sz) (fun (u : Unit) => w0)) (va_A w0 sz)) 0 0 (va_A w0 sz) := by
  refine Met.ofW (cc := cX10_spelt) (maxL := 9) (ret := (some .long)) (by decide) rfl ?_
  intro p e s m args below meth c s₁ B hml hv
  obtain ⟨rfl, hsz, hP, hK, hD0, hSD⟩ := hv
  have hx := B.exec
  have hb := B.bytes
  have hr := B.returns
  have hlocks := B.notSynchronized
  have hts : ∀ w ∈ gT, w.before _ s = true := fun w h => atoms_spec (ws := Cond.code yX10_spelt cX10_spelt 9 (some .long) :: gT) B.pre w (List.mem_cons_of_mem _ h)
  have hown : s.vm.findClass RX10 = some m.cls := findClass_of_methodNamed B.named
  subst hsz
  have hD := hD0.self (sz := s.heap.size)
  generalize hAe : va_A w0 s.heap.size = A at hD hSD ⊢
  have hA : ∀ q : Nat, s.heap.size ≤ q → A q := fun q h => by rw [← hAe]; exact Or.inr h
  have hl := lv_entry ([.int p0, .int p1, .int p2, .int p3, .int p4, .int p5, .int p6]) (n := 9) (Nat.le_of_ble_eq_true rfl)
  rw [lg_entry_eq]
  generalize (lg_sl ([.int p0, .int p1, .int p2, .int p3, .int p4, .int p5, .int p6]) ++ List.replicate (9 - (lg_sl ([.int p0, .int p1, .int p2, .int p3, .int p4, .int p5, .int p6])).length) Slot.unset).toArray = ls at hl ⊢
  have hl : lv_has ls 9 [(0, .int p0), (1, .int p1), (2, .int p2), (3, .int p3), (4, .int p4), (5, .int p5), (6, .int p6)] := hl
  refine nameQ (fun Q hQ => ?_)
  have hw : WD D cy GG A s wr_X10_spelt__44 wa_X10_spelt__44 Ps w0 Ps w0 s.heap [] := ⟨hT, hP, hD, va_S.rf, FR.rf, hT.1, [], (List.append_nil _).symm⟩
  obtain ⟨R9, hR⟩ : ∃ q9 : Int64, f_X10_spelt__31 p0 p1 p2 p3 p4 p5 p6 = q9 := ⟨_, rfl⟩
  have hE := hR
  have B99 : ∀ (x7 : Int64) (H : Heap) (locs : List Loc) (ls : Array Slot), RI p0 111 111 → RI p1 112 112 → RI p2 101 101 → RI p3 110 110 → RI p4 0 0 → RI p5 0 0 → RI p6 0 0 → RJ x7 307058 307058 → f_X10_spelt__31_99 p0 p1 p2 p3 p4 p5 p6 x7 = R9 → WD D cy GG A s wr_X10_spelt__44 wa_X10_spelt__44 Ps w0 Ps w0 H locs → lv_has ls 9 [(0, .int p0), (1, .int p1), (2, .int p2), (3, .int p3), (4, .int p4), (5, .int p5), (6, .int p6), (7, .long x7)] → W p l e (headSpec (Cond.code yX10_spelt cX10_spelt 9 (some .long) :: gT) ({ frames := 0, cells := 0, slots := 0, locals := 200 } : Room)).room s m ([.int p0, .int p1, .int p2, .int p3, .int p4, .int p5, .int p6] : List Value).toArray below meth c H locs 0 0 Q (F0 m 99 ls []) := by
    intro x7 H locs ls r_p0 r_p1 r_p2 r_p3 r_p4 r_p5 r_p6 r_x7 hE hw hl
    refine lv_iload hx hb dX10_spelt_99 (lv_at hl 6 rfl) ?_
    refine lv_if_le (tgt := 120) hx hb dX10_spelt_101 (by decide) (fun c_101 => ?_) (fun c_101 => ?_)
    · refine lv_lload hx hb dX10_spelt_120 (lv_at hl 7 rfl) ?_
      simp only [f_X10_spelt__31_99, ↓reduceIte, eq_true c_101] at hE
      subst hQ
      exact W.lret (v := x7) hx hb hr (fun t ht hW => ⟨⟨x7, (), rfl, ⟨⟨(by rw [hR, ← hE]), trivial⟩, r_x7.to (by decide)⟩, by rw [ht]; exact hw.2.1, va_K.moved hW.alike hK, hw.2.2.1⟩, hw.2.2.2.1.F ht⟩) hw.2.2.2.1.2.2 dX10_spelt_122
    · have r_p6 : RI p6 1 0 := rc_lt2 rl_0 r_p6 (ti_nle c_101) (by decide)
      exact (r_p6.no (by decide)).elim
  have B78 : ∀ (x7 : Int64) (H : Heap) (locs : List Loc) (ls : Array Slot), RI p0 111 111 → RI p1 112 112 → RI p2 101 101 → RI p3 110 110 → RI p4 0 0 → RI p5 0 0 → RI p6 0 0 → RJ x7 307058 307058 → f_X10_spelt__31_78 p0 p1 p2 p3 p4 p5 p6 x7 = R9 → WD D cy GG A s wr_X10_spelt__44 wa_X10_spelt__44 Ps w0 Ps w0 H locs → lv_has ls 9 [(0, .int p0), (1, .int p1), (2, .int p2), (3, .int p3), (4, .int p4), (5, .int p5), (6, .int p6), (7, .long x7)] → W p l e (headSpec (Cond.code yX10_spelt cX10_spelt 9 (some .long) :: gT) ({ frames := 0, cells := 0, slots := 0, locals := 200 } : Room)).room s m ([.int p0, .int p1, .int p2, .int p3, .int p4, .int p5, .int p6] : List Value).toArray below meth c H locs 0 0 Q (F0 m 78 ls []) := by
    intro x7 H locs ls r_p0 r_p1 r_p2 r_p3 r_p4 r_p5 r_p6 r_x7 hE hw hl
    refine lv_iload hx hb dX10_spelt_78 (lv_at hl 5 rfl) ?_
    refine lv_if_le (tgt := 99) hx hb dX10_spelt_80 (by decide) (fun c_80 => ?_) (fun c_80 => ?_)
    · simp only [f_X10_spelt__31_78, ↓reduceIte, eq_true c_80] at hE
      exact B99 x7 _ _ ls r_p0 r_p1 r_p2 r_p3 r_p4 r_p5 r_p6 r_x7 hE hw hl
    · have r_p5 : RI p5 1 0 := rc_lt2 rl_0 r_p5 (ti_nle c_80) (by decide)
      exact (r_p5.no (by decide)).elim
  have B57 : ∀ (x7 : Int64) (H : Heap) (locs : List Loc) (ls : Array Slot), RI p0 111 111 → RI p1 112 112 → RI p2 101 101 → RI p3 110 110 → RI p4 0 0 → RI p5 0 0 → RI p6 0 0 → RJ x7 307058 307058 → f_X10_spelt__31_57 p0 p1 p2 p3 p4 p5 p6 x7 = R9 → WD D cy GG A s wr_X10_spelt__44 wa_X10_spelt__44 Ps w0 Ps w0 H locs → lv_has ls 9 [(0, .int p0), (1, .int p1), (2, .int p2), (3, .int p3), (4, .int p4), (5, .int p5), (6, .int p6), (7, .long x7)] → W p l e (headSpec (Cond.code yX10_spelt cX10_spelt 9 (some .long) :: gT) ({ frames := 0, cells := 0, slots := 0, locals := 200 } : Room)).room s m ([.int p0, .int p1, .int p2, .int p3, .int p4, .int p5, .int p6] : List Value).toArray below meth c H locs 0 0 Q (F0 m 57 ls []) := by
    intro x7 H locs ls r_p0 r_p1 r_p2 r_p3 r_p4 r_p5 r_p6 r_x7 hE hw hl
    refine lv_iload hx hb dX10_spelt_57 (lv_at hl 4 rfl) ?_
    refine lv_if_le (tgt := 78) hx hb dX10_spelt_59 (by decide) (fun c_59 => ?_) (fun c_59 => ?_)
    · simp only [f_X10_spelt__31_57, ↓reduceIte, eq_true c_59] at hE
      exact B78 x7 _ _ ls r_p0 r_p1 r_p2 r_p3 r_p4 r_p5 r_p6 r_x7 hE hw hl
    · have r_p4 : RI p4 1 0 := rc_lt2 rl_0 r_p4 (ti_nle c_59) (by decide)
      exact (r_p4.no (by decide)).elim
  have B38 : ∀ (x7 : Int64) (H : Heap) (locs : List Loc) (ls : Array Slot), RI p0 111 111 → RI p1 112 112 → RI p2 101 101 → RI p3 110 110 → RI p4 0 0 → RI p5 0 0 → RI p6 0 0 → RJ x7 11372 11372 → f_X10_spelt__31_38 p0 p1 p2 p3 p4 p5 p6 x7 = R9 → WD D cy GG A s wr_X10_spelt__44 wa_X10_spelt__44 Ps w0 Ps w0 H locs → lv_has ls 9 [(0, .int p0), (1, .int p1), (2, .int p2), (3, .int p3), (4, .int p4), (5, .int p5), (6, .int p6), (7, .long x7)] → W p l e (headSpec (Cond.code yX10_spelt cX10_spelt 9 (some .long) :: gT) ({ frames := 0, cells := 0, slots := 0, locals := 200 } : Room)).room s m ([.int p0, .int p1, .int p2, .int p3, .int p4, .int p5, .int p6] : List Value).toArray below meth c H locs 0 0 Q (F0 m 38 ls []) := by
    intro x7 H locs ls r_p0 r_p1 r_p2 r_p3 r_p4 r_p5 r_p6 r_x7 hE hw hl
    refine lv_iload_n hx hb dX10_spelt_38 rfl (lv_at hl 3 rfl) ?_
    refine lv_if_le (tgt := 57) hx hb dX10_spelt_39 (by decide) (fun c_39 => ?_) (fun c_39 => ?_)
    · have r_p3 : RI p3 110 0 := rc_le1 r_p3 rl_0 (ti_le c_39) (by decide)
      exact (r_p3.no (by decide)).elim
    · refine lv_ldc2 (v := 27) hx hb hown (hts _ tw_1312) dX10_spelt_42 ?_
      refine lv_lload hx hb dX10_spelt_45 (lv_at hl 7 rfl) ?_
      refine lv_lmul hx hb dX10_spelt_47 (lv_topl (fun w_1 e_w_1 => ?_))
      have r_w_1 := tq_lmul (lo := 307044) (hi := 307044) rk_27 r_x7 (by decide +kernel) e_w_1
      have q_w_1 : (27 : Int64) * x7 = w_1 := e_w_1.symm
      refine lv_iload_n hx hb dX10_spelt_48 rfl (lv_at hl 3 rfl) ?_
      obtain ⟨w_2, e_w_2⟩ : ∃ q9 : Int64, (p3 : Int32).toInt64 = q9 := ⟨_, rfl⟩
      refine lv_i2l (v := w_2) hx hb dX10_spelt_49 e_w_2 ?_
      have r_w_2 := tq_i2l r_p3 e_w_2
      have q_w_2 : Int32.toInt64 p3 = w_2 := e_w_2
      refine lv_ladd hx hb dX10_spelt_50 (lv_topl (fun w_3 e_w_3 => ?_))
      have r_w_3 := tq_ladd (lo := 307154) (hi := 307154) r_w_1 r_w_2 (by decide +kernel) e_w_3
      have q_w_3 : w_1 + w_2 = w_3 := e_w_3.symm
      refine lv_ldc2 (v := 96) hx hb hown (hts _ tw_1313) dX10_spelt_51 ?_
      refine lv_lsub hx hb dX10_spelt_54 (lv_topl (fun w_4 e_w_4 => ?_))
      have r_w_4 := tq_lsub (lo := 307058) (hi := 307058) r_w_3 rk_96 (by decide +kernel) e_w_4
      have q_w_4 : w_3 - (96 : Int64) = w_4 := e_w_4.symm
      refine lv_lstore (lv' := [(7, .long w_4), (0, .int p0), (1, .int p1), (2, .int p2), (3, .int p3), (4, .int p4), (5, .int p5), (6, .int p6)]) hx hb dX10_spelt_55 hl (by decide) rfl (fun ls hl => ?_)
      simp only [f_X10_spelt__31_38, ↓reduceIte, eq_false c_39, q_w_1, q_w_2, q_w_3, q_w_4] at hE
      exact B57 w_4 _ _ ls r_p0 r_p1 r_p2 r_p3 r_p4 r_p5 r_p6 r_w_4 hE hw (lv_sub hl [1, 2, 3, 4, 5, 6, 7, 0] rfl)
  refine lv_ldc2 (v := 27) hx hb hown (hts _ tw_1312) dX10_spelt_0 ?_
  refine lv_iload_n hx hb dX10_spelt_3 rfl (lv_at hl 0 rfl) ?_
  obtain ⟨w_5, e_w_5⟩ : ∃ q9 : Int64, (p0 : Int32).toInt64 = q9 := ⟨_, rfl⟩
  refine lv_i2l (v := w_5) hx hb dX10_spelt_4 e_w_5 ?_
  have r_w_5 := tq_i2l r_p0 e_w_5
  have q_w_5 : Int32.toInt64 p0 = w_5 := e_w_5
  refine lv_ldc2 (v := 96) hx hb hown (hts _ tw_1313) dX10_spelt_5 ?_
  refine lv_lsub hx hb dX10_spelt_8 (lv_topl (fun w_6 e_w_6 => ?_))
  have r_w_6 := tq_lsub (lo := 15) (hi := 15) r_w_5 rk_96 (by decide +kernel) e_w_6
  have q_w_6 : w_5 - (96 : Int64) = w_6 := e_w_6.symm
  refine lv_lmul hx hb dX10_spelt_9 (lv_topl (fun w_7 e_w_7 => ?_))
  have r_w_7 := tq_lmul (lo := 405) (hi := 405) rk_27 r_w_6 (by decide +kernel) e_w_7
  have q_w_7 : (27 : Int64) * w_6 = w_7 := e_w_7.symm
  refine lv_iload_n hx hb dX10_spelt_10 rfl (lv_at hl 1 rfl) ?_
  obtain ⟨w_8, e_w_8⟩ : ∃ q9 : Int64, (p1 : Int32).toInt64 = q9 := ⟨_, rfl⟩
  refine lv_i2l (v := w_8) hx hb dX10_spelt_11 e_w_8 ?_
  have r_w_8 := tq_i2l r_p1 e_w_8
  have q_w_8 : Int32.toInt64 p1 = w_8 := e_w_8
  refine lv_ladd hx hb dX10_spelt_12 (lv_topl (fun w_9 e_w_9 => ?_))
  have r_w_9 := tq_ladd (lo := 517) (hi := 517) r_w_7 r_w_8 (by decide +kernel) e_w_9
  have q_w_9 : w_7 + w_8 = w_9 := e_w_9.symm
  refine lv_ldc2 (v := 96) hx hb hown (hts _ tw_1313) dX10_spelt_13 ?_
  refine lv_lsub hx hb dX10_spelt_16 (lv_topl (fun w_10 e_w_10 => ?_))
  have r_w_10 := tq_lsub (lo := 421) (hi := 421) r_w_9 rk_96 (by decide +kernel) e_w_10
  have q_w_10 : w_9 - (96 : Int64) = w_10 := e_w_10.symm
  refine lv_lstore (lv' := [(7, .long w_10), (0, .int p0), (1, .int p1), (2, .int p2), (3, .int p3), (4, .int p4), (5, .int p5), (6, .int p6)]) hx hb dX10_spelt_17 hl (by decide) rfl (fun ls hl => ?_)
  refine lv_iload_n hx hb dX10_spelt_19 rfl (lv_at hl 3 rfl) ?_
  refine lv_if_le (tgt := 38) hx hb dX10_spelt_20 (by decide) (fun c_20 => ?_) (fun c_20 => ?_)
  · have r_p2 : RI p2 101 0 := rc_le1 r_p2 rl_0 (ti_le c_20) (by decide)
    exact (r_p2.no (by decide)).elim
  · refine lv_ldc2 (v := 27) hx hb hown (hts _ tw_1312) dX10_spelt_23 ?_
    refine lv_lload hx hb dX10_spelt_26 (lv_at hl 0 rfl) ?_
    refine lv_lmul hx hb dX10_spelt_28 (lv_topl (fun w_11 e_w_11 => ?_))
    have r_w_11 := tq_lmul (lo := 11367) (hi := 11367) rk_27 r_w_10 (by decide +kernel) e_w_11
    have q_w_11 : (27 : Int64) * w_10 = w_11 := e_w_11.symm
    refine lv_iload_n hx hb dX10_spelt_29 rfl (lv_at hl 3 rfl) ?_
    obtain ⟨w_12, e_w_12⟩ : ∃ q9 : Int64, (p2 : Int32).toInt64 = q9 := ⟨_, rfl⟩
    refine lv_i2l (v := w_12) hx hb dX10_spelt_30 e_w_12 ?_
    have r_w_12 := tq_i2l r_p2 e_w_12
    have q_w_12 : Int32.toInt64 p2 = w_12 := e_w_12
    refine lv_ladd hx hb dX10_spelt_31 (lv_topl (fun w_13 e_w_13 => ?_))
    have r_w_13 := tq_ladd (lo := 11468) (hi := 11468) r_w_11 r_w_12 (by decide +kernel) e_w_13
    have q_w_13 : w_11 + w_12 = w_13 := e_w_13.symm
    refine lv_ldc2 (v := 96) hx hb hown (hts _ tw_1313) dX10_spelt_32 ?_
    refine lv_lsub hx hb dX10_spelt_35 (lv_topl (fun w_14 e_w_14 => ?_))
    have r_w_14 := tq_lsub (lo := 11372) (hi := 11372) r_w_13 rk_96 (by decide +kernel) e_w_14
    have q_w_14 : w_13 - (96 : Int64) = w_14 := e_w_14.symm
    refine lv_lstore (lv' := [(7, .long w_14), (0, .int p0), (1, .int p1), (2, .int p2), (3, .int p3), (4, .int p4), (5, .int p5), (6, .int p6)]) hx hb dX10_spelt_36 hl (by decide) rfl (fun ls hl => ?_)
    simp only [f_X10_spelt__31, ↓reduceIte, q_w_5, q_w_6, q_w_7, q_w_8, q_w_9, q_w_10, eq_false c_20, q_w_11, q_w_12, q_w_13, q_w_14] at hE
    exact B38 w_14 _ _ ls r_p0 r_p1 r_p2 r_p3 r_p4 r_p5 r_p6 r_w_14 hE hw (lv_sub hl [1, 2, 3, 4, 5, 6, 7, 0] rfl)
abbrev wr_X10_spelt__45 : List (Nat × Nat) := []
abbrev wa_X10_spelt__45 : List Nat := []
set_option maxHeartbeats 4000000 in
set_option maxRecDepth 100000 in
theorem c_X10_spelt__45 (l : Launch) (D : va_G) (cy : Nat → ClassId) (z : Nat → Nat) (sz : Nat) (Ps : PSI) (w0 : va_W) (hT : HT cy GG Ps w0) (p0 : Int32) (p1 : Int32) (p2 : Int32) (p3 : Int32) (p4 : Int32) (p5 : Int32) (p6 : Int32) (r_p0 : RI p0 99 99) (r_p1 : RI p1 97 97) (r_p2 : RI p2 114 114) (r_p3 : RI p3 114 114) (r_p4 : RI p4 121 121) (r_p5 : RI p5 0 0) (r_p6 : RI p6 0 0) : Met l yX10_spelt (Cond.code yX10_spelt cX10_spelt 9 (some .long) :: gT) ({ frames := 0, cells := 0, slots := 0, locals := 200 } : Room) (va_Pc [.int p0, .int p1, .int p2, .int p3, .int p4, .int p5, .int p6] (PRE D cy z w0 sz)) (va_Ql (fun (r : Int64) (u : Unit) => ((f_X10_spelt__39 p0 p1 p2 p3 p4 p5 p6) = r ∧ True) ∧ (RJ r 1627639 1627639)) (BB D cy (va_A w0 sz) (fun (u : Unit) => w0)) (va_A w0 sz)) 0 0 (va_A w0 sz) := by
  refine Met.ofW (cc := cX10_spelt) (maxL := 9) (ret := (some .long)) (by decide) rfl ?_
  intro p e s m args below meth c s₁ B hml hv
  obtain ⟨rfl, hsz, hP, hK, hD0, hSD⟩ := hv
  have hx := B.exec
  have hb := B.bytes
  have hr := B.returns
  have hlocks := B.notSynchronized
  have hts : ∀ w ∈ gT, w.before _ s = true := fun w h => atoms_spec (ws := Cond.code yX10_spelt cX10_spelt 9 (some .long) :: gT) B.pre w (List.mem_cons_of_mem _ h)
  have hown : s.vm.findClass RX10 = some m.cls := findClass_of_methodNamed B.named
  subst hsz
  have hD := hD0.self (sz := s.heap.size)
  generalize hAe : va_A w0 s.heap.size = A at hD hSD ⊢
  have hA : ∀ q : Nat, s.heap.size ≤ q → A q := fun q h => by rw [← hAe]; exact Or.inr h
  have hl := lv_entry ([.int p0, .int p1, .int p2, .int p3, .int p4, .int p5, .int p6]) (n := 9) (Nat.le_of_ble_eq_true rfl)
  rw [lg_entry_eq]
  generalize (lg_sl ([.int p0, .int p1, .int p2, .int p3, .int p4, .int p5, .int p6]) ++ List.replicate (9 - (lg_sl ([.int p0, .int p1, .int p2, .int p3, .int p4, .int p5, .int p6])).length) Slot.unset).toArray = ls at hl ⊢
  have hl : lv_has ls 9 [(0, .int p0), (1, .int p1), (2, .int p2), (3, .int p3), (4, .int p4), (5, .int p5), (6, .int p6)] := hl
  refine nameQ (fun Q hQ => ?_)
  have hw : WD D cy GG A s wr_X10_spelt__45 wa_X10_spelt__45 Ps w0 Ps w0 s.heap [] := ⟨hT, hP, hD, va_S.rf, FR.rf, hT.1, [], (List.append_nil _).symm⟩
  obtain ⟨R9, hR⟩ : ∃ q9 : Int64, f_X10_spelt__39 p0 p1 p2 p3 p4 p5 p6 = q9 := ⟨_, rfl⟩
  have hE := hR
  have B99 : ∀ (x7 : Int64) (H : Heap) (locs : List Loc) (ls : Array Slot), RI p0 99 99 → RI p1 97 97 → RI p2 114 114 → RI p3 114 114 → RI p4 121 121 → RI p5 0 0 → RI p6 0 0 → RJ x7 1627639 1627639 → f_X10_spelt__39_99 p0 p1 p2 p3 p4 p5 p6 x7 = R9 → WD D cy GG A s wr_X10_spelt__45 wa_X10_spelt__45 Ps w0 Ps w0 H locs → lv_has ls 9 [(0, .int p0), (1, .int p1), (2, .int p2), (3, .int p3), (4, .int p4), (5, .int p5), (6, .int p6), (7, .long x7)] → W p l e (headSpec (Cond.code yX10_spelt cX10_spelt 9 (some .long) :: gT) ({ frames := 0, cells := 0, slots := 0, locals := 200 } : Room)).room s m ([.int p0, .int p1, .int p2, .int p3, .int p4, .int p5, .int p6] : List Value).toArray below meth c H locs 0 0 Q (F0 m 99 ls []) := by
    intro x7 H locs ls r_p0 r_p1 r_p2 r_p3 r_p4 r_p5 r_p6 r_x7 hE hw hl
    refine lv_iload hx hb dX10_spelt_99 (lv_at hl 6 rfl) ?_
    refine lv_if_le (tgt := 120) hx hb dX10_spelt_101 (by decide) (fun c_101 => ?_) (fun c_101 => ?_)
    · refine lv_lload hx hb dX10_spelt_120 (lv_at hl 7 rfl) ?_
      simp only [f_X10_spelt__39_99, ↓reduceIte, eq_true c_101] at hE
      subst hQ
      exact W.lret (v := x7) hx hb hr (fun t ht hW => ⟨⟨x7, (), rfl, ⟨⟨(by rw [hR, ← hE]), trivial⟩, r_x7.to (by decide)⟩, by rw [ht]; exact hw.2.1, va_K.moved hW.alike hK, hw.2.2.1⟩, hw.2.2.2.1.F ht⟩) hw.2.2.2.1.2.2 dX10_spelt_122
    · have r_p6 : RI p6 1 0 := rc_lt2 rl_0 r_p6 (ti_nle c_101) (by decide)
      exact (r_p6.no (by decide)).elim
  have B78 : ∀ (x7 : Int64) (H : Heap) (locs : List Loc) (ls : Array Slot), RI p0 99 99 → RI p1 97 97 → RI p2 114 114 → RI p3 114 114 → RI p4 121 121 → RI p5 0 0 → RI p6 0 0 → RJ x7 1627639 1627639 → f_X10_spelt__39_78 p0 p1 p2 p3 p4 p5 p6 x7 = R9 → WD D cy GG A s wr_X10_spelt__45 wa_X10_spelt__45 Ps w0 Ps w0 H locs → lv_has ls 9 [(0, .int p0), (1, .int p1), (2, .int p2), (3, .int p3), (4, .int p4), (5, .int p5), (6, .int p6), (7, .long x7)] → W p l e (headSpec (Cond.code yX10_spelt cX10_spelt 9 (some .long) :: gT) ({ frames := 0, cells := 0, slots := 0, locals := 200 } : Room)).room s m ([.int p0, .int p1, .int p2, .int p3, .int p4, .int p5, .int p6] : List Value).toArray below meth c H locs 0 0 Q (F0 m 78 ls []) := by
    intro x7 H locs ls r_p0 r_p1 r_p2 r_p3 r_p4 r_p5 r_p6 r_x7 hE hw hl
    refine lv_iload hx hb dX10_spelt_78 (lv_at hl 5 rfl) ?_
    refine lv_if_le (tgt := 99) hx hb dX10_spelt_80 (by decide) (fun c_80 => ?_) (fun c_80 => ?_)
    · simp only [f_X10_spelt__39_78, ↓reduceIte, eq_true c_80] at hE
      exact B99 x7 _ _ ls r_p0 r_p1 r_p2 r_p3 r_p4 r_p5 r_p6 r_x7 hE hw hl
    · have r_p5 : RI p5 1 0 := rc_lt2 rl_0 r_p5 (ti_nle c_80) (by decide)
      exact (r_p5.no (by decide)).elim
  have B57 : ∀ (x7 : Int64) (H : Heap) (locs : List Loc) (ls : Array Slot), RI p0 99 99 → RI p1 97 97 → RI p2 114 114 → RI p3 114 114 → RI p4 121 121 → RI p5 0 0 → RI p6 0 0 → RJ x7 60282 60282 → f_X10_spelt__39_57 p0 p1 p2 p3 p4 p5 p6 x7 = R9 → WD D cy GG A s wr_X10_spelt__45 wa_X10_spelt__45 Ps w0 Ps w0 H locs → lv_has ls 9 [(0, .int p0), (1, .int p1), (2, .int p2), (3, .int p3), (4, .int p4), (5, .int p5), (6, .int p6), (7, .long x7)] → W p l e (headSpec (Cond.code yX10_spelt cX10_spelt 9 (some .long) :: gT) ({ frames := 0, cells := 0, slots := 0, locals := 200 } : Room)).room s m ([.int p0, .int p1, .int p2, .int p3, .int p4, .int p5, .int p6] : List Value).toArray below meth c H locs 0 0 Q (F0 m 57 ls []) := by
    intro x7 H locs ls r_p0 r_p1 r_p2 r_p3 r_p4 r_p5 r_p6 r_x7 hE hw hl
    refine lv_iload hx hb dX10_spelt_57 (lv_at hl 4 rfl) ?_
    refine lv_if_le (tgt := 78) hx hb dX10_spelt_59 (by decide) (fun c_59 => ?_) (fun c_59 => ?_)
    · have r_p4 : RI p4 121 0 := rc_le1 r_p4 rl_0 (ti_le c_59) (by decide)
      exact (r_p4.no (by decide)).elim
    · refine lv_ldc2 (v := 27) hx hb hown (hts _ tw_1312) dX10_spelt_62 ?_
      refine lv_lload hx hb dX10_spelt_65 (lv_at hl 7 rfl) ?_
      refine lv_lmul hx hb dX10_spelt_67 (lv_topl (fun w_1 e_w_1 => ?_))
      have r_w_1 := tq_lmul (lo := 1627614) (hi := 1627614) rk_27 r_x7 (by decide +kernel) e_w_1
      have q_w_1 : (27 : Int64) * x7 = w_1 := e_w_1.symm
      refine lv_iload hx hb dX10_spelt_68 (lv_at hl 4 rfl) ?_
      obtain ⟨w_2, e_w_2⟩ : ∃ q9 : Int64, (p4 : Int32).toInt64 = q9 := ⟨_, rfl⟩
      refine lv_i2l (v := w_2) hx hb dX10_spelt_70 e_w_2 ?_
      have r_w_2 := tq_i2l r_p4 e_w_2
      have q_w_2 : Int32.toInt64 p4 = w_2 := e_w_2
      refine lv_ladd hx hb dX10_spelt_71 (lv_topl (fun w_3 e_w_3 => ?_))
      have r_w_3 := tq_ladd (lo := 1627735) (hi := 1627735) r_w_1 r_w_2 (by decide +kernel) e_w_3
      have q_w_3 : w_1 + w_2 = w_3 := e_w_3.symm
      refine lv_ldc2 (v := 96) hx hb hown (hts _ tw_1313) dX10_spelt_72 ?_
      refine lv_lsub hx hb dX10_spelt_75 (lv_topl (fun w_4 e_w_4 => ?_))
      have r_w_4 := tq_lsub (lo := 1627639) (hi := 1627639) r_w_3 rk_96 (by decide +kernel) e_w_4
      have q_w_4 : w_3 - (96 : Int64) = w_4 := e_w_4.symm
      refine lv_lstore (lv' := [(7, .long w_4), (0, .int p0), (1, .int p1), (2, .int p2), (3, .int p3), (4, .int p4), (5, .int p5), (6, .int p6)]) hx hb dX10_spelt_76 hl (by decide) rfl (fun ls hl => ?_)
      simp only [f_X10_spelt__39_57, ↓reduceIte, eq_false c_59, q_w_1, q_w_2, q_w_3, q_w_4] at hE
      exact B78 w_4 _ _ ls r_p0 r_p1 r_p2 r_p3 r_p4 r_p5 r_p6 r_w_4 hE hw (lv_sub hl [1, 2, 3, 4, 5, 6, 7, 0] rfl)
  have B38 : ∀ (x7 : Int64) (H : Heap) (locs : List Loc) (ls : Array Slot), RI p0 99 99 → RI p1 97 97 → RI p2 114 114 → RI p3 114 114 → RI p4 121 121 → RI p5 0 0 → RI p6 0 0 → RJ x7 2232 2232 → f_X10_spelt__39_38 p0 p1 p2 p3 p4 p5 p6 x7 = R9 → WD D cy GG A s wr_X10_spelt__45 wa_X10_spelt__45 Ps w0 Ps w0 H locs → lv_has ls 9 [(0, .int p0), (1, .int p1), (2, .int p2), (3, .int p3), (4, .int p4), (5, .int p5), (6, .int p6), (7, .long x7)] → W p l e (headSpec (Cond.code yX10_spelt cX10_spelt 9 (some .long) :: gT) ({ frames := 0, cells := 0, slots := 0, locals := 200 } : Room)).room s m ([.int p0, .int p1, .int p2, .int p3, .int p4, .int p5, .int p6] : List Value).toArray below meth c H locs 0 0 Q (F0 m 38 ls []) := by
    intro x7 H locs ls r_p0 r_p1 r_p2 r_p3 r_p4 r_p5 r_p6 r_x7 hE hw hl
    refine lv_iload_n hx hb dX10_spelt_38 rfl (lv_at hl 3 rfl) ?_
    refine lv_if_le (tgt := 57) hx hb dX10_spelt_39 (by decide) (fun c_39 => ?_) (fun c_39 => ?_)
    · have r_p3 : RI p3 114 0 := rc_le1 r_p3 rl_0 (ti_le c_39) (by decide)
      exact (r_p3.no (by decide)).elim
    · refine lv_ldc2 (v := 27) hx hb hown (hts _ tw_1312) dX10_spelt_42 ?_
      refine lv_lload hx hb dX10_spelt_45 (lv_at hl 7 rfl) ?_
      refine lv_lmul hx hb dX10_spelt_47 (lv_topl (fun w_5 e_w_5 => ?_))
      have r_w_5 := tq_lmul (lo := 60264) (hi := 60264) rk_27 r_x7 (by decide +kernel) e_w_5
      have q_w_5 : (27 : Int64) * x7 = w_5 := e_w_5.symm
      refine lv_iload_n hx hb dX10_spelt_48 rfl (lv_at hl 3 rfl) ?_
      obtain ⟨w_6, e_w_6⟩ : ∃ q9 : Int64, (p3 : Int32).toInt64 = q9 := ⟨_, rfl⟩
      refine lv_i2l (v := w_6) hx hb dX10_spelt_49 e_w_6 ?_
      have r_w_6 := tq_i2l r_p3 e_w_6
      have q_w_6 : Int32.toInt64 p3 = w_6 := e_w_6
      refine lv_ladd hx hb dX10_spelt_50 (lv_topl (fun w_7 e_w_7 => ?_))
      have r_w_7 := tq_ladd (lo := 60378) (hi := 60378) r_w_5 r_w_6 (by decide +kernel) e_w_7
      have q_w_7 : w_5 + w_6 = w_7 := e_w_7.symm
      refine lv_ldc2 (v := 96) hx hb hown (hts _ tw_1313) dX10_spelt_51 ?_
      refine lv_lsub hx hb dX10_spelt_54 (lv_topl (fun w_8 e_w_8 => ?_))
      have r_w_8 := tq_lsub (lo := 60282) (hi := 60282) r_w_7 rk_96 (by decide +kernel) e_w_8
      have q_w_8 : w_7 - (96 : Int64) = w_8 := e_w_8.symm
      refine lv_lstore (lv' := [(7, .long w_8), (0, .int p0), (1, .int p1), (2, .int p2), (3, .int p3), (4, .int p4), (5, .int p5), (6, .int p6)]) hx hb dX10_spelt_55 hl (by decide) rfl (fun ls hl => ?_)
      simp only [f_X10_spelt__39_38, ↓reduceIte, eq_false c_39, q_w_5, q_w_6, q_w_7, q_w_8] at hE
      exact B57 w_8 _ _ ls r_p0 r_p1 r_p2 r_p3 r_p4 r_p5 r_p6 r_w_8 hE hw (lv_sub hl [1, 2, 3, 4, 5, 6, 7, 0] rfl)
  refine lv_ldc2 (v := 27) hx hb hown (hts _ tw_1312) dX10_spelt_0 ?_
  refine lv_iload_n hx hb dX10_spelt_3 rfl (lv_at hl 0 rfl) ?_
  obtain ⟨w_9, e_w_9⟩ : ∃ q9 : Int64, (p0 : Int32).toInt64 = q9 := ⟨_, rfl⟩
  refine lv_i2l (v := w_9) hx hb dX10_spelt_4 e_w_9 ?_
  have r_w_9 := tq_i2l r_p0 e_w_9
  have q_w_9 : Int32.toInt64 p0 = w_9 := e_w_9
  refine lv_ldc2 (v := 96) hx hb hown (hts _ tw_1313) dX10_spelt_5 ?_
  refine lv_lsub hx hb dX10_spelt_8 (lv_topl (fun w_10 e_w_10 => ?_))
  have r_w_10 := tq_lsub (lo := 3) (hi := 3) r_w_9 rk_96 (by decide +kernel) e_w_10
  have q_w_10 : w_9 - (96 : Int64) = w_10 := e_w_10.symm
  refine lv_lmul hx hb dX10_spelt_9 (lv_topl (fun w_11 e_w_11 => ?_))
  have r_w_11 := tq_lmul (lo := 81) (hi := 81) rk_27 r_w_10 (by decide +kernel) e_w_11
  have q_w_11 : (27 : Int64) * w_10 = w_11 := e_w_11.symm
  refine lv_iload_n hx hb dX10_spelt_10 rfl (lv_at hl 1 rfl) ?_
  obtain ⟨w_12, e_w_12⟩ : ∃ q9 : Int64, (p1 : Int32).toInt64 = q9 := ⟨_, rfl⟩
  refine lv_i2l (v := w_12) hx hb dX10_spelt_11 e_w_12 ?_
  have r_w_12 := tq_i2l r_p1 e_w_12
  have q_w_12 : Int32.toInt64 p1 = w_12 := e_w_12
  refine lv_ladd hx hb dX10_spelt_12 (lv_topl (fun w_13 e_w_13 => ?_))
  have r_w_13 := tq_ladd (lo := 178) (hi := 178) r_w_11 r_w_12 (by decide +kernel) e_w_13
  have q_w_13 : w_11 + w_12 = w_13 := e_w_13.symm
  refine lv_ldc2 (v := 96) hx hb hown (hts _ tw_1313) dX10_spelt_13 ?_
  refine lv_lsub hx hb dX10_spelt_16 (lv_topl (fun w_14 e_w_14 => ?_))
  have r_w_14 := tq_lsub (lo := 82) (hi := 82) r_w_13 rk_96 (by decide +kernel) e_w_14
  have q_w_14 : w_13 - (96 : Int64) = w_14 := e_w_14.symm
  refine lv_lstore (lv' := [(7, .long w_14), (0, .int p0), (1, .int p1), (2, .int p2), (3, .int p3), (4, .int p4), (5, .int p5), (6, .int p6)]) hx hb dX10_spelt_17 hl (by decide) rfl (fun ls hl => ?_)
  refine lv_iload_n hx hb dX10_spelt_19 rfl (lv_at hl 3 rfl) ?_
  refine lv_if_le (tgt := 38) hx hb dX10_spelt_20 (by decide) (fun c_20 => ?_) (fun c_20 => ?_)
  · have r_p2 : RI p2 114 0 := rc_le1 r_p2 rl_0 (ti_le c_20) (by decide)
    exact (r_p2.no (by decide)).elim
  · refine lv_ldc2 (v := 27) hx hb hown (hts _ tw_1312) dX10_spelt_23 ?_
    refine lv_lload hx hb dX10_spelt_26 (lv_at hl 0 rfl) ?_
    refine lv_lmul hx hb dX10_spelt_28 (lv_topl (fun w_15 e_w_15 => ?_))
    have r_w_15 := tq_lmul (lo := 2214) (hi := 2214) rk_27 r_w_14 (by decide +kernel) e_w_15
    have q_w_15 : (27 : Int64) * w_14 = w_15 := e_w_15.symm
    refine lv_iload_n hx hb dX10_spelt_29 rfl (lv_at hl 3 rfl) ?_
    obtain ⟨w_16, e_w_16⟩ : ∃ q9 : Int64, (p2 : Int32).toInt64 = q9 := ⟨_, rfl⟩
    refine lv_i2l (v := w_16) hx hb dX10_spelt_30 e_w_16 ?_
    have r_w_16 := tq_i2l r_p2 e_w_16
    have q_w_16 : Int32.toInt64 p2 = w_16 := e_w_16
    refine lv_ladd hx hb dX10_spelt_31 (lv_topl (fun w_17 e_w_17 => ?_))
    have r_w_17 := tq_ladd (lo := 2328) (hi := 2328) r_w_15 r_w_16 (by decide +kernel) e_w_17
    have q_w_17 : w_15 + w_16 = w_17 := e_w_17.symm
    refine lv_ldc2 (v := 96) hx hb hown (hts _ tw_1313) dX10_spelt_32 ?_
    refine lv_lsub hx hb dX10_spelt_35 (lv_topl (fun w_18 e_w_18 => ?_))
    have r_w_18 := tq_lsub (lo := 2232) (hi := 2232) r_w_17 rk_96 (by decide +kernel) e_w_18
    have q_w_18 : w_17 - (96 : Int64) = w_18 := e_w_18.symm
    refine lv_lstore (lv' := [(7, .long w_18), (0, .int p0), (1, .int p1), (2, .int p2), (3, .int p3), (4, .int p4), (5, .int p5), (6, .int p6)]) hx hb dX10_spelt_36 hl (by decide) rfl (fun ls hl => ?_)
    simp only [f_X10_spelt__39, ↓reduceIte, q_w_9, q_w_10, q_w_11, q_w_12, q_w_13, q_w_14, eq_false c_20, q_w_15, q_w_16, q_w_17, q_w_18] at hE
    exact B38 w_18 _ _ ls r_p0 r_p1 r_p2 r_p3 r_p4 r_p5 r_p6 r_w_18 hE hw (lv_sub hl [1, 2, 3, 4, 5, 6, 7, 0] rfl)
abbrev wr_X10_spelt__46 : List (Nat × Nat) := []
abbrev wa_X10_spelt__46 : List Nat := []
set_option maxHeartbeats 4000000 in
set_option maxRecDepth 100000 in
theorem c_X10_spelt__46 (l : Launch) (D : va_G) (cy : Nat → ClassId) (z : Nat → Nat) (sz : Nat) (Ps : PSI) (w0 : va_W) (hT : HT cy GG Ps w0) (p0 : Int32) (p1 : Int32) (p2 : Int32) (p3 : Int32) (p4 : Int32) (p5 : Int32) (p6 : Int32) (r_p0 : RI p0 100 100) (r_p1 : RI p1 97 97) (r_p2 : RI p2 121 121) (r_p3 : RI p3 0 0) (r_p4 : RI p4 0 0) (r_p5 : RI p5 0 0) (r_p6 : RI p6 0 0) : Met l yX10_spelt (Cond.code yX10_spelt cX10_spelt 9 (some .long) :: gT) ({ frames := 0, cells := 0, slots := 0, locals := 200 } : Room) (va_Pc [.int p0, .int p1, .int p2, .int p3, .int p4, .int p5, .int p6] (PRE D cy z w0 sz)) (va_Ql (fun (r : Int64) (u : Unit) => ((f_X10_spelt__36 p0 p1 p2 p3 p4 p5 p6) = r ∧ True) ∧ (RJ r 2968 2968)) (BB D cy (va_A w0 sz) (fun (u : Unit) => w0)) (va_A w0 sz)) 0 0 (va_A w0 sz) := by
  refine Met.ofW (cc := cX10_spelt) (maxL := 9) (ret := (some .long)) (by decide) rfl ?_
  intro p e s m args below meth c s₁ B hml hv
  obtain ⟨rfl, hsz, hP, hK, hD0, hSD⟩ := hv
  have hx := B.exec
  have hb := B.bytes
  have hr := B.returns
  have hlocks := B.notSynchronized
  have hts : ∀ w ∈ gT, w.before _ s = true := fun w h => atoms_spec (ws := Cond.code yX10_spelt cX10_spelt 9 (some .long) :: gT) B.pre w (List.mem_cons_of_mem _ h)
  have hown : s.vm.findClass RX10 = some m.cls := findClass_of_methodNamed B.named
  subst hsz
  have hD := hD0.self (sz := s.heap.size)
  generalize hAe : va_A w0 s.heap.size = A at hD hSD ⊢
  have hA : ∀ q : Nat, s.heap.size ≤ q → A q := fun q h => by rw [← hAe]; exact Or.inr h
  have hl := lv_entry ([.int p0, .int p1, .int p2, .int p3, .int p4, .int p5, .int p6]) (n := 9) (Nat.le_of_ble_eq_true rfl)
  rw [lg_entry_eq]
  generalize (lg_sl ([.int p0, .int p1, .int p2, .int p3, .int p4, .int p5, .int p6]) ++ List.replicate (9 - (lg_sl ([.int p0, .int p1, .int p2, .int p3, .int p4, .int p5, .int p6])).length) Slot.unset).toArray = ls at hl ⊢
  have hl : lv_has ls 9 [(0, .int p0), (1, .int p1), (2, .int p2), (3, .int p3), (4, .int p4), (5, .int p5), (6, .int p6)] := hl
  refine nameQ (fun Q hQ => ?_)
  have hw : WD D cy GG A s wr_X10_spelt__46 wa_X10_spelt__46 Ps w0 Ps w0 s.heap [] := ⟨hT, hP, hD, va_S.rf, FR.rf, hT.1, [], (List.append_nil _).symm⟩
  obtain ⟨R9, hR⟩ : ∃ q9 : Int64, f_X10_spelt__36 p0 p1 p2 p3 p4 p5 p6 = q9 := ⟨_, rfl⟩
  have hE := hR
  have B99 : ∀ (x7 : Int64) (H : Heap) (locs : List Loc) (ls : Array Slot), RI p0 100 100 → RI p1 97 97 → RI p2 121 121 → RI p3 0 0 → RI p4 0 0 → RI p5 0 0 → RI p6 0 0 → RJ x7 2968 2968 → f_X10_spelt__36_99 p0 p1 p2 p3 p4 p5 p6 x7 = R9 → WD D cy GG A s wr_X10_spelt__46 wa_X10_spelt__46 Ps w0 Ps w0 H locs → lv_has ls 9 [(0, .int p0), (1, .int p1), (2, .int p2), (3, .int p3), (4, .int p4), (5, .int p5), (6, .int p6), (7, .long x7)] → W p l e (headSpec (Cond.code yX10_spelt cX10_spelt 9 (some .long) :: gT) ({ frames := 0, cells := 0, slots := 0, locals := 200 } : Room)).room s m ([.int p0, .int p1, .int p2, .int p3, .int p4, .int p5, .int p6] : List Value).toArray below meth c H locs 0 0 Q (F0 m 99 ls []) := by
    intro x7 H locs ls r_p0 r_p1 r_p2 r_p3 r_p4 r_p5 r_p6 r_x7 hE hw hl
    refine lv_iload hx hb dX10_spelt_99 (lv_at hl 6 rfl) ?_
    refine lv_if_le (tgt := 120) hx hb dX10_spelt_101 (by decide) (fun c_101 => ?_) (fun c_101 => ?_)
    · refine lv_lload hx hb dX10_spelt_120 (lv_at hl 7 rfl) ?_
      simp only [f_X10_spelt__36_99, ↓reduceIte, eq_true c_101] at hE
      subst hQ
      exact W.lret (v := x7) hx hb hr (fun t ht hW => ⟨⟨x7, (), rfl, ⟨⟨(by rw [hR, ← hE]), trivial⟩, r_x7.to (by decide)⟩, by rw [ht]; exact hw.2.1, va_K.moved hW.alike hK, hw.2.2.1⟩, hw.2.2.2.1.F ht⟩) hw.2.2.2.1.2.2 dX10_spelt_122
    · have r_p6 : RI p6 1 0 := rc_lt2 rl_0 r_p6 (ti_nle c_101) (by decide)
      exact (r_p6.no (by decide)).elim
  have B78 : ∀ (x7 : Int64) (H : Heap) (locs : List Loc) (ls : Array Slot), RI p0 100 100 → RI p1 97 97 → RI p2 121 121 → RI p3 0 0 → RI p4 0 0 → RI p5 0 0 → RI p6 0 0 → RJ x7 2968 2968 → f_X10_spelt__36_78 p0 p1 p2 p3 p4 p5 p6 x7 = R9 → WD D cy GG A s wr_X10_spelt__46 wa_X10_spelt__46 Ps w0 Ps w0 H locs → lv_has ls 9 [(0, .int p0), (1, .int p1), (2, .int p2), (3, .int p3), (4, .int p4), (5, .int p5), (6, .int p6), (7, .long x7)] → W p l e (headSpec (Cond.code yX10_spelt cX10_spelt 9 (some .long) :: gT) ({ frames := 0, cells := 0, slots := 0, locals := 200 } : Room)).room s m ([.int p0, .int p1, .int p2, .int p3, .int p4, .int p5, .int p6] : List Value).toArray below meth c H locs 0 0 Q (F0 m 78 ls []) := by
    intro x7 H locs ls r_p0 r_p1 r_p2 r_p3 r_p4 r_p5 r_p6 r_x7 hE hw hl
    refine lv_iload hx hb dX10_spelt_78 (lv_at hl 5 rfl) ?_
    refine lv_if_le (tgt := 99) hx hb dX10_spelt_80 (by decide) (fun c_80 => ?_) (fun c_80 => ?_)
    · simp only [f_X10_spelt__36_78, ↓reduceIte, eq_true c_80] at hE
      exact B99 x7 _ _ ls r_p0 r_p1 r_p2 r_p3 r_p4 r_p5 r_p6 r_x7 hE hw hl
    · have r_p5 : RI p5 1 0 := rc_lt2 rl_0 r_p5 (ti_nle c_80) (by decide)
      exact (r_p5.no (by decide)).elim
  have B57 : ∀ (x7 : Int64) (H : Heap) (locs : List Loc) (ls : Array Slot), RI p0 100 100 → RI p1 97 97 → RI p2 121 121 → RI p3 0 0 → RI p4 0 0 → RI p5 0 0 → RI p6 0 0 → RJ x7 2968 2968 → f_X10_spelt__36_57 p0 p1 p2 p3 p4 p5 p6 x7 = R9 → WD D cy GG A s wr_X10_spelt__46 wa_X10_spelt__46 Ps w0 Ps w0 H locs → lv_has ls 9 [(0, .int p0), (1, .int p1), (2, .int p2), (3, .int p3), (4, .int p4), (5, .int p5), (6, .int p6), (7, .long x7)] → W p l e (headSpec (Cond.code yX10_spelt cX10_spelt 9 (some .long) :: gT) ({ frames := 0, cells := 0, slots := 0, locals := 200 } : Room)).room s m ([.int p0, .int p1, .int p2, .int p3, .int p4, .int p5, .int p6] : List Value).toArray below meth c H locs 0 0 Q (F0 m 57 ls []) := by
    intro x7 H locs ls r_p0 r_p1 r_p2 r_p3 r_p4 r_p5 r_p6 r_x7 hE hw hl
    refine lv_iload hx hb dX10_spelt_57 (lv_at hl 4 rfl) ?_
    refine lv_if_le (tgt := 78) hx hb dX10_spelt_59 (by decide) (fun c_59 => ?_) (fun c_59 => ?_)
    · simp only [f_X10_spelt__36_57, ↓reduceIte, eq_true c_59] at hE
      exact B78 x7 _ _ ls r_p0 r_p1 r_p2 r_p3 r_p4 r_p5 r_p6 r_x7 hE hw hl
    · have r_p4 : RI p4 1 0 := rc_lt2 rl_0 r_p4 (ti_nle c_59) (by decide)
      exact (r_p4.no (by decide)).elim
  have B38 : ∀ (x7 : Int64) (H : Heap) (locs : List Loc) (ls : Array Slot), RI p0 100 100 → RI p1 97 97 → RI p2 121 121 → RI p3 0 0 → RI p4 0 0 → RI p5 0 0 → RI p6 0 0 → RJ x7 2968 2968 → f_X10_spelt__36_38 p0 p1 p2 p3 p4 p5 p6 x7 = R9 → WD D cy GG A s wr_X10_spelt__46 wa_X10_spelt__46 Ps w0 Ps w0 H locs → lv_has ls 9 [(0, .int p0), (1, .int p1), (2, .int p2), (3, .int p3), (4, .int p4), (5, .int p5), (6, .int p6), (7, .long x7)] → W p l e (headSpec (Cond.code yX10_spelt cX10_spelt 9 (some .long) :: gT) ({ frames := 0, cells := 0, slots := 0, locals := 200 } : Room)).room s m ([.int p0, .int p1, .int p2, .int p3, .int p4, .int p5, .int p6] : List Value).toArray below meth c H locs 0 0 Q (F0 m 38 ls []) := by
    intro x7 H locs ls r_p0 r_p1 r_p2 r_p3 r_p4 r_p5 r_p6 r_x7 hE hw hl
    refine lv_iload_n hx hb dX10_spelt_38 rfl (lv_at hl 3 rfl) ?_
    refine lv_if_le (tgt := 57) hx hb dX10_spelt_39 (by decide) (fun c_39 => ?_) (fun c_39 => ?_)
    · simp only [f_X10_spelt__36_38, ↓reduceIte, eq_true c_39] at hE
      exact B57 x7 _ _ ls r_p0 r_p1 r_p2 r_p3 r_p4 r_p5 r_p6 r_x7 hE hw hl
    · have r_p3 : RI p3 1 0 := rc_lt2 rl_0 r_p3 (ti_nle c_39) (by decide)
      exact (r_p3.no (by decide)).elim
  refine lv_ldc2 (v := 27) hx hb hown (hts _ tw_1312) dX10_spelt_0 ?_
  refine lv_iload_n hx hb dX10_spelt_3 rfl (lv_at hl 0 rfl) ?_
  obtain ⟨w_1, e_w_1⟩ : ∃ q9 : Int64, (p0 : Int32).toInt64 = q9 := ⟨_, rfl⟩
  refine lv_i2l (v := w_1) hx hb dX10_spelt_4 e_w_1 ?_
  have r_w_1 := tq_i2l r_p0 e_w_1
  have q_w_1 : Int32.toInt64 p0 = w_1 := e_w_1
  refine lv_ldc2 (v := 96) hx hb hown (hts _ tw_1313) dX10_spelt_5 ?_
  refine lv_lsub hx hb dX10_spelt_8 (lv_topl (fun w_2 e_w_2 => ?_))
  have r_w_2 := tq_lsub (lo := 4) (hi := 4) r_w_1 rk_96 (by decide +kernel) e_w_2
  have q_w_2 : w_1 - (96 : Int64) = w_2 := e_w_2.symm
  refine lv_lmul hx hb dX10_spelt_9 (lv_topl (fun w_3 e_w_3 => ?_))
  have r_w_3 := tq_lmul (lo := 108) (hi := 108) rk_27 r_w_2 (by decide +kernel) e_w_3
  have q_w_3 : (27 : Int64) * w_2 = w_3 := e_w_3.symm
  refine lv_iload_n hx hb dX10_spelt_10 rfl (lv_at hl 1 rfl) ?_
  obtain ⟨w_4, e_w_4⟩ : ∃ q9 : Int64, (p1 : Int32).toInt64 = q9 := ⟨_, rfl⟩
  refine lv_i2l (v := w_4) hx hb dX10_spelt_11 e_w_4 ?_
  have r_w_4 := tq_i2l r_p1 e_w_4
  have q_w_4 : Int32.toInt64 p1 = w_4 := e_w_4
  refine lv_ladd hx hb dX10_spelt_12 (lv_topl (fun w_5 e_w_5 => ?_))
  have r_w_5 := tq_ladd (lo := 205) (hi := 205) r_w_3 r_w_4 (by decide +kernel) e_w_5
  have q_w_5 : w_3 + w_4 = w_5 := e_w_5.symm
  refine lv_ldc2 (v := 96) hx hb hown (hts _ tw_1313) dX10_spelt_13 ?_
  refine lv_lsub hx hb dX10_spelt_16 (lv_topl (fun w_6 e_w_6 => ?_))
  have r_w_6 := tq_lsub (lo := 109) (hi := 109) r_w_5 rk_96 (by decide +kernel) e_w_6
  have q_w_6 : w_5 - (96 : Int64) = w_6 := e_w_6.symm
  refine lv_lstore (lv' := [(7, .long w_6), (0, .int p0), (1, .int p1), (2, .int p2), (3, .int p3), (4, .int p4), (5, .int p5), (6, .int p6)]) hx hb dX10_spelt_17 hl (by decide) rfl (fun ls hl => ?_)
  refine lv_iload_n hx hb dX10_spelt_19 rfl (lv_at hl 3 rfl) ?_
  refine lv_if_le (tgt := 38) hx hb dX10_spelt_20 (by decide) (fun c_20 => ?_) (fun c_20 => ?_)
  · have r_p2 : RI p2 121 0 := rc_le1 r_p2 rl_0 (ti_le c_20) (by decide)
    exact (r_p2.no (by decide)).elim
  · refine lv_ldc2 (v := 27) hx hb hown (hts _ tw_1312) dX10_spelt_23 ?_
    refine lv_lload hx hb dX10_spelt_26 (lv_at hl 0 rfl) ?_
    refine lv_lmul hx hb dX10_spelt_28 (lv_topl (fun w_7 e_w_7 => ?_))
    have r_w_7 := tq_lmul (lo := 2943) (hi := 2943) rk_27 r_w_6 (by decide +kernel) e_w_7
    have q_w_7 : (27 : Int64) * w_6 = w_7 := e_w_7.symm
    refine lv_iload_n hx hb dX10_spelt_29 rfl (lv_at hl 3 rfl) ?_
    obtain ⟨w_8, e_w_8⟩ : ∃ q9 : Int64, (p2 : Int32).toInt64 = q9 := ⟨_, rfl⟩
    refine lv_i2l (v := w_8) hx hb dX10_spelt_30 e_w_8 ?_
    have r_w_8 := tq_i2l r_p2 e_w_8
    have q_w_8 : Int32.toInt64 p2 = w_8 := e_w_8
    refine lv_ladd hx hb dX10_spelt_31 (lv_topl (fun w_9 e_w_9 => ?_))
    have r_w_9 := tq_ladd (lo := 3064) (hi := 3064) r_w_7 r_w_8 (by decide +kernel) e_w_9
    have q_w_9 : w_7 + w_8 = w_9 := e_w_9.symm
    refine lv_ldc2 (v := 96) hx hb hown (hts _ tw_1313) dX10_spelt_32 ?_
    refine lv_lsub hx hb dX10_spelt_35 (lv_topl (fun w_10 e_w_10 => ?_))
    have r_w_10 := tq_lsub (lo := 2968) (hi := 2968) r_w_9 rk_96 (by decide +kernel) e_w_10
    have q_w_10 : w_9 - (96 : Int64) = w_10 := e_w_10.symm
    refine lv_lstore (lv' := [(7, .long w_10), (0, .int p0), (1, .int p1), (2, .int p2), (3, .int p3), (4, .int p4), (5, .int p5), (6, .int p6)]) hx hb dX10_spelt_36 hl (by decide) rfl (fun ls hl => ?_)
    simp only [f_X10_spelt__36, ↓reduceIte, q_w_1, q_w_2, q_w_3, q_w_4, q_w_5, q_w_6, eq_false c_20, q_w_7, q_w_8, q_w_9, q_w_10] at hE
    exact B38 w_10 _ _ ls r_p0 r_p1 r_p2 r_p3 r_p4 r_p5 r_p6 r_w_10 hE hw (lv_sub hl [1, 2, 3, 4, 5, 6, 7, 0] rfl)
abbrev wr_X10_spelt__47 : List (Nat × Nat) := []
abbrev wa_X10_spelt__47 : List Nat := []
set_option maxHeartbeats 4000000 in
set_option maxRecDepth 100000 in
theorem c_X10_spelt__47 (l : Launch) (D : va_G) (cy : Nat → ClassId) (z : Nat → Nat) (sz : Nat) (Ps : PSI) (w0 : va_W) (hT : HT cy GG Ps w0) (p0 : Int32) (p1 : Int32) (p2 : Int32) (p3 : Int32) (p4 : Int32) (p5 : Int32) (p6 : Int32) (r_p0 : RI p0 111 111) (r_p1 : RI p1 114 114) (r_p2 : RI p2 0 0) (r_p3 : RI p3 0 0) (r_p4 : RI p4 0 0) (r_p5 : RI p5 0 0) (r_p6 : RI p6 0 0) : Met l yX10_spelt (Cond.code yX10_spelt cX10_spelt 9 (some .long) :: gT) ({ frames := 0, cells := 0, slots := 0, locals := 200 } : Room) (va_Pc [.int p0, .int p1, .int p2, .int p3, .int p4, .int p5, .int p6] (PRE D cy z w0 sz)) (va_Ql (fun (r : Int64) (u : Unit) => ((f_X10_spelt__47 p0 p1 p2 p3 p4 p5 p6) = r ∧ True) ∧ (RJ r 423 423)) (BB D cy (va_A w0 sz) (fun (u : Unit) => w0)) (va_A w0 sz)) 0 0 (va_A w0 sz) := by
  refine Met.ofW (cc := cX10_spelt) (maxL := 9) (ret := (some .long)) (by decide) rfl ?_
  intro p e s m args below meth c s₁ B hml hv
  obtain ⟨rfl, hsz, hP, hK, hD0, hSD⟩ := hv
  have hx := B.exec
  have hb := B.bytes
  have hr := B.returns
  have hlocks := B.notSynchronized
  have hts : ∀ w ∈ gT, w.before _ s = true := fun w h => atoms_spec (ws := Cond.code yX10_spelt cX10_spelt 9 (some .long) :: gT) B.pre w (List.mem_cons_of_mem _ h)
  have hown : s.vm.findClass RX10 = some m.cls := findClass_of_methodNamed B.named
  subst hsz
  have hD := hD0.self (sz := s.heap.size)
  generalize hAe : va_A w0 s.heap.size = A at hD hSD ⊢
  have hA : ∀ q : Nat, s.heap.size ≤ q → A q := fun q h => by rw [← hAe]; exact Or.inr h
  have hl := lv_entry ([.int p0, .int p1, .int p2, .int p3, .int p4, .int p5, .int p6]) (n := 9) (Nat.le_of_ble_eq_true rfl)
  rw [lg_entry_eq]
  generalize (lg_sl ([.int p0, .int p1, .int p2, .int p3, .int p4, .int p5, .int p6]) ++ List.replicate (9 - (lg_sl ([.int p0, .int p1, .int p2, .int p3, .int p4, .int p5, .int p6])).length) Slot.unset).toArray = ls at hl ⊢
  have hl : lv_has ls 9 [(0, .int p0), (1, .int p1), (2, .int p2), (3, .int p3), (4, .int p4), (5, .int p5), (6, .int p6)] := hl
  refine nameQ (fun Q hQ => ?_)
  have hw : WD D cy GG A s wr_X10_spelt__47 wa_X10_spelt__47 Ps w0 Ps w0 s.heap [] := ⟨hT, hP, hD, va_S.rf, FR.rf, hT.1, [], (List.append_nil _).symm⟩
  obtain ⟨R9, hR⟩ : ∃ q9 : Int64, f_X10_spelt__47 p0 p1 p2 p3 p4 p5 p6 = q9 := ⟨_, rfl⟩
  have hE := hR
  have B99 : ∀ (x7 : Int64) (H : Heap) (locs : List Loc) (ls : Array Slot), RI p0 111 111 → RI p1 114 114 → RI p2 0 0 → RI p3 0 0 → RI p4 0 0 → RI p5 0 0 → RI p6 0 0 → RJ x7 423 423 → f_X10_spelt__47_99 p0 p1 p2 p3 p4 p5 p6 x7 = R9 → WD D cy GG A s wr_X10_spelt__47 wa_X10_spelt__47 Ps w0 Ps w0 H locs → lv_has ls 9 [(0, .int p0), (1, .int p1), (2, .int p2), (3, .int p3), (4, .int p4), (5, .int p5), (6, .int p6), (7, .long x7)] → W p l e (headSpec (Cond.code yX10_spelt cX10_spelt 9 (some .long) :: gT) ({ frames := 0, cells := 0, slots := 0, locals := 200 } : Room)).room s m ([.int p0, .int p1, .int p2, .int p3, .int p4, .int p5, .int p6] : List Value).toArray below meth c H locs 0 0 Q (F0 m 99 ls []) := by
    intro x7 H locs ls r_p0 r_p1 r_p2 r_p3 r_p4 r_p5 r_p6 r_x7 hE hw hl
    refine lv_iload hx hb dX10_spelt_99 (lv_at hl 6 rfl) ?_
    refine lv_if_le (tgt := 120) hx hb dX10_spelt_101 (by decide) (fun c_101 => ?_) (fun c_101 => ?_)
    · refine lv_lload hx hb dX10_spelt_120 (lv_at hl 7 rfl) ?_
      simp only [f_X10_spelt__47_99, ↓reduceIte, eq_true c_101] at hE
      subst hQ
      exact W.lret (v := x7) hx hb hr (fun t ht hW => ⟨⟨x7, (), rfl, ⟨⟨(by rw [hR, ← hE]), trivial⟩, r_x7.to (by decide)⟩, by rw [ht]; exact hw.2.1, va_K.moved hW.alike hK, hw.2.2.1⟩, hw.2.2.2.1.F ht⟩) hw.2.2.2.1.2.2 dX10_spelt_122
    · have r_p6 : RI p6 1 0 := rc_lt2 rl_0 r_p6 (ti_nle c_101) (by decide)
      exact (r_p6.no (by decide)).elim
  have B78 : ∀ (x7 : Int64) (H : Heap) (locs : List Loc) (ls : Array Slot), RI p0 111 111 → RI p1 114 114 → RI p2 0 0 → RI p3 0 0 → RI p4 0 0 → RI p5 0 0 → RI p6 0 0 → RJ x7 423 423 → f_X10_spelt__47_78 p0 p1 p2 p3 p4 p5 p6 x7 = R9 → WD D cy GG A s wr_X10_spelt__47 wa_X10_spelt__47 Ps w0 Ps w0 H locs → lv_has ls 9 [(0, .int p0), (1, .int p1), (2, .int p2), (3, .int p3), (4, .int p4), (5, .int p5), (6, .int p6), (7, .long x7)] → W p l e (headSpec (Cond.code yX10_spelt cX10_spelt 9 (some .long) :: gT) ({ frames := 0, cells := 0, slots := 0, locals := 200 } : Room)).room s m ([.int p0, .int p1, .int p2, .int p3, .int p4, .int p5, .int p6] : List Value).toArray below meth c H locs 0 0 Q (F0 m 78 ls []) := by
    intro x7 H locs ls r_p0 r_p1 r_p2 r_p3 r_p4 r_p5 r_p6 r_x7 hE hw hl
    refine lv_iload hx hb dX10_spelt_78 (lv_at hl 5 rfl) ?_
    refine lv_if_le (tgt := 99) hx hb dX10_spelt_80 (by decide) (fun c_80 => ?_) (fun c_80 => ?_)
    · simp only [f_X10_spelt__47_78, ↓reduceIte, eq_true c_80] at hE
      exact B99 x7 _ _ ls r_p0 r_p1 r_p2 r_p3 r_p4 r_p5 r_p6 r_x7 hE hw hl
    · have r_p5 : RI p5 1 0 := rc_lt2 rl_0 r_p5 (ti_nle c_80) (by decide)
      exact (r_p5.no (by decide)).elim
  have B57 : ∀ (x7 : Int64) (H : Heap) (locs : List Loc) (ls : Array Slot), RI p0 111 111 → RI p1 114 114 → RI p2 0 0 → RI p3 0 0 → RI p4 0 0 → RI p5 0 0 → RI p6 0 0 → RJ x7 423 423 → f_X10_spelt__47_57 p0 p1 p2 p3 p4 p5 p6 x7 = R9 → WD D cy GG A s wr_X10_spelt__47 wa_X10_spelt__47 Ps w0 Ps w0 H locs → lv_has ls 9 [(0, .int p0), (1, .int p1), (2, .int p2), (3, .int p3), (4, .int p4), (5, .int p5), (6, .int p6), (7, .long x7)] → W p l e (headSpec (Cond.code yX10_spelt cX10_spelt 9 (some .long) :: gT) ({ frames := 0, cells := 0, slots := 0, locals := 200 } : Room)).room s m ([.int p0, .int p1, .int p2, .int p3, .int p4, .int p5, .int p6] : List Value).toArray below meth c H locs 0 0 Q (F0 m 57 ls []) := by
    intro x7 H locs ls r_p0 r_p1 r_p2 r_p3 r_p4 r_p5 r_p6 r_x7 hE hw hl
    refine lv_iload hx hb dX10_spelt_57 (lv_at hl 4 rfl) ?_
    refine lv_if_le (tgt := 78) hx hb dX10_spelt_59 (by decide) (fun c_59 => ?_) (fun c_59 => ?_)
    · simp only [f_X10_spelt__47_57, ↓reduceIte, eq_true c_59] at hE
      exact B78 x7 _ _ ls r_p0 r_p1 r_p2 r_p3 r_p4 r_p5 r_p6 r_x7 hE hw hl
    · have r_p4 : RI p4 1 0 := rc_lt2 rl_0 r_p4 (ti_nle c_59) (by decide)
      exact (r_p4.no (by decide)).elim
  have B38 : ∀ (x7 : Int64) (H : Heap) (locs : List Loc) (ls : Array Slot), RI p0 111 111 → RI p1 114 114 → RI p2 0 0 → RI p3 0 0 → RI p4 0 0 → RI p5 0 0 → RI p6 0 0 → RJ x7 423 423 → f_X10_spelt__47_38 p0 p1 p2 p3 p4 p5 p6 x7 = R9 → WD D cy GG A s wr_X10_spelt__47 wa_X10_spelt__47 Ps w0 Ps w0 H locs → lv_has ls 9 [(0, .int p0), (1, .int p1), (2, .int p2), (3, .int p3), (4, .int p4), (5, .int p5), (6, .int p6), (7, .long x7)] → W p l e (headSpec (Cond.code yX10_spelt cX10_spelt 9 (some .long) :: gT) ({ frames := 0, cells := 0, slots := 0, locals := 200 } : Room)).room s m ([.int p0, .int p1, .int p2, .int p3, .int p4, .int p5, .int p6] : List Value).toArray below meth c H locs 0 0 Q (F0 m 38 ls []) := by
    intro x7 H locs ls r_p0 r_p1 r_p2 r_p3 r_p4 r_p5 r_p6 r_x7 hE hw hl
    refine lv_iload_n hx hb dX10_spelt_38 rfl (lv_at hl 3 rfl) ?_
    refine lv_if_le (tgt := 57) hx hb dX10_spelt_39 (by decide) (fun c_39 => ?_) (fun c_39 => ?_)
    · simp only [f_X10_spelt__47_38, ↓reduceIte, eq_true c_39] at hE
      exact B57 x7 _ _ ls r_p0 r_p1 r_p2 r_p3 r_p4 r_p5 r_p6 r_x7 hE hw hl
    · have r_p3 : RI p3 1 0 := rc_lt2 rl_0 r_p3 (ti_nle c_39) (by decide)
      exact (r_p3.no (by decide)).elim
  refine lv_ldc2 (v := 27) hx hb hown (hts _ tw_1312) dX10_spelt_0 ?_
  refine lv_iload_n hx hb dX10_spelt_3 rfl (lv_at hl 0 rfl) ?_
  obtain ⟨w_1, e_w_1⟩ : ∃ q9 : Int64, (p0 : Int32).toInt64 = q9 := ⟨_, rfl⟩
  refine lv_i2l (v := w_1) hx hb dX10_spelt_4 e_w_1 ?_
  have r_w_1 := tq_i2l r_p0 e_w_1
  have q_w_1 : Int32.toInt64 p0 = w_1 := e_w_1
  refine lv_ldc2 (v := 96) hx hb hown (hts _ tw_1313) dX10_spelt_5 ?_
  refine lv_lsub hx hb dX10_spelt_8 (lv_topl (fun w_2 e_w_2 => ?_))
  have r_w_2 := tq_lsub (lo := 15) (hi := 15) r_w_1 rk_96 (by decide +kernel) e_w_2
  have q_w_2 : w_1 - (96 : Int64) = w_2 := e_w_2.symm
  refine lv_lmul hx hb dX10_spelt_9 (lv_topl (fun w_3 e_w_3 => ?_))
  have r_w_3 := tq_lmul (lo := 405) (hi := 405) rk_27 r_w_2 (by decide +kernel) e_w_3
  have q_w_3 : (27 : Int64) * w_2 = w_3 := e_w_3.symm
  refine lv_iload_n hx hb dX10_spelt_10 rfl (lv_at hl 1 rfl) ?_
  obtain ⟨w_4, e_w_4⟩ : ∃ q9 : Int64, (p1 : Int32).toInt64 = q9 := ⟨_, rfl⟩
  refine lv_i2l (v := w_4) hx hb dX10_spelt_11 e_w_4 ?_
  have r_w_4 := tq_i2l r_p1 e_w_4
  have q_w_4 : Int32.toInt64 p1 = w_4 := e_w_4
  refine lv_ladd hx hb dX10_spelt_12 (lv_topl (fun w_5 e_w_5 => ?_))
  have r_w_5 := tq_ladd (lo := 519) (hi := 519) r_w_3 r_w_4 (by decide +kernel) e_w_5
  have q_w_5 : w_3 + w_4 = w_5 := e_w_5.symm
  refine lv_ldc2 (v := 96) hx hb hown (hts _ tw_1313) dX10_spelt_13 ?_
  refine lv_lsub hx hb dX10_spelt_16 (lv_topl (fun w_6 e_w_6 => ?_))
  have r_w_6 := tq_lsub (lo := 423) (hi := 423) r_w_5 rk_96 (by decide +kernel) e_w_6
  have q_w_6 : w_5 - (96 : Int64) = w_6 := e_w_6.symm
  refine lv_lstore (lv' := [(7, .long w_6), (0, .int p0), (1, .int p1), (2, .int p2), (3, .int p3), (4, .int p4), (5, .int p5), (6, .int p6)]) hx hb dX10_spelt_17 hl (by decide) rfl (fun ls hl => ?_)
  refine lv_iload_n hx hb dX10_spelt_19 rfl (lv_at hl 3 rfl) ?_
  refine lv_if_le (tgt := 38) hx hb dX10_spelt_20 (by decide) (fun c_20 => ?_) (fun c_20 => ?_)
  · simp only [f_X10_spelt__47, ↓reduceIte, q_w_1, q_w_2, q_w_3, q_w_4, q_w_5, q_w_6, eq_true c_20] at hE
    exact B38 w_6 _ _ ls r_p0 r_p1 r_p2 r_p3 r_p4 r_p5 r_p6 r_w_6 hE hw (lv_sub hl [1, 2, 3, 4, 5, 6, 7, 0] rfl)
  · have r_p2 : RI p2 1 0 := rc_lt2 rl_0 r_p2 (ti_nle c_20) (by decide)
    exact (r_p2.no (by decide)).elim
abbrev wr_X10_spelt__48 : List (Nat × Nat) := []
abbrev wa_X10_spelt__48 : List Nat := []
set_option maxHeartbeats 4000000 in
set_option maxRecDepth 100000 in
theorem c_X10_spelt__48 (l : Launch) (D : va_G) (cy : Nat → ClassId) (z : Nat → Nat) (sz : Nat) (Ps : PSI) (w0 : va_W) (hT : HT cy GG Ps w0) (p0 : Int32) (p1 : Int32) (p2 : Int32) (p3 : Int32) (p4 : Int32) (p5 : Int32) (p6 : Int32) (r_p0 : RI p0 97 97) (r_p1 : RI p1 110 110) (r_p2 : RI p2 100 100) (r_p3 : RI p3 0 0) (r_p4 : RI p4 0 0) (r_p5 : RI p5 0 0) (r_p6 : RI p6 0 0) : Met l yX10_spelt (Cond.code yX10_spelt cX10_spelt 9 (some .long) :: gT) ({ frames := 0, cells := 0, slots := 0, locals := 200 } : Room) (va_Pc [.int p0, .int p1, .int p2, .int p3, .int p4, .int p5, .int p6] (PRE D cy z w0 sz)) (va_Ql (fun (r : Int64) (u : Unit) => ((f_X10_spelt__36 p0 p1 p2 p3 p4 p5 p6) = r ∧ True) ∧ (RJ r 1111 1111)) (BB D cy (va_A w0 sz) (fun (u : Unit) => w0)) (va_A w0 sz)) 0 0 (va_A w0 sz) := by
  refine Met.ofW (cc := cX10_spelt) (maxL := 9) (ret := (some .long)) (by decide) rfl ?_
  intro p e s m args below meth c s₁ B hml hv
  obtain ⟨rfl, hsz, hP, hK, hD0, hSD⟩ := hv
  have hx := B.exec
  have hb := B.bytes
  have hr := B.returns
  have hlocks := B.notSynchronized
  have hts : ∀ w ∈ gT, w.before _ s = true := fun w h => atoms_spec (ws := Cond.code yX10_spelt cX10_spelt 9 (some .long) :: gT) B.pre w (List.mem_cons_of_mem _ h)
  have hown : s.vm.findClass RX10 = some m.cls := findClass_of_methodNamed B.named
  subst hsz
  have hD := hD0.self (sz := s.heap.size)
  generalize hAe : va_A w0 s.heap.size = A at hD hSD ⊢
  have hA : ∀ q : Nat, s.heap.size ≤ q → A q := fun q h => by rw [← hAe]; exact Or.inr h
  have hl := lv_entry ([.int p0, .int p1, .int p2, .int p3, .int p4, .int p5, .int p6]) (n := 9) (Nat.le_of_ble_eq_true rfl)
  rw [lg_entry_eq]
  generalize (lg_sl ([.int p0, .int p1, .int p2, .int p3, .int p4, .int p5, .int p6]) ++ List.replicate (9 - (lg_sl ([.int p0, .int p1, .int p2, .int p3, .int p4, .int p5, .int p6])).length) Slot.unset).toArray = ls at hl ⊢
  have hl : lv_has ls 9 [(0, .int p0), (1, .int p1), (2, .int p2), (3, .int p3), (4, .int p4), (5, .int p5), (6, .int p6)] := hl
  refine nameQ (fun Q hQ => ?_)
  have hw : WD D cy GG A s wr_X10_spelt__48 wa_X10_spelt__48 Ps w0 Ps w0 s.heap [] := ⟨hT, hP, hD, va_S.rf, FR.rf, hT.1, [], (List.append_nil _).symm⟩
  obtain ⟨R9, hR⟩ : ∃ q9 : Int64, f_X10_spelt__36 p0 p1 p2 p3 p4 p5 p6 = q9 := ⟨_, rfl⟩
  have hE := hR
  have B99 : ∀ (x7 : Int64) (H : Heap) (locs : List Loc) (ls : Array Slot), RI p0 97 97 → RI p1 110 110 → RI p2 100 100 → RI p3 0 0 → RI p4 0 0 → RI p5 0 0 → RI p6 0 0 → RJ x7 1111 1111 → f_X10_spelt__36_99 p0 p1 p2 p3 p4 p5 p6 x7 = R9 → WD D cy GG A s wr_X10_spelt__48 wa_X10_spelt__48 Ps w0 Ps w0 H locs → lv_has ls 9 [(0, .int p0), (1, .int p1), (2, .int p2), (3, .int p3), (4, .int p4), (5, .int p5), (6, .int p6), (7, .long x7)] → W p l e (headSpec (Cond.code yX10_spelt cX10_spelt 9 (some .long) :: gT) ({ frames := 0, cells := 0, slots := 0, locals := 200 } : Room)).room s m ([.int p0, .int p1, .int p2, .int p3, .int p4, .int p5, .int p6] : List Value).toArray below meth c H locs 0 0 Q (F0 m 99 ls []) := by
    intro x7 H locs ls r_p0 r_p1 r_p2 r_p3 r_p4 r_p5 r_p6 r_x7 hE hw hl
    refine lv_iload hx hb dX10_spelt_99 (lv_at hl 6 rfl) ?_
    refine lv_if_le (tgt := 120) hx hb dX10_spelt_101 (by decide) (fun c_101 => ?_) (fun c_101 => ?_)
    · refine lv_lload hx hb dX10_spelt_120 (lv_at hl 7 rfl) ?_
      simp only [f_X10_spelt__36_99, ↓reduceIte, eq_true c_101] at hE
      subst hQ
      exact W.lret (v := x7) hx hb hr (fun t ht hW => ⟨⟨x7, (), rfl, ⟨⟨(by rw [hR, ← hE]), trivial⟩, r_x7.to (by decide)⟩, by rw [ht]; exact hw.2.1, va_K.moved hW.alike hK, hw.2.2.1⟩, hw.2.2.2.1.F ht⟩) hw.2.2.2.1.2.2 dX10_spelt_122
    · have r_p6 : RI p6 1 0 := rc_lt2 rl_0 r_p6 (ti_nle c_101) (by decide)
      exact (r_p6.no (by decide)).elim
  have B78 : ∀ (x7 : Int64) (H : Heap) (locs : List Loc) (ls : Array Slot), RI p0 97 97 → RI p1 110 110 → RI p2 100 100 → RI p3 0 0 → RI p4 0 0 → RI p5 0 0 → RI p6 0 0 → RJ x7 1111 1111 → f_X10_spelt__36_78 p0 p1 p2 p3 p4 p5 p6 x7 = R9 → WD D cy GG A s wr_X10_spelt__48 wa_X10_spelt__48 Ps w0 Ps w0 H locs → lv_has ls 9 [(0, .int p0), (1, .int p1), (2, .int p2), (3, .int p3), (4, .int p4), (5, .int p5), (6, .int p6), (7, .long x7)] → W p l e (headSpec (Cond.code yX10_spelt cX10_spelt 9 (some .long) :: gT) ({ frames := 0, cells := 0, slots := 0, locals := 200 } : Room)).room s m ([.int p0, .int p1, .int p2, .int p3, .int p4, .int p5, .int p6] : List Value).toArray below meth c H locs 0 0 Q (F0 m 78 ls []) := by
    intro x7 H locs ls r_p0 r_p1 r_p2 r_p3 r_p4 r_p5 r_p6 r_x7 hE hw hl
    refine lv_iload hx hb dX10_spelt_78 (lv_at hl 5 rfl) ?_
    refine lv_if_le (tgt := 99) hx hb dX10_spelt_80 (by decide) (fun c_80 => ?_) (fun c_80 => ?_)
    · simp only [f_X10_spelt__36_78, ↓reduceIte, eq_true c_80] at hE
      exact B99 x7 _ _ ls r_p0 r_p1 r_p2 r_p3 r_p4 r_p5 r_p6 r_x7 hE hw hl
    · have r_p5 : RI p5 1 0 := rc_lt2 rl_0 r_p5 (ti_nle c_80) (by decide)
      exact (r_p5.no (by decide)).elim
  have B57 : ∀ (x7 : Int64) (H : Heap) (locs : List Loc) (ls : Array Slot), RI p0 97 97 → RI p1 110 110 → RI p2 100 100 → RI p3 0 0 → RI p4 0 0 → RI p5 0 0 → RI p6 0 0 → RJ x7 1111 1111 → f_X10_spelt__36_57 p0 p1 p2 p3 p4 p5 p6 x7 = R9 → WD D cy GG A s wr_X10_spelt__48 wa_X10_spelt__48 Ps w0 Ps w0 H locs → lv_has ls 9 [(0, .int p0), (1, .int p1), (2, .int p2), (3, .int p3), (4, .int p4), (5, .int p5), (6, .int p6), (7, .long x7)] → W p l e (headSpec (Cond.code yX10_spelt cX10_spelt 9 (some .long) :: gT) ({ frames := 0, cells := 0, slots := 0, locals := 200 } : Room)).room s m ([.int p0, .int p1, .int p2, .int p3, .int p4, .int p5, .int p6] : List Value).toArray below meth c H locs 0 0 Q (F0 m 57 ls []) := by
    intro x7 H locs ls r_p0 r_p1 r_p2 r_p3 r_p4 r_p5 r_p6 r_x7 hE hw hl
    refine lv_iload hx hb dX10_spelt_57 (lv_at hl 4 rfl) ?_
    refine lv_if_le (tgt := 78) hx hb dX10_spelt_59 (by decide) (fun c_59 => ?_) (fun c_59 => ?_)
    · simp only [f_X10_spelt__36_57, ↓reduceIte, eq_true c_59] at hE
      exact B78 x7 _ _ ls r_p0 r_p1 r_p2 r_p3 r_p4 r_p5 r_p6 r_x7 hE hw hl
    · have r_p4 : RI p4 1 0 := rc_lt2 rl_0 r_p4 (ti_nle c_59) (by decide)
      exact (r_p4.no (by decide)).elim
  have B38 : ∀ (x7 : Int64) (H : Heap) (locs : List Loc) (ls : Array Slot), RI p0 97 97 → RI p1 110 110 → RI p2 100 100 → RI p3 0 0 → RI p4 0 0 → RI p5 0 0 → RI p6 0 0 → RJ x7 1111 1111 → f_X10_spelt__36_38 p0 p1 p2 p3 p4 p5 p6 x7 = R9 → WD D cy GG A s wr_X10_spelt__48 wa_X10_spelt__48 Ps w0 Ps w0 H locs → lv_has ls 9 [(0, .int p0), (1, .int p1), (2, .int p2), (3, .int p3), (4, .int p4), (5, .int p5), (6, .int p6), (7, .long x7)] → W p l e (headSpec (Cond.code yX10_spelt cX10_spelt 9 (some .long) :: gT) ({ frames := 0, cells := 0, slots := 0, locals := 200 } : Room)).room s m ([.int p0, .int p1, .int p2, .int p3, .int p4, .int p5, .int p6] : List Value).toArray below meth c H locs 0 0 Q (F0 m 38 ls []) := by
    intro x7 H locs ls r_p0 r_p1 r_p2 r_p3 r_p4 r_p5 r_p6 r_x7 hE hw hl
    refine lv_iload_n hx hb dX10_spelt_38 rfl (lv_at hl 3 rfl) ?_
    refine lv_if_le (tgt := 57) hx hb dX10_spelt_39 (by decide) (fun c_39 => ?_) (fun c_39 => ?_)
    · simp only [f_X10_spelt__36_38, ↓reduceIte, eq_true c_39] at hE
      exact B57 x7 _ _ ls r_p0 r_p1 r_p2 r_p3 r_p4 r_p5 r_p6 r_x7 hE hw hl
    · have r_p3 : RI p3 1 0 := rc_lt2 rl_0 r_p3 (ti_nle c_39) (by decide)
      exact (r_p3.no (by decide)).elim
  refine lv_ldc2 (v := 27) hx hb hown (hts _ tw_1312) dX10_spelt_0 ?_
  refine lv_iload_n hx hb dX10_spelt_3 rfl (lv_at hl 0 rfl) ?_
  obtain ⟨w_1, e_w_1⟩ : ∃ q9 : Int64, (p0 : Int32).toInt64 = q9 := ⟨_, rfl⟩
  refine lv_i2l (v := w_1) hx hb dX10_spelt_4 e_w_1 ?_
  have r_w_1 := tq_i2l r_p0 e_w_1
  have q_w_1 : Int32.toInt64 p0 = w_1 := e_w_1
  refine lv_ldc2 (v := 96) hx hb hown (hts _ tw_1313) dX10_spelt_5 ?_
  refine lv_lsub hx hb dX10_spelt_8 (lv_topl (fun w_2 e_w_2 => ?_))
  have r_w_2 := tq_lsub (lo := 1) (hi := 1) r_w_1 rk_96 (by decide +kernel) e_w_2
  have q_w_2 : w_1 - (96 : Int64) = w_2 := e_w_2.symm
  refine lv_lmul hx hb dX10_spelt_9 (lv_topl (fun w_3 e_w_3 => ?_))
  have r_w_3 := tq_lmul (lo := 27) (hi := 27) rk_27 r_w_2 (by decide +kernel) e_w_3
  have q_w_3 : (27 : Int64) * w_2 = w_3 := e_w_3.symm
  refine lv_iload_n hx hb dX10_spelt_10 rfl (lv_at hl 1 rfl) ?_
  obtain ⟨w_4, e_w_4⟩ : ∃ q9 : Int64, (p1 : Int32).toInt64 = q9 := ⟨_, rfl⟩
  refine lv_i2l (v := w_4) hx hb dX10_spelt_11 e_w_4 ?_
  have r_w_4 := tq_i2l r_p1 e_w_4
  have q_w_4 : Int32.toInt64 p1 = w_4 := e_w_4
  refine lv_ladd hx hb dX10_spelt_12 (lv_topl (fun w_5 e_w_5 => ?_))
  have r_w_5 := tq_ladd (lo := 137) (hi := 137) r_w_3 r_w_4 (by decide +kernel) e_w_5
  have q_w_5 : w_3 + w_4 = w_5 := e_w_5.symm
  refine lv_ldc2 (v := 96) hx hb hown (hts _ tw_1313) dX10_spelt_13 ?_
  refine lv_lsub hx hb dX10_spelt_16 (lv_topl (fun w_6 e_w_6 => ?_))
  have r_w_6 := tq_lsub (lo := 41) (hi := 41) r_w_5 rk_96 (by decide +kernel) e_w_6
  have q_w_6 : w_5 - (96 : Int64) = w_6 := e_w_6.symm
  refine lv_lstore (lv' := [(7, .long w_6), (0, .int p0), (1, .int p1), (2, .int p2), (3, .int p3), (4, .int p4), (5, .int p5), (6, .int p6)]) hx hb dX10_spelt_17 hl (by decide) rfl (fun ls hl => ?_)
  refine lv_iload_n hx hb dX10_spelt_19 rfl (lv_at hl 3 rfl) ?_
  refine lv_if_le (tgt := 38) hx hb dX10_spelt_20 (by decide) (fun c_20 => ?_) (fun c_20 => ?_)
  · have r_p2 : RI p2 100 0 := rc_le1 r_p2 rl_0 (ti_le c_20) (by decide)
    exact (r_p2.no (by decide)).elim
  · refine lv_ldc2 (v := 27) hx hb hown (hts _ tw_1312) dX10_spelt_23 ?_
    refine lv_lload hx hb dX10_spelt_26 (lv_at hl 0 rfl) ?_
    refine lv_lmul hx hb dX10_spelt_28 (lv_topl (fun w_7 e_w_7 => ?_))
    have r_w_7 := tq_lmul (lo := 1107) (hi := 1107) rk_27 r_w_6 (by decide +kernel) e_w_7
    have q_w_7 : (27 : Int64) * w_6 = w_7 := e_w_7.symm
    refine lv_iload_n hx hb dX10_spelt_29 rfl (lv_at hl 3 rfl) ?_
    obtain ⟨w_8, e_w_8⟩ : ∃ q9 : Int64, (p2 : Int32).toInt64 = q9 := ⟨_, rfl⟩
    refine lv_i2l (v := w_8) hx hb dX10_spelt_30 e_w_8 ?_
    have r_w_8 := tq_i2l r_p2 e_w_8
    have q_w_8 : Int32.toInt64 p2 = w_8 := e_w_8
    refine lv_ladd hx hb dX10_spelt_31 (lv_topl (fun w_9 e_w_9 => ?_))
    have r_w_9 := tq_ladd (lo := 1207) (hi := 1207) r_w_7 r_w_8 (by decide +kernel) e_w_9
    have q_w_9 : w_7 + w_8 = w_9 := e_w_9.symm
    refine lv_ldc2 (v := 96) hx hb hown (hts _ tw_1313) dX10_spelt_32 ?_
    refine lv_lsub hx hb dX10_spelt_35 (lv_topl (fun w_10 e_w_10 => ?_))
    have r_w_10 := tq_lsub (lo := 1111) (hi := 1111) r_w_9 rk_96 (by decide +kernel) e_w_10
    have q_w_10 : w_9 - (96 : Int64) = w_10 := e_w_10.symm
    refine lv_lstore (lv' := [(7, .long w_10), (0, .int p0), (1, .int p1), (2, .int p2), (3, .int p3), (4, .int p4), (5, .int p5), (6, .int p6)]) hx hb dX10_spelt_36 hl (by decide) rfl (fun ls hl => ?_)
    simp only [f_X10_spelt__36, ↓reduceIte, q_w_1, q_w_2, q_w_3, q_w_4, q_w_5, q_w_6, eq_false c_20, q_w_7, q_w_8, q_w_9, q_w_10] at hE
    exact B38 w_10 _ _ ls r_p0 r_p1 r_p2 r_p3 r_p4 r_p5 r_p6 r_w_10 hE hw (lv_sub hl [1, 2, 3, 4, 5, 6, 7, 0] rfl)
abbrev wr_X10_spelt__49 : List (Nat × Nat) := []
abbrev wa_X10_spelt__49 : List Nat := []
set_option maxHeartbeats 4000000 in
set_option maxRecDepth 100000 in
theorem c_X10_spelt__49 (l : Launch) (D : va_G) (cy : Nat → ClassId) (z : Nat → Nat) (sz : Nat) (Ps : PSI) (w0 : va_W) (hT : HT cy GG Ps w0) (p0 : Int32) (p1 : Int32) (p2 : Int32) (p3 : Int32) (p4 : Int32) (p5 : Int32) (p6 : Int32) (r_p0 : RI p0 110 110) (r_p1 : RI p1 111 111) (r_p2 : RI p2 116 116) (r_p3 : RI p3 0 0) (r_p4 : RI p4 0 0) (r_p5 : RI p5 0 0) (r_p6 : RI p6 0 0) : Met l yX10_spelt (Cond.code yX10_spelt cX10_spelt 9 (some .long) :: gT) ({ frames := 0, cells := 0, slots := 0, locals := 200 } : Room) (va_Pc [.int p0, .int p1, .int p2, .int p3, .int p4, .int p5, .int p6] (PRE D cy z w0 sz)) (va_Ql (fun (r : Int64) (u : Unit) => ((f_X10_spelt__36 p0 p1 p2 p3 p4 p5 p6) = r ∧ True) ∧ (RJ r 10631 10631)) (BB D cy (va_A w0 sz) (fun (u : Unit) => w0)) (va_A w0 sz)) 0 0 (va_A w0 sz) := by
  refine Met.ofW (cc := cX10_spelt) (maxL := 9) (ret := (some .long)) (by decide) rfl ?_
  intro p e s m args below meth c s₁ B hml hv
  obtain ⟨rfl, hsz, hP, hK, hD0, hSD⟩ := hv
  have hx := B.exec
  have hb := B.bytes
  have hr := B.returns
  have hlocks := B.notSynchronized
  have hts : ∀ w ∈ gT, w.before _ s = true := fun w h => atoms_spec (ws := Cond.code yX10_spelt cX10_spelt 9 (some .long) :: gT) B.pre w (List.mem_cons_of_mem _ h)
  have hown : s.vm.findClass RX10 = some m.cls := findClass_of_methodNamed B.named
  subst hsz
  have hD := hD0.self (sz := s.heap.size)
  generalize hAe : va_A w0 s.heap.size = A at hD hSD ⊢
  have hA : ∀ q : Nat, s.heap.size ≤ q → A q := fun q h => by rw [← hAe]; exact Or.inr h
  have hl := lv_entry ([.int p0, .int p1, .int p2, .int p3, .int p4, .int p5, .int p6]) (n := 9) (Nat.le_of_ble_eq_true rfl)
  rw [lg_entry_eq]
  generalize (lg_sl ([.int p0, .int p1, .int p2, .int p3, .int p4, .int p5, .int p6]) ++ List.replicate (9 - (lg_sl ([.int p0, .int p1, .int p2, .int p3, .int p4, .int p5, .int p6])).length) Slot.unset).toArray = ls at hl ⊢
  have hl : lv_has ls 9 [(0, .int p0), (1, .int p1), (2, .int p2), (3, .int p3), (4, .int p4), (5, .int p5), (6, .int p6)] := hl
  refine nameQ (fun Q hQ => ?_)
  have hw : WD D cy GG A s wr_X10_spelt__49 wa_X10_spelt__49 Ps w0 Ps w0 s.heap [] := ⟨hT, hP, hD, va_S.rf, FR.rf, hT.1, [], (List.append_nil _).symm⟩
  obtain ⟨R9, hR⟩ : ∃ q9 : Int64, f_X10_spelt__36 p0 p1 p2 p3 p4 p5 p6 = q9 := ⟨_, rfl⟩
  have hE := hR
  have B99 : ∀ (x7 : Int64) (H : Heap) (locs : List Loc) (ls : Array Slot), RI p0 110 110 → RI p1 111 111 → RI p2 116 116 → RI p3 0 0 → RI p4 0 0 → RI p5 0 0 → RI p6 0 0 → RJ x7 10631 10631 → f_X10_spelt__36_99 p0 p1 p2 p3 p4 p5 p6 x7 = R9 → WD D cy GG A s wr_X10_spelt__49 wa_X10_spelt__49 Ps w0 Ps w0 H locs → lv_has ls 9 [(0, .int p0), (1, .int p1), (2, .int p2), (3, .int p3), (4, .int p4), (5, .int p5), (6, .int p6), (7, .long x7)] → W p l e (headSpec (Cond.code yX10_spelt cX10_spelt 9 (some .long) :: gT) ({ frames := 0, cells := 0, slots := 0, locals := 200 } : Room)).room s m ([.int p0, .int p1, .int p2, .int p3, .int p4, .int p5, .int p6] : List Value).toArray below meth c H locs 0 0 Q (F0 m 99 ls []) := by
    intro x7 H locs ls r_p0 r_p1 r_p2 r_p3 r_p4 r_p5 r_p6 r_x7 hE hw hl
    refine lv_iload hx hb dX10_spelt_99 (lv_at hl 6 rfl) ?_
    refine lv_if_le (tgt := 120) hx hb dX10_spelt_101 (by decide) (fun c_101 => ?_) (fun c_101 => ?_)
    · refine lv_lload hx hb dX10_spelt_120 (lv_at hl 7 rfl) ?_
      simp only [f_X10_spelt__36_99, ↓reduceIte, eq_true c_101] at hE
      subst hQ
      exact W.lret (v := x7) hx hb hr (fun t ht hW => ⟨⟨x7, (), rfl, ⟨⟨(by rw [hR, ← hE]), trivial⟩, r_x7.to (by decide)⟩, by rw [ht]; exact hw.2.1, va_K.moved hW.alike hK, hw.2.2.1⟩, hw.2.2.2.1.F ht⟩) hw.2.2.2.1.2.2 dX10_spelt_122
    · have r_p6 : RI p6 1 0 := rc_lt2 rl_0 r_p6 (ti_nle c_101) (by decide)
      exact (r_p6.no (by decide)).elim
  have B78 : ∀ (x7 : Int64) (H : Heap) (locs : List Loc) (ls : Array Slot), RI p0 110 110 → RI p1 111 111 → RI p2 116 116 → RI p3 0 0 → RI p4 0 0 → RI p5 0 0 → RI p6 0 0 → RJ x7 10631 10631 → f_X10_spelt__36_78 p0 p1 p2 p3 p4 p5 p6 x7 = R9 → WD D cy GG A s wr_X10_spelt__49 wa_X10_spelt__49 Ps w0 Ps w0 H locs → lv_has ls 9 [(0, .int p0), (1, .int p1), (2, .int p2), (3, .int p3), (4, .int p4), (5, .int p5), (6, .int p6), (7, .long x7)] → W p l e (headSpec (Cond.code yX10_spelt cX10_spelt 9 (some .long) :: gT) ({ frames := 0, cells := 0, slots := 0, locals := 200 } : Room)).room s m ([.int p0, .int p1, .int p2, .int p3, .int p4, .int p5, .int p6] : List Value).toArray below meth c H locs 0 0 Q (F0 m 78 ls []) := by
    intro x7 H locs ls r_p0 r_p1 r_p2 r_p3 r_p4 r_p5 r_p6 r_x7 hE hw hl
    refine lv_iload hx hb dX10_spelt_78 (lv_at hl 5 rfl) ?_
    refine lv_if_le (tgt := 99) hx hb dX10_spelt_80 (by decide) (fun c_80 => ?_) (fun c_80 => ?_)
    · simp only [f_X10_spelt__36_78, ↓reduceIte, eq_true c_80] at hE
      exact B99 x7 _ _ ls r_p0 r_p1 r_p2 r_p3 r_p4 r_p5 r_p6 r_x7 hE hw hl
    · have r_p5 : RI p5 1 0 := rc_lt2 rl_0 r_p5 (ti_nle c_80) (by decide)
      exact (r_p5.no (by decide)).elim
  have B57 : ∀ (x7 : Int64) (H : Heap) (locs : List Loc) (ls : Array Slot), RI p0 110 110 → RI p1 111 111 → RI p2 116 116 → RI p3 0 0 → RI p4 0 0 → RI p5 0 0 → RI p6 0 0 → RJ x7 10631 10631 → f_X10_spelt__36_57 p0 p1 p2 p3 p4 p5 p6 x7 = R9 → WD D cy GG A s wr_X10_spelt__49 wa_X10_spelt__49 Ps w0 Ps w0 H locs → lv_has ls 9 [(0, .int p0), (1, .int p1), (2, .int p2), (3, .int p3), (4, .int p4), (5, .int p5), (6, .int p6), (7, .long x7)] → W p l e (headSpec (Cond.code yX10_spelt cX10_spelt 9 (some .long) :: gT) ({ frames := 0, cells := 0, slots := 0, locals := 200 } : Room)).room s m ([.int p0, .int p1, .int p2, .int p3, .int p4, .int p5, .int p6] : List Value).toArray below meth c H locs 0 0 Q (F0 m 57 ls []) := by
    intro x7 H locs ls r_p0 r_p1 r_p2 r_p3 r_p4 r_p5 r_p6 r_x7 hE hw hl
    refine lv_iload hx hb dX10_spelt_57 (lv_at hl 4 rfl) ?_
    refine lv_if_le (tgt := 78) hx hb dX10_spelt_59 (by decide) (fun c_59 => ?_) (fun c_59 => ?_)
    · simp only [f_X10_spelt__36_57, ↓reduceIte, eq_true c_59] at hE
      exact B78 x7 _ _ ls r_p0 r_p1 r_p2 r_p3 r_p4 r_p5 r_p6 r_x7 hE hw hl
    · have r_p4 : RI p4 1 0 := rc_lt2 rl_0 r_p4 (ti_nle c_59) (by decide)
      exact (r_p4.no (by decide)).elim
  have B38 : ∀ (x7 : Int64) (H : Heap) (locs : List Loc) (ls : Array Slot), RI p0 110 110 → RI p1 111 111 → RI p2 116 116 → RI p3 0 0 → RI p4 0 0 → RI p5 0 0 → RI p6 0 0 → RJ x7 10631 10631 → f_X10_spelt__36_38 p0 p1 p2 p3 p4 p5 p6 x7 = R9 → WD D cy GG A s wr_X10_spelt__49 wa_X10_spelt__49 Ps w0 Ps w0 H locs → lv_has ls 9 [(0, .int p0), (1, .int p1), (2, .int p2), (3, .int p3), (4, .int p4), (5, .int p5), (6, .int p6), (7, .long x7)] → W p l e (headSpec (Cond.code yX10_spelt cX10_spelt 9 (some .long) :: gT) ({ frames := 0, cells := 0, slots := 0, locals := 200 } : Room)).room s m ([.int p0, .int p1, .int p2, .int p3, .int p4, .int p5, .int p6] : List Value).toArray below meth c H locs 0 0 Q (F0 m 38 ls []) := by
    intro x7 H locs ls r_p0 r_p1 r_p2 r_p3 r_p4 r_p5 r_p6 r_x7 hE hw hl
    refine lv_iload_n hx hb dX10_spelt_38 rfl (lv_at hl 3 rfl) ?_
    refine lv_if_le (tgt := 57) hx hb dX10_spelt_39 (by decide) (fun c_39 => ?_) (fun c_39 => ?_)
    · simp only [f_X10_spelt__36_38, ↓reduceIte, eq_true c_39] at hE
      exact B57 x7 _ _ ls r_p0 r_p1 r_p2 r_p3 r_p4 r_p5 r_p6 r_x7 hE hw hl
    · have r_p3 : RI p3 1 0 := rc_lt2 rl_0 r_p3 (ti_nle c_39) (by decide)
      exact (r_p3.no (by decide)).elim
  refine lv_ldc2 (v := 27) hx hb hown (hts _ tw_1312) dX10_spelt_0 ?_
  refine lv_iload_n hx hb dX10_spelt_3 rfl (lv_at hl 0 rfl) ?_
  obtain ⟨w_1, e_w_1⟩ : ∃ q9 : Int64, (p0 : Int32).toInt64 = q9 := ⟨_, rfl⟩
  refine lv_i2l (v := w_1) hx hb dX10_spelt_4 e_w_1 ?_
  have r_w_1 := tq_i2l r_p0 e_w_1
  have q_w_1 : Int32.toInt64 p0 = w_1 := e_w_1
  refine lv_ldc2 (v := 96) hx hb hown (hts _ tw_1313) dX10_spelt_5 ?_
  refine lv_lsub hx hb dX10_spelt_8 (lv_topl (fun w_2 e_w_2 => ?_))
  have r_w_2 := tq_lsub (lo := 14) (hi := 14) r_w_1 rk_96 (by decide +kernel) e_w_2
  have q_w_2 : w_1 - (96 : Int64) = w_2 := e_w_2.symm
  refine lv_lmul hx hb dX10_spelt_9 (lv_topl (fun w_3 e_w_3 => ?_))
  have r_w_3 := tq_lmul (lo := 378) (hi := 378) rk_27 r_w_2 (by decide +kernel) e_w_3
  have q_w_3 : (27 : Int64) * w_2 = w_3 := e_w_3.symm
  refine lv_iload_n hx hb dX10_spelt_10 rfl (lv_at hl 1 rfl) ?_
  obtain ⟨w_4, e_w_4⟩ : ∃ q9 : Int64, (p1 : Int32).toInt64 = q9 := ⟨_, rfl⟩
  refine lv_i2l (v := w_4) hx hb dX10_spelt_11 e_w_4 ?_
  have r_w_4 := tq_i2l r_p1 e_w_4
  have q_w_4 : Int32.toInt64 p1 = w_4 := e_w_4
  refine lv_ladd hx hb dX10_spelt_12 (lv_topl (fun w_5 e_w_5 => ?_))
  have r_w_5 := tq_ladd (lo := 489) (hi := 489) r_w_3 r_w_4 (by decide +kernel) e_w_5
  have q_w_5 : w_3 + w_4 = w_5 := e_w_5.symm
  refine lv_ldc2 (v := 96) hx hb hown (hts _ tw_1313) dX10_spelt_13 ?_
  refine lv_lsub hx hb dX10_spelt_16 (lv_topl (fun w_6 e_w_6 => ?_))
  have r_w_6 := tq_lsub (lo := 393) (hi := 393) r_w_5 rk_96 (by decide +kernel) e_w_6
  have q_w_6 : w_5 - (96 : Int64) = w_6 := e_w_6.symm
  refine lv_lstore (lv' := [(7, .long w_6), (0, .int p0), (1, .int p1), (2, .int p2), (3, .int p3), (4, .int p4), (5, .int p5), (6, .int p6)]) hx hb dX10_spelt_17 hl (by decide) rfl (fun ls hl => ?_)
  refine lv_iload_n hx hb dX10_spelt_19 rfl (lv_at hl 3 rfl) ?_
  refine lv_if_le (tgt := 38) hx hb dX10_spelt_20 (by decide) (fun c_20 => ?_) (fun c_20 => ?_)
  · have r_p2 : RI p2 116 0 := rc_le1 r_p2 rl_0 (ti_le c_20) (by decide)
    exact (r_p2.no (by decide)).elim
  · refine lv_ldc2 (v := 27) hx hb hown (hts _ tw_1312) dX10_spelt_23 ?_
    refine lv_lload hx hb dX10_spelt_26 (lv_at hl 0 rfl) ?_
    refine lv_lmul hx hb dX10_spelt_28 (lv_topl (fun w_7 e_w_7 => ?_))
    have r_w_7 := tq_lmul (lo := 10611) (hi := 10611) rk_27 r_w_6 (by decide +kernel) e_w_7
    have q_w_7 : (27 : Int64) * w_6 = w_7 := e_w_7.symm
    refine lv_iload_n hx hb dX10_spelt_29 rfl (lv_at hl 3 rfl) ?_
    obtain ⟨w_8, e_w_8⟩ : ∃ q9 : Int64, (p2 : Int32).toInt64 = q9 := ⟨_, rfl⟩
    refine lv_i2l (v := w_8) hx hb dX10_spelt_30 e_w_8 ?_
    have r_w_8 := tq_i2l r_p2 e_w_8
    have q_w_8 : Int32.toInt64 p2 = w_8 := e_w_8
    refine lv_ladd hx hb dX10_spelt_31 (lv_topl (fun w_9 e_w_9 => ?_))
    have r_w_9 := tq_ladd (lo := 10727) (hi := 10727) r_w_7 r_w_8 (by decide +kernel) e_w_9
    have q_w_9 : w_7 + w_8 = w_9 := e_w_9.symm
    refine lv_ldc2 (v := 96) hx hb hown (hts _ tw_1313) dX10_spelt_32 ?_
    refine lv_lsub hx hb dX10_spelt_35 (lv_topl (fun w_10 e_w_10 => ?_))
    have r_w_10 := tq_lsub (lo := 10631) (hi := 10631) r_w_9 rk_96 (by decide +kernel) e_w_10
    have q_w_10 : w_9 - (96 : Int64) = w_10 := e_w_10.symm
    refine lv_lstore (lv' := [(7, .long w_10), (0, .int p0), (1, .int p1), (2, .int p2), (3, .int p3), (4, .int p4), (5, .int p5), (6, .int p6)]) hx hb dX10_spelt_36 hl (by decide) rfl (fun ls hl => ?_)
    simp only [f_X10_spelt__36, ↓reduceIte, q_w_1, q_w_2, q_w_3, q_w_4, q_w_5, q_w_6, eq_false c_20, q_w_7, q_w_8, q_w_9, q_w_10] at hE
    exact B38 w_10 _ _ ls r_p0 r_p1 r_p2 r_p3 r_p4 r_p5 r_p6 r_w_10 hE hw (lv_sub hl [1, 2, 3, 4, 5, 6, 7, 0] rfl)
abbrev wr_X10_spelt__50 : List (Nat × Nat) := []
abbrev wa_X10_spelt__50 : List Nat := []
set_option maxHeartbeats 4000000 in
set_option maxRecDepth 100000 in
theorem c_X10_spelt__50 (l : Launch) (D : va_G) (cy : Nat → ClassId) (z : Nat → Nat) (sz : Nat) (Ps : PSI) (w0 : va_W) (hT : HT cy GG Ps w0) (p0 : Int32) (p1 : Int32) (p2 : Int32) (p3 : Int32) (p4 : Int32) (p5 : Int32) (p6 : Int32) (r_p0 : RI p0 111 111) (r_p1 : RI p1 112 112) (r_p2 : RI p2 101 101) (r_p3 : RI p3 110 110) (r_p4 : RI p4 101 101) (r_p5 : RI p5 100 100) (r_p6 : RI p6 0 0) : Met l yX10_spelt (Cond.code yX10_spelt cX10_spelt 9 (some .long) :: gT) ({ frames := 0, cells := 0, slots := 0, locals := 200 } : Room) (va_Pc [.int p0, .int p1, .int p2, .int p3, .int p4, .int p5, .int p6] (PRE D cy z w0 sz)) (va_Ql (fun (r : Int64) (u : Unit) => ((f_X10_spelt__30 p0 p1 p2 p3 p4 p5 p6) = r ∧ True) ∧ (RJ r 223845421 223845421)) (BB D cy (va_A w0 sz) (fun (u : Unit) => w0)) (va_A w0 sz)) 0 0 (va_A w0 sz) := by
  refine Met.ofW (cc := cX10_spelt) (maxL := 9) (ret := (some .long)) (by decide) rfl ?_
  intro p e s m args below meth c s₁ B hml hv
  obtain ⟨rfl, hsz, hP, hK, hD0, hSD⟩ := hv
  have hx := B.exec
  have hb := B.bytes
  have hr := B.returns
  have hlocks := B.notSynchronized
  have hts : ∀ w ∈ gT, w.before _ s = true := fun w h => atoms_spec (ws := Cond.code yX10_spelt cX10_spelt 9 (some .long) :: gT) B.pre w (List.mem_cons_of_mem _ h)
  have hown : s.vm.findClass RX10 = some m.cls := findClass_of_methodNamed B.named
  subst hsz
  have hD := hD0.self (sz := s.heap.size)
  generalize hAe : va_A w0 s.heap.size = A at hD hSD ⊢
  have hA : ∀ q : Nat, s.heap.size ≤ q → A q := fun q h => by rw [← hAe]; exact Or.inr h
  have hl := lv_entry ([.int p0, .int p1, .int p2, .int p3, .int p4, .int p5, .int p6]) (n := 9) (Nat.le_of_ble_eq_true rfl)
  rw [lg_entry_eq]
  generalize (lg_sl ([.int p0, .int p1, .int p2, .int p3, .int p4, .int p5, .int p6]) ++ List.replicate (9 - (lg_sl ([.int p0, .int p1, .int p2, .int p3, .int p4, .int p5, .int p6])).length) Slot.unset).toArray = ls at hl ⊢
  have hl : lv_has ls 9 [(0, .int p0), (1, .int p1), (2, .int p2), (3, .int p3), (4, .int p4), (5, .int p5), (6, .int p6)] := hl
  refine nameQ (fun Q hQ => ?_)
  have hw : WD D cy GG A s wr_X10_spelt__50 wa_X10_spelt__50 Ps w0 Ps w0 s.heap [] := ⟨hT, hP, hD, va_S.rf, FR.rf, hT.1, [], (List.append_nil _).symm⟩
  obtain ⟨R9, hR⟩ : ∃ q9 : Int64, f_X10_spelt__30 p0 p1 p2 p3 p4 p5 p6 = q9 := ⟨_, rfl⟩
  have hE := hR
  have B99 : ∀ (x7 : Int64) (H : Heap) (locs : List Loc) (ls : Array Slot), RI p0 111 111 → RI p1 112 112 → RI p2 101 101 → RI p3 110 110 → RI p4 101 101 → RI p5 100 100 → RI p6 0 0 → RJ x7 223845421 223845421 → f_X10_spelt__30_99 p0 p1 p2 p3 p4 p5 p6 x7 = R9 → WD D cy GG A s wr_X10_spelt__50 wa_X10_spelt__50 Ps w0 Ps w0 H locs → lv_has ls 9 [(0, .int p0), (1, .int p1), (2, .int p2), (3, .int p3), (4, .int p4), (5, .int p5), (6, .int p6), (7, .long x7)] → W p l e (headSpec (Cond.code yX10_spelt cX10_spelt 9 (some .long) :: gT) ({ frames := 0, cells := 0, slots := 0, locals := 200 } : Room)).room s m ([.int p0, .int p1, .int p2, .int p3, .int p4, .int p5, .int p6] : List Value).toArray below meth c H locs 0 0 Q (F0 m 99 ls []) := by
    intro x7 H locs ls r_p0 r_p1 r_p2 r_p3 r_p4 r_p5 r_p6 r_x7 hE hw hl
    refine lv_iload hx hb dX10_spelt_99 (lv_at hl 6 rfl) ?_
    refine lv_if_le (tgt := 120) hx hb dX10_spelt_101 (by decide) (fun c_101 => ?_) (fun c_101 => ?_)
    · refine lv_lload hx hb dX10_spelt_120 (lv_at hl 7 rfl) ?_
      simp only [f_X10_spelt__30_99, ↓reduceIte, eq_true c_101] at hE
      subst hQ
      exact W.lret (v := x7) hx hb hr (fun t ht hW => ⟨⟨x7, (), rfl, ⟨⟨(by rw [hR, ← hE]), trivial⟩, r_x7.to (by decide)⟩, by rw [ht]; exact hw.2.1, va_K.moved hW.alike hK, hw.2.2.1⟩, hw.2.2.2.1.F ht⟩) hw.2.2.2.1.2.2 dX10_spelt_122
    · have r_p6 : RI p6 1 0 := rc_lt2 rl_0 r_p6 (ti_nle c_101) (by decide)
      exact (r_p6.no (by decide)).elim
  have B78 : ∀ (x7 : Int64) (H : Heap) (locs : List Loc) (ls : Array Slot), RI p0 111 111 → RI p1 112 112 → RI p2 101 101 → RI p3 110 110 → RI p4 101 101 → RI p5 100 100 → RI p6 0 0 → RJ x7 8290571 8290571 → f_X10_spelt__30_78 p0 p1 p2 p3 p4 p5 p6 x7 = R9 → WD D cy GG A s wr_X10_spelt__50 wa_X10_spelt__50 Ps w0 Ps w0 H locs → lv_has ls 9 [(0, .int p0), (1, .int p1), (2, .int p2), (3, .int p3), (4, .int p4), (5, .int p5), (6, .int p6), (7, .long x7)] → W p l e (headSpec (Cond.code yX10_spelt cX10_spelt 9 (some .long) :: gT) ({ frames := 0, cells := 0, slots := 0, locals := 200 } : Room)).room s m ([.int p0, .int p1, .int p2, .int p3, .int p4, .int p5, .int p6] : List Value).toArray below meth c H locs 0 0 Q (F0 m 78 ls []) := by
    intro x7 H locs ls r_p0 r_p1 r_p2 r_p3 r_p4 r_p5 r_p6 r_x7 hE hw hl
    refine lv_iload hx hb dX10_spelt_78 (lv_at hl 5 rfl) ?_
    refine lv_if_le (tgt := 99) hx hb dX10_spelt_80 (by decide) (fun c_80 => ?_) (fun c_80 => ?_)
    · have r_p5 : RI p5 100 0 := rc_le1 r_p5 rl_0 (ti_le c_80) (by decide)
      exact (r_p5.no (by decide)).elim
    · refine lv_ldc2 (v := 27) hx hb hown (hts _ tw_1312) dX10_spelt_83 ?_
      refine lv_lload hx hb dX10_spelt_86 (lv_at hl 7 rfl) ?_
      refine lv_lmul hx hb dX10_spelt_88 (lv_topl (fun w_1 e_w_1 => ?_))
      have r_w_1 := tq_lmul (lo := 223845417) (hi := 223845417) rk_27 r_x7 (by decide +kernel) e_w_1
      have q_w_1 : (27 : Int64) * x7 = w_1 := e_w_1.symm
      refine lv_iload hx hb dX10_spelt_89 (lv_at hl 5 rfl) ?_
      obtain ⟨w_2, e_w_2⟩ : ∃ q9 : Int64, (p5 : Int32).toInt64 = q9 := ⟨_, rfl⟩
      refine lv_i2l (v := w_2) hx hb dX10_spelt_91 e_w_2 ?_
      have r_w_2 := tq_i2l r_p5 e_w_2
      have q_w_2 : Int32.toInt64 p5 = w_2 := e_w_2
      refine lv_ladd hx hb dX10_spelt_92 (lv_topl (fun w_3 e_w_3 => ?_))
      have r_w_3 := tq_ladd (lo := 223845517) (hi := 223845517) r_w_1 r_w_2 (by decide +kernel) e_w_3
      have q_w_3 : w_1 + w_2 = w_3 := e_w_3.symm
      refine lv_ldc2 (v := 96) hx hb hown (hts _ tw_1313) dX10_spelt_93 ?_
      refine lv_lsub hx hb dX10_spelt_96 (lv_topl (fun w_4 e_w_4 => ?_))
      have r_w_4 := tq_lsub (lo := 223845421) (hi := 223845421) r_w_3 rk_96 (by decide +kernel) e_w_4
      have q_w_4 : w_3 - (96 : Int64) = w_4 := e_w_4.symm
      refine lv_lstore (lv' := [(7, .long w_4), (0, .int p0), (1, .int p1), (2, .int p2), (3, .int p3), (4, .int p4), (5, .int p5), (6, .int p6)]) hx hb dX10_spelt_97 hl (by decide) rfl (fun ls hl => ?_)
      simp only [f_X10_spelt__30_78, ↓reduceIte, eq_false c_80, q_w_1, q_w_2, q_w_3, q_w_4] at hE
      exact B99 w_4 _ _ ls r_p0 r_p1 r_p2 r_p3 r_p4 r_p5 r_p6 r_w_4 hE hw (lv_sub hl [1, 2, 3, 4, 5, 6, 7, 0] rfl)
  have B57 : ∀ (x7 : Int64) (H : Heap) (locs : List Loc) (ls : Array Slot), RI p0 111 111 → RI p1 112 112 → RI p2 101 101 → RI p3 110 110 → RI p4 101 101 → RI p5 100 100 → RI p6 0 0 → RJ x7 307058 307058 → f_X10_spelt__30_57 p0 p1 p2 p3 p4 p5 p6 x7 = R9 → WD D cy GG A s wr_X10_spelt__50 wa_X10_spelt__50 Ps w0 Ps w0 H locs → lv_has ls 9 [(0, .int p0), (1, .int p1), (2, .int p2), (3, .int p3), (4, .int p4), (5, .int p5), (6, .int p6), (7, .long x7)] → W p l e (headSpec (Cond.code yX10_spelt cX10_spelt 9 (some .long) :: gT) ({ frames := 0, cells := 0, slots := 0, locals := 200 } : Room)).room s m ([.int p0, .int p1, .int p2, .int p3, .int p4, .int p5, .int p6] : List Value).toArray below meth c H locs 0 0 Q (F0 m 57 ls []) := by
    intro x7 H locs ls r_p0 r_p1 r_p2 r_p3 r_p4 r_p5 r_p6 r_x7 hE hw hl
    refine lv_iload hx hb dX10_spelt_57 (lv_at hl 4 rfl) ?_
    refine lv_if_le (tgt := 78) hx hb dX10_spelt_59 (by decide) (fun c_59 => ?_) (fun c_59 => ?_)
    · have r_p4 : RI p4 101 0 := rc_le1 r_p4 rl_0 (ti_le c_59) (by decide)
      exact (r_p4.no (by decide)).elim
    · refine lv_ldc2 (v := 27) hx hb hown (hts _ tw_1312) dX10_spelt_62 ?_
      refine lv_lload hx hb dX10_spelt_65 (lv_at hl 7 rfl) ?_
      refine lv_lmul hx hb dX10_spelt_67 (lv_topl (fun w_5 e_w_5 => ?_))
      have r_w_5 := tq_lmul (lo := 8290566) (hi := 8290566) rk_27 r_x7 (by decide +kernel) e_w_5
      have q_w_5 : (27 : Int64) * x7 = w_5 := e_w_5.symm
      refine lv_iload hx hb dX10_spelt_68 (lv_at hl 4 rfl) ?_
      obtain ⟨w_6, e_w_6⟩ : ∃ q9 : Int64, (p4 : Int32).toInt64 = q9 := ⟨_, rfl⟩
      refine lv_i2l (v := w_6) hx hb dX10_spelt_70 e_w_6 ?_
      have r_w_6 := tq_i2l r_p4 e_w_6
      have q_w_6 : Int32.toInt64 p4 = w_6 := e_w_6
      refine lv_ladd hx hb dX10_spelt_71 (lv_topl (fun w_7 e_w_7 => ?_))
      have r_w_7 := tq_ladd (lo := 8290667) (hi := 8290667) r_w_5 r_w_6 (by decide +kernel) e_w_7
      have q_w_7 : w_5 + w_6 = w_7 := e_w_7.symm
      refine lv_ldc2 (v := 96) hx hb hown (hts _ tw_1313) dX10_spelt_72 ?_
      refine lv_lsub hx hb dX10_spelt_75 (lv_topl (fun w_8 e_w_8 => ?_))
      have r_w_8 := tq_lsub (lo := 8290571) (hi := 8290571) r_w_7 rk_96 (by decide +kernel) e_w_8
      have q_w_8 : w_7 - (96 : Int64) = w_8 := e_w_8.symm
      refine lv_lstore (lv' := [(7, .long w_8), (0, .int p0), (1, .int p1), (2, .int p2), (3, .int p3), (4, .int p4), (5, .int p5), (6, .int p6)]) hx hb dX10_spelt_76 hl (by decide) rfl (fun ls hl => ?_)
      simp only [f_X10_spelt__30_57, ↓reduceIte, eq_false c_59, q_w_5, q_w_6, q_w_7, q_w_8] at hE
      exact B78 w_8 _ _ ls r_p0 r_p1 r_p2 r_p3 r_p4 r_p5 r_p6 r_w_8 hE hw (lv_sub hl [1, 2, 3, 4, 5, 6, 7, 0] rfl)
  have B38 : ∀ (x7 : Int64) (H : Heap) (locs : List Loc) (ls : Array Slot), RI p0 111 111 → RI p1 112 112 → RI p2 101 101 → RI p3 110 110 → RI p4 101 101 → RI p5 100 100 → RI p6 0 0 → RJ x7 11372 11372 → f_X10_spelt__30_38 p0 p1 p2 p3 p4 p5 p6 x7 = R9 → WD D cy GG A s wr_X10_spelt__50 wa_X10_spelt__50 Ps w0 Ps w0 H locs → lv_has ls 9 [(0, .int p0), (1, .int p1), (2, .int p2), (3, .int p3), (4, .int p4), (5, .int p5), (6, .int p6), (7, .long x7)] → W p l e (headSpec (Cond.code yX10_spelt cX10_spelt 9 (some .long) :: gT) ({ frames := 0, cells := 0, slots := 0, locals := 200 } : Room)).room s m ([.int p0, .int p1, .int p2, .int p3, .int p4, .int p5, .int p6] : List Value).toArray below meth c H locs 0 0 Q (F0 m 38 ls []) := by
    intro x7 H locs ls r_p0 r_p1 r_p2 r_p3 r_p4 r_p5 r_p6 r_x7 hE hw hl
    refine lv_iload_n hx hb dX10_spelt_38 rfl (lv_at hl 3 rfl) ?_
    refine lv_if_le (tgt := 57) hx hb dX10_spelt_39 (by decide) (fun c_39 => ?_) (fun c_39 => ?_)
    · have r_p3 : RI p3 110 0 := rc_le1 r_p3 rl_0 (ti_le c_39) (by decide)
      exact (r_p3.no (by decide)).elim
    · refine lv_ldc2 (v := 27) hx hb hown (hts _ tw_1312) dX10_spelt_42 ?_
      refine lv_lload hx hb dX10_spelt_45 (lv_at hl 7 rfl) ?_
      refine lv_lmul hx hb dX10_spelt_47 (lv_topl (fun w_9 e_w_9 => ?_))
      have r_w_9 := tq_lmul (lo := 307044) (hi := 307044) rk_27 r_x7 (by decide +kernel) e_w_9
      have q_w_9 : (27 : Int64) * x7 = w_9 := e_w_9.symm
      refine lv_iload_n hx hb dX10_spelt_48 rfl (lv_at hl 3 rfl) ?_
      obtain ⟨w_10, e_w_10⟩ : ∃ q9 : Int64, (p3 : Int32).toInt64 = q9 := ⟨_, rfl⟩
      refine lv_i2l (v := w_10) hx hb dX10_spelt_49 e_w_10 ?_
      have r_w_10 := tq_i2l r_p3 e_w_10
      have q_w_10 : Int32.toInt64 p3 = w_10 := e_w_10
      refine lv_ladd hx hb dX10_spelt_50 (lv_topl (fun w_11 e_w_11 => ?_))
      have r_w_11 := tq_ladd (lo := 307154) (hi := 307154) r_w_9 r_w_10 (by decide +kernel) e_w_11
      have q_w_11 : w_9 + w_10 = w_11 := e_w_11.symm
      refine lv_ldc2 (v := 96) hx hb hown (hts _ tw_1313) dX10_spelt_51 ?_
      refine lv_lsub hx hb dX10_spelt_54 (lv_topl (fun w_12 e_w_12 => ?_))
      have r_w_12 := tq_lsub (lo := 307058) (hi := 307058) r_w_11 rk_96 (by decide +kernel) e_w_12
      have q_w_12 : w_11 - (96 : Int64) = w_12 := e_w_12.symm
      refine lv_lstore (lv' := [(7, .long w_12), (0, .int p0), (1, .int p1), (2, .int p2), (3, .int p3), (4, .int p4), (5, .int p5), (6, .int p6)]) hx hb dX10_spelt_55 hl (by decide) rfl (fun ls hl => ?_)
      simp only [f_X10_spelt__30_38, ↓reduceIte, eq_false c_39, q_w_9, q_w_10, q_w_11, q_w_12] at hE
      exact B57 w_12 _ _ ls r_p0 r_p1 r_p2 r_p3 r_p4 r_p5 r_p6 r_w_12 hE hw (lv_sub hl [1, 2, 3, 4, 5, 6, 7, 0] rfl)
  refine lv_ldc2 (v := 27) hx hb hown (hts _ tw_1312) dX10_spelt_0 ?_
  refine lv_iload_n hx hb dX10_spelt_3 rfl (lv_at hl 0 rfl) ?_
  obtain ⟨w_13, e_w_13⟩ : ∃ q9 : Int64, (p0 : Int32).toInt64 = q9 := ⟨_, rfl⟩
  refine lv_i2l (v := w_13) hx hb dX10_spelt_4 e_w_13 ?_
  have r_w_13 := tq_i2l r_p0 e_w_13
  have q_w_13 : Int32.toInt64 p0 = w_13 := e_w_13
  refine lv_ldc2 (v := 96) hx hb hown (hts _ tw_1313) dX10_spelt_5 ?_
  refine lv_lsub hx hb dX10_spelt_8 (lv_topl (fun w_14 e_w_14 => ?_))
  have r_w_14 := tq_lsub (lo := 15) (hi := 15) r_w_13 rk_96 (by decide +kernel) e_w_14
  have q_w_14 : w_13 - (96 : Int64) = w_14 := e_w_14.symm
  refine lv_lmul hx hb dX10_spelt_9 (lv_topl (fun w_15 e_w_15 => ?_))
  have r_w_15 := tq_lmul (lo := 405) (hi := 405) rk_27 r_w_14 (by decide +kernel) e_w_15
  have q_w_15 : (27 : Int64) * w_14 = w_15 := e_w_15.symm
  refine lv_iload_n hx hb dX10_spelt_10 rfl (lv_at hl 1 rfl) ?_
  obtain ⟨w_16, e_w_16⟩ : ∃ q9 : Int64, (p1 : Int32).toInt64 = q9 := ⟨_, rfl⟩
  refine lv_i2l (v := w_16) hx hb dX10_spelt_11 e_w_16 ?_
  have r_w_16 := tq_i2l r_p1 e_w_16
  have q_w_16 : Int32.toInt64 p1 = w_16 := e_w_16
  refine lv_ladd hx hb dX10_spelt_12 (lv_topl (fun w_17 e_w_17 => ?_))
  have r_w_17 := tq_ladd (lo := 517) (hi := 517) r_w_15 r_w_16 (by decide +kernel) e_w_17
  have q_w_17 : w_15 + w_16 = w_17 := e_w_17.symm
  refine lv_ldc2 (v := 96) hx hb hown (hts _ tw_1313) dX10_spelt_13 ?_
  refine lv_lsub hx hb dX10_spelt_16 (lv_topl (fun w_18 e_w_18 => ?_))
  have r_w_18 := tq_lsub (lo := 421) (hi := 421) r_w_17 rk_96 (by decide +kernel) e_w_18
  have q_w_18 : w_17 - (96 : Int64) = w_18 := e_w_18.symm
  refine lv_lstore (lv' := [(7, .long w_18), (0, .int p0), (1, .int p1), (2, .int p2), (3, .int p3), (4, .int p4), (5, .int p5), (6, .int p6)]) hx hb dX10_spelt_17 hl (by decide) rfl (fun ls hl => ?_)
  refine lv_iload_n hx hb dX10_spelt_19 rfl (lv_at hl 3 rfl) ?_
  refine lv_if_le (tgt := 38) hx hb dX10_spelt_20 (by decide) (fun c_20 => ?_) (fun c_20 => ?_)
  · have r_p2 : RI p2 101 0 := rc_le1 r_p2 rl_0 (ti_le c_20) (by decide)
    exact (r_p2.no (by decide)).elim
  · refine lv_ldc2 (v := 27) hx hb hown (hts _ tw_1312) dX10_spelt_23 ?_
    refine lv_lload hx hb dX10_spelt_26 (lv_at hl 0 rfl) ?_
    refine lv_lmul hx hb dX10_spelt_28 (lv_topl (fun w_19 e_w_19 => ?_))
    have r_w_19 := tq_lmul (lo := 11367) (hi := 11367) rk_27 r_w_18 (by decide +kernel) e_w_19
    have q_w_19 : (27 : Int64) * w_18 = w_19 := e_w_19.symm
    refine lv_iload_n hx hb dX10_spelt_29 rfl (lv_at hl 3 rfl) ?_
    obtain ⟨w_20, e_w_20⟩ : ∃ q9 : Int64, (p2 : Int32).toInt64 = q9 := ⟨_, rfl⟩
    refine lv_i2l (v := w_20) hx hb dX10_spelt_30 e_w_20 ?_
    have r_w_20 := tq_i2l r_p2 e_w_20
    have q_w_20 : Int32.toInt64 p2 = w_20 := e_w_20
    refine lv_ladd hx hb dX10_spelt_31 (lv_topl (fun w_21 e_w_21 => ?_))
    have r_w_21 := tq_ladd (lo := 11468) (hi := 11468) r_w_19 r_w_20 (by decide +kernel) e_w_21
    have q_w_21 : w_19 + w_20 = w_21 := e_w_21.symm
    refine lv_ldc2 (v := 96) hx hb hown (hts _ tw_1313) dX10_spelt_32 ?_
    refine lv_lsub hx hb dX10_spelt_35 (lv_topl (fun w_22 e_w_22 => ?_))
    have r_w_22 := tq_lsub (lo := 11372) (hi := 11372) r_w_21 rk_96 (by decide +kernel) e_w_22
    have q_w_22 : w_21 - (96 : Int64) = w_22 := e_w_22.symm
    refine lv_lstore (lv' := [(7, .long w_22), (0, .int p0), (1, .int p1), (2, .int p2), (3, .int p3), (4, .int p4), (5, .int p5), (6, .int p6)]) hx hb dX10_spelt_36 hl (by decide) rfl (fun ls hl => ?_)
    simp only [f_X10_spelt__30, ↓reduceIte, q_w_13, q_w_14, q_w_15, q_w_16, q_w_17, q_w_18, eq_false c_20, q_w_19, q_w_20, q_w_21, q_w_22] at hE
    exact B38 w_22 _ _ ls r_p0 r_p1 r_p2 r_p3 r_p4 r_p5 r_p6 r_w_22 hE hw (lv_sub hl [1, 2, 3, 4, 5, 6, 7, 0] rfl)
abbrev wr_X10_spelt__51 : List (Nat × Nat) := []
abbrev wa_X10_spelt__51 : List Nat := []
set_option maxHeartbeats 4000000 in
set_option maxRecDepth 100000 in
theorem c_X10_spelt__51 (l : Launch) (D : va_G) (cy : Nat → ClassId) (z : Nat → Nat) (sz : Nat) (Ps : PSI) (w0 : va_W) (hT : HT cy GG Ps w0) (p0 : Int32) (p1 : Int32) (p2 : Int32) (p3 : Int32) (p4 : Int32) (p5 : Int32) (p6 : Int32) (r_p0 : RI p0 110 110) (r_p1 : RI p1 111 111) (r_p2 : RI p2 116 116) (r_p3 : RI p3 104 104) (r_p4 : RI p4 105 105) (r_p5 : RI p5 110 110) (r_p6 : RI p6 103 103) : Met l yX10_spelt (Cond.code yX10_spelt cX10_spelt 9 (some .long) :: gT) ({ frames := 0, cells := 0, slots := 0, locals := 200 } : Room) (va_Pc [.int p0, .int p1, .int p2, .int p3, .int p4, .int p5, .int p6] (PRE D cy z w0 sz)) (va_Ql (fun (r : Int64) (u : Unit) => ((f_X10_spelt__37 p0 p1 p2 p3 p4 p5 p6) = r ∧ True) ∧ (RJ r 5649913681 5649913681)) (BB D cy (va_A w0 sz) (fun (u : Unit) => w0)) (va_A w0 sz)) 0 0 (va_A w0 sz) := by
  refine Met.ofW (cc := cX10_spelt) (maxL := 9) (ret := (some .long)) (by decide) rfl ?_
  intro p e s m args below meth c s₁ B hml hv
  obtain ⟨rfl, hsz, hP, hK, hD0, hSD⟩ := hv
  have hx := B.exec
  have hb := B.bytes
  have hr := B.returns
  have hlocks := B.notSynchronized
  have hts : ∀ w ∈ gT, w.before _ s = true := fun w h => atoms_spec (ws := Cond.code yX10_spelt cX10_spelt 9 (some .long) :: gT) B.pre w (List.mem_cons_of_mem _ h)
  have hown : s.vm.findClass RX10 = some m.cls := findClass_of_methodNamed B.named
  subst hsz
  have hD := hD0.self (sz := s.heap.size)
  generalize hAe : va_A w0 s.heap.size = A at hD hSD ⊢
  have hA : ∀ q : Nat, s.heap.size ≤ q → A q := fun q h => by rw [← hAe]; exact Or.inr h
  have hl := lv_entry ([.int p0, .int p1, .int p2, .int p3, .int p4, .int p5, .int p6]) (n := 9) (Nat.le_of_ble_eq_true rfl)
  rw [lg_entry_eq]
  generalize (lg_sl ([.int p0, .int p1, .int p2, .int p3, .int p4, .int p5, .int p6]) ++ List.replicate (9 - (lg_sl ([.int p0, .int p1, .int p2, .int p3, .int p4, .int p5, .int p6])).length) Slot.unset).toArray = ls at hl ⊢
  have hl : lv_has ls 9 [(0, .int p0), (1, .int p1), (2, .int p2), (3, .int p3), (4, .int p4), (5, .int p5), (6, .int p6)] := hl
  refine nameQ (fun Q hQ => ?_)
  have hw : WD D cy GG A s wr_X10_spelt__51 wa_X10_spelt__51 Ps w0 Ps w0 s.heap [] := ⟨hT, hP, hD, va_S.rf, FR.rf, hT.1, [], (List.append_nil _).symm⟩
  obtain ⟨R9, hR⟩ : ∃ q9 : Int64, f_X10_spelt__37 p0 p1 p2 p3 p4 p5 p6 = q9 := ⟨_, rfl⟩
  have hE := hR
  have B99 : ∀ (x7 : Int64) (H : Heap) (locs : List Loc) (ls : Array Slot), RI p0 110 110 → RI p1 111 111 → RI p2 116 116 → RI p3 104 104 → RI p4 105 105 → RI p5 110 110 → RI p6 103 103 → RJ x7 209256062 209256062 → f_X10_spelt__37_99 p0 p1 p2 p3 p4 p5 p6 x7 = R9 → WD D cy GG A s wr_X10_spelt__51 wa_X10_spelt__51 Ps w0 Ps w0 H locs → lv_has ls 9 [(0, .int p0), (1, .int p1), (2, .int p2), (3, .int p3), (4, .int p4), (5, .int p5), (6, .int p6), (7, .long x7)] → W p l e (headSpec (Cond.code yX10_spelt cX10_spelt 9 (some .long) :: gT) ({ frames := 0, cells := 0, slots := 0, locals := 200 } : Room)).room s m ([.int p0, .int p1, .int p2, .int p3, .int p4, .int p5, .int p6] : List Value).toArray below meth c H locs 0 0 Q (F0 m 99 ls []) := by
    intro x7 H locs ls r_p0 r_p1 r_p2 r_p3 r_p4 r_p5 r_p6 r_x7 hE hw hl
    refine lv_iload hx hb dX10_spelt_99 (lv_at hl 6 rfl) ?_
    refine lv_if_le (tgt := 120) hx hb dX10_spelt_101 (by decide) (fun c_101 => ?_) (fun c_101 => ?_)
    · have r_p6 : RI p6 103 0 := rc_le1 r_p6 rl_0 (ti_le c_101) (by decide)
      exact (r_p6.no (by decide)).elim
    · refine lv_ldc2 (v := 27) hx hb hown (hts _ tw_1312) dX10_spelt_104 ?_
      refine lv_lload hx hb dX10_spelt_107 (lv_at hl 7 rfl) ?_
      refine lv_lmul hx hb dX10_spelt_109 (lv_topl (fun w_1 e_w_1 => ?_))
      have r_w_1 := tq_lmul (lo := 5649913674) (hi := 5649913674) rk_27 r_x7 (by decide +kernel) e_w_1
      have q_w_1 : (27 : Int64) * x7 = w_1 := e_w_1.symm
      refine lv_iload hx hb dX10_spelt_110 (lv_at hl 6 rfl) ?_
      obtain ⟨w_2, e_w_2⟩ : ∃ q9 : Int64, (p6 : Int32).toInt64 = q9 := ⟨_, rfl⟩
      refine lv_i2l (v := w_2) hx hb dX10_spelt_112 e_w_2 ?_
      have r_w_2 := tq_i2l r_p6 e_w_2
      have q_w_2 : Int32.toInt64 p6 = w_2 := e_w_2
      refine lv_ladd hx hb dX10_spelt_113 (lv_topl (fun w_3 e_w_3 => ?_))
      have r_w_3 := tq_ladd (lo := 5649913777) (hi := 5649913777) r_w_1 r_w_2 (by decide +kernel) e_w_3
      have q_w_3 : w_1 + w_2 = w_3 := e_w_3.symm
      refine lv_ldc2 (v := 96) hx hb hown (hts _ tw_1313) dX10_spelt_114 ?_
      refine lv_lsub hx hb dX10_spelt_117 (lv_topl (fun w_4 e_w_4 => ?_))
      have r_w_4 := tq_lsub (lo := 5649913681) (hi := 5649913681) r_w_3 rk_96 (by decide +kernel) e_w_4
      have q_w_4 : w_3 - (96 : Int64) = w_4 := e_w_4.symm
      refine lv_lstore (lv' := [(7, .long w_4), (0, .int p0), (1, .int p1), (2, .int p2), (3, .int p3), (4, .int p4), (5, .int p5), (6, .int p6)]) hx hb dX10_spelt_118 hl (by decide) rfl (fun ls hl => ?_)
      refine lv_lload hx hb dX10_spelt_120 (lv_at hl 0 rfl) ?_
      simp only [f_X10_spelt__37_99, ↓reduceIte, eq_false c_101, q_w_1, q_w_2, q_w_3, q_w_4] at hE
      subst hQ
      exact W.lret (v := w_4) hx hb hr (fun t ht hW => ⟨⟨w_4, (), rfl, ⟨⟨(by rw [hR, ← hE]), trivial⟩, r_w_4.to (by decide)⟩, by rw [ht]; exact hw.2.1, va_K.moved hW.alike hK, hw.2.2.1⟩, hw.2.2.2.1.F ht⟩) hw.2.2.2.1.2.2 dX10_spelt_122
  have B78 : ∀ (x7 : Int64) (H : Heap) (locs : List Loc) (ls : Array Slot), RI p0 110 110 → RI p1 111 111 → RI p2 116 116 → RI p3 104 104 → RI p4 105 105 → RI p5 110 110 → RI p6 103 103 → RJ x7 7750224 7750224 → f_X10_spelt__37_78 p0 p1 p2 p3 p4 p5 p6 x7 = R9 → WD D cy GG A s wr_X10_spelt__51 wa_X10_spelt__51 Ps w0 Ps w0 H locs → lv_has ls 9 [(0, .int p0), (1, .int p1), (2, .int p2), (3, .int p3), (4, .int p4), (5, .int p5), (6, .int p6), (7, .long x7)] → W p l e (headSpec (Cond.code yX10_spelt cX10_spelt 9 (some .long) :: gT) ({ frames := 0, cells := 0, slots := 0, locals := 200 } : Room)).room s m ([.int p0, .int p1, .int p2, .int p3, .int p4, .int p5, .int p6] : List Value).toArray below meth c H locs 0 0 Q (F0 m 78 ls []) := by
    intro x7 H locs ls r_p0 r_p1 r_p2 r_p3 r_p4 r_p5 r_p6 r_x7 hE hw hl
    refine lv_iload hx hb dX10_spelt_78 (lv_at hl 5 rfl) ?_
    refine lv_if_le (tgt := 99) hx hb dX10_spelt_80 (by decide) (fun c_80 => ?_) (fun c_80 => ?_)
    · have r_p5 : RI p5 110 0 := rc_le1 r_p5 rl_0 (ti_le c_80) (by decide)
      exact (r_p5.no (by decide)).elim
    · refine lv_ldc2 (v := 27) hx hb hown (hts _ tw_1312) dX10_spelt_83 ?_
      refine lv_lload hx hb dX10_spelt_86 (lv_at hl 7 rfl) ?_
      refine lv_lmul hx hb dX10_spelt_88 (lv_topl (fun w_5 e_w_5 => ?_))
      have r_w_5 := tq_lmul (lo := 209256048) (hi := 209256048) rk_27 r_x7 (by decide +kernel) e_w_5
      have q_w_5 : (27 : Int64) * x7 = w_5 := e_w_5.symm
      refine lv_iload hx hb dX10_spelt_89 (lv_at hl 5 rfl) ?_
      obtain ⟨w_6, e_w_6⟩ : ∃ q9 : Int64, (p5 : Int32).toInt64 = q9 := ⟨_, rfl⟩
      refine lv_i2l (v := w_6) hx hb dX10_spelt_91 e_w_6 ?_
      have r_w_6 := tq_i2l r_p5 e_w_6
      have q_w_6 : Int32.toInt64 p5 = w_6 := e_w_6
      refine lv_ladd hx hb dX10_spelt_92 (lv_topl (fun w_7 e_w_7 => ?_))
      have r_w_7 := tq_ladd (lo := 209256158) (hi := 209256158) r_w_5 r_w_6 (by decide +kernel) e_w_7
      have q_w_7 : w_5 + w_6 = w_7 := e_w_7.symm
      refine lv_ldc2 (v := 96) hx hb hown (hts _ tw_1313) dX10_spelt_93 ?_
      refine lv_lsub hx hb dX10_spelt_96 (lv_topl (fun w_8 e_w_8 => ?_))
      have r_w_8 := tq_lsub (lo := 209256062) (hi := 209256062) r_w_7 rk_96 (by decide +kernel) e_w_8
      have q_w_8 : w_7 - (96 : Int64) = w_8 := e_w_8.symm
      refine lv_lstore (lv' := [(7, .long w_8), (0, .int p0), (1, .int p1), (2, .int p2), (3, .int p3), (4, .int p4), (5, .int p5), (6, .int p6)]) hx hb dX10_spelt_97 hl (by decide) rfl (fun ls hl => ?_)
      simp only [f_X10_spelt__37_78, ↓reduceIte, eq_false c_80, q_w_5, q_w_6, q_w_7, q_w_8] at hE
      exact B99 w_8 _ _ ls r_p0 r_p1 r_p2 r_p3 r_p4 r_p5 r_p6 r_w_8 hE hw (lv_sub hl [1, 2, 3, 4, 5, 6, 7, 0] rfl)
  have B57 : ∀ (x7 : Int64) (H : Heap) (locs : List Loc) (ls : Array Slot), RI p0 110 110 → RI p1 111 111 → RI p2 116 116 → RI p3 104 104 → RI p4 105 105 → RI p5 110 110 → RI p6 103 103 → RJ x7 287045 287045 → f_X10_spelt__37_57 p0 p1 p2 p3 p4 p5 p6 x7 = R9 → WD D cy GG A s wr_X10_spelt__51 wa_X10_spelt__51 Ps w0 Ps w0 H locs → lv_has ls 9 [(0, .int p0), (1, .int p1), (2, .int p2), (3, .int p3), (4, .int p4), (5, .int p5), (6, .int p6), (7, .long x7)] → W p l e (headSpec (Cond.code yX10_spelt cX10_spelt 9 (some .long) :: gT) ({ frames := 0, cells := 0, slots := 0, locals := 200 } : Room)).room s m ([.int p0, .int p1, .int p2, .int p3, .int p4, .int p5, .int p6] : List Value).toArray below meth c H locs 0 0 Q (F0 m 57 ls []) := by
    intro x7 H locs ls r_p0 r_p1 r_p2 r_p3 r_p4 r_p5 r_p6 r_x7 hE hw hl
    refine lv_iload hx hb dX10_spelt_57 (lv_at hl 4 rfl) ?_
    refine lv_if_le (tgt := 78) hx hb dX10_spelt_59 (by decide) (fun c_59 => ?_) (fun c_59 => ?_)
    · have r_p4 : RI p4 105 0 := rc_le1 r_p4 rl_0 (ti_le c_59) (by decide)
      exact (r_p4.no (by decide)).elim
    · refine lv_ldc2 (v := 27) hx hb hown (hts _ tw_1312) dX10_spelt_62 ?_
      refine lv_lload hx hb dX10_spelt_65 (lv_at hl 7 rfl) ?_
      refine lv_lmul hx hb dX10_spelt_67 (lv_topl (fun w_9 e_w_9 => ?_))
      have r_w_9 := tq_lmul (lo := 7750215) (hi := 7750215) rk_27 r_x7 (by decide +kernel) e_w_9
      have q_w_9 : (27 : Int64) * x7 = w_9 := e_w_9.symm
      refine lv_iload hx hb dX10_spelt_68 (lv_at hl 4 rfl) ?_
      obtain ⟨w_10, e_w_10⟩ : ∃ q9 : Int64, (p4 : Int32).toInt64 = q9 := ⟨_, rfl⟩
      refine lv_i2l (v := w_10) hx hb dX10_spelt_70 e_w_10 ?_
      have r_w_10 := tq_i2l r_p4 e_w_10
      have q_w_10 : Int32.toInt64 p4 = w_10 := e_w_10
      refine lv_ladd hx hb dX10_spelt_71 (lv_topl (fun w_11 e_w_11 => ?_))
      have r_w_11 := tq_ladd (lo := 7750320) (hi := 7750320) r_w_9 r_w_10 (by decide +kernel) e_w_11
      have q_w_11 : w_9 + w_10 = w_11 := e_w_11.symm
      refine lv_ldc2 (v := 96) hx hb hown (hts _ tw_1313) dX10_spelt_72 ?_
      refine lv_lsub hx hb dX10_spelt_75 (lv_topl (fun w_12 e_w_12 => ?_))
      have r_w_12 := tq_lsub (lo := 7750224) (hi := 7750224) r_w_11 rk_96 (by decide +kernel) e_w_12
      have q_w_12 : w_11 - (96 : Int64) = w_12 := e_w_12.symm
      refine lv_lstore (lv' := [(7, .long w_12), (0, .int p0), (1, .int p1), (2, .int p2), (3, .int p3), (4, .int p4), (5, .int p5), (6, .int p6)]) hx hb dX10_spelt_76 hl (by decide) rfl (fun ls hl => ?_)
      simp only [f_X10_spelt__37_57, ↓reduceIte, eq_false c_59, q_w_9, q_w_10, q_w_11, q_w_12] at hE
      exact B78 w_12 _ _ ls r_p0 r_p1 r_p2 r_p3 r_p4 r_p5 r_p6 r_w_12 hE hw (lv_sub hl [1, 2, 3, 4, 5, 6, 7, 0] rfl)
  have B38 : ∀ (x7 : Int64) (H : Heap) (locs : List Loc) (ls : Array Slot), RI p0 110 110 → RI p1 111 111 → RI p2 116 116 → RI p3 104 104 → RI p4 105 105 → RI p5 110 110 → RI p6 103 103 → RJ x7 10631 10631 → f_X10_spelt__37_38 p0 p1 p2 p3 p4 p5 p6 x7 = R9 → WD D cy GG A s wr_X10_spelt__51 wa_X10_spelt__51 Ps w0 Ps w0 H locs → lv_has ls 9 [(0, .int p0), (1, .int p1), (2, .int p2), (3, .int p3), (4, .int p4), (5, .int p5), (6, .int p6), (7, .long x7)] → W p l e (headSpec (Cond.code yX10_spelt cX10_spelt 9 (some .long) :: gT) ({ frames := 0, cells := 0, slots := 0, locals := 200 } : Room)).room s m ([.int p0, .int p1, .int p2, .int p3, .int p4, .int p5, .int p6] : List Value).toArray below meth c H locs 0 0 Q (F0 m 38 ls []) := by
    intro x7 H locs ls r_p0 r_p1 r_p2 r_p3 r_p4 r_p5 r_p6 r_x7 hE hw hl
    refine lv_iload_n hx hb dX10_spelt_38 rfl (lv_at hl 3 rfl) ?_
    refine lv_if_le (tgt := 57) hx hb dX10_spelt_39 (by decide) (fun c_39 => ?_) (fun c_39 => ?_)
    · have r_p3 : RI p3 104 0 := rc_le1 r_p3 rl_0 (ti_le c_39) (by decide)
      exact (r_p3.no (by decide)).elim
    · refine lv_ldc2 (v := 27) hx hb hown (hts _ tw_1312) dX10_spelt_42 ?_
      refine lv_lload hx hb dX10_spelt_45 (lv_at hl 7 rfl) ?_
      refine lv_lmul hx hb dX10_spelt_47 (lv_topl (fun w_13 e_w_13 => ?_))
      have r_w_13 := tq_lmul (lo := 287037) (hi := 287037) rk_27 r_x7 (by decide +kernel) e_w_13
      have q_w_13 : (27 : Int64) * x7 = w_13 := e_w_13.symm
      refine lv_iload_n hx hb dX10_spelt_48 rfl (lv_at hl 3 rfl) ?_
      obtain ⟨w_14, e_w_14⟩ : ∃ q9 : Int64, (p3 : Int32).toInt64 = q9 := ⟨_, rfl⟩
      refine lv_i2l (v := w_14) hx hb dX10_spelt_49 e_w_14 ?_
      have r_w_14 := tq_i2l r_p3 e_w_14
      have q_w_14 : Int32.toInt64 p3 = w_14 := e_w_14
      refine lv_ladd hx hb dX10_spelt_50 (lv_topl (fun w_15 e_w_15 => ?_))
      have r_w_15 := tq_ladd (lo := 287141) (hi := 287141) r_w_13 r_w_14 (by decide +kernel) e_w_15
      have q_w_15 : w_13 + w_14 = w_15 := e_w_15.symm
      refine lv_ldc2 (v := 96) hx hb hown (hts _ tw_1313) dX10_spelt_51 ?_
      refine lv_lsub hx hb dX10_spelt_54 (lv_topl (fun w_16 e_w_16 => ?_))
      have r_w_16 := tq_lsub (lo := 287045) (hi := 287045) r_w_15 rk_96 (by decide +kernel) e_w_16
      have q_w_16 : w_15 - (96 : Int64) = w_16 := e_w_16.symm
      refine lv_lstore (lv' := [(7, .long w_16), (0, .int p0), (1, .int p1), (2, .int p2), (3, .int p3), (4, .int p4), (5, .int p5), (6, .int p6)]) hx hb dX10_spelt_55 hl (by decide) rfl (fun ls hl => ?_)
      simp only [f_X10_spelt__37_38, ↓reduceIte, eq_false c_39, q_w_13, q_w_14, q_w_15, q_w_16] at hE
      exact B57 w_16 _ _ ls r_p0 r_p1 r_p2 r_p3 r_p4 r_p5 r_p6 r_w_16 hE hw (lv_sub hl [1, 2, 3, 4, 5, 6, 7, 0] rfl)
  refine lv_ldc2 (v := 27) hx hb hown (hts _ tw_1312) dX10_spelt_0 ?_
  refine lv_iload_n hx hb dX10_spelt_3 rfl (lv_at hl 0 rfl) ?_
  obtain ⟨w_17, e_w_17⟩ : ∃ q9 : Int64, (p0 : Int32).toInt64 = q9 := ⟨_, rfl⟩
  refine lv_i2l (v := w_17) hx hb dX10_spelt_4 e_w_17 ?_
  have r_w_17 := tq_i2l r_p0 e_w_17
  have q_w_17 : Int32.toInt64 p0 = w_17 := e_w_17
  refine lv_ldc2 (v := 96) hx hb hown (hts _ tw_1313) dX10_spelt_5 ?_
  refine lv_lsub hx hb dX10_spelt_8 (lv_topl (fun w_18 e_w_18 => ?_))
  have r_w_18 := tq_lsub (lo := 14) (hi := 14) r_w_17 rk_96 (by decide +kernel) e_w_18
  have q_w_18 : w_17 - (96 : Int64) = w_18 := e_w_18.symm
  refine lv_lmul hx hb dX10_spelt_9 (lv_topl (fun w_19 e_w_19 => ?_))
  have r_w_19 := tq_lmul (lo := 378) (hi := 378) rk_27 r_w_18 (by decide +kernel) e_w_19
  have q_w_19 : (27 : Int64) * w_18 = w_19 := e_w_19.symm
  refine lv_iload_n hx hb dX10_spelt_10 rfl (lv_at hl 1 rfl) ?_
  obtain ⟨w_20, e_w_20⟩ : ∃ q9 : Int64, (p1 : Int32).toInt64 = q9 := ⟨_, rfl⟩
  refine lv_i2l (v := w_20) hx hb dX10_spelt_11 e_w_20 ?_
  have r_w_20 := tq_i2l r_p1 e_w_20
  have q_w_20 : Int32.toInt64 p1 = w_20 := e_w_20
  refine lv_ladd hx hb dX10_spelt_12 (lv_topl (fun w_21 e_w_21 => ?_))
  have r_w_21 := tq_ladd (lo := 489) (hi := 489) r_w_19 r_w_20 (by decide +kernel) e_w_21
  have q_w_21 : w_19 + w_20 = w_21 := e_w_21.symm
  refine lv_ldc2 (v := 96) hx hb hown (hts _ tw_1313) dX10_spelt_13 ?_
  refine lv_lsub hx hb dX10_spelt_16 (lv_topl (fun w_22 e_w_22 => ?_))
  have r_w_22 := tq_lsub (lo := 393) (hi := 393) r_w_21 rk_96 (by decide +kernel) e_w_22
  have q_w_22 : w_21 - (96 : Int64) = w_22 := e_w_22.symm
  refine lv_lstore (lv' := [(7, .long w_22), (0, .int p0), (1, .int p1), (2, .int p2), (3, .int p3), (4, .int p4), (5, .int p5), (6, .int p6)]) hx hb dX10_spelt_17 hl (by decide) rfl (fun ls hl => ?_)
  refine lv_iload_n hx hb dX10_spelt_19 rfl (lv_at hl 3 rfl) ?_
  refine lv_if_le (tgt := 38) hx hb dX10_spelt_20 (by decide) (fun c_20 => ?_) (fun c_20 => ?_)
  · have r_p2 : RI p2 116 0 := rc_le1 r_p2 rl_0 (ti_le c_20) (by decide)
    exact (r_p2.no (by decide)).elim
  · refine lv_ldc2 (v := 27) hx hb hown (hts _ tw_1312) dX10_spelt_23 ?_
    refine lv_lload hx hb dX10_spelt_26 (lv_at hl 0 rfl) ?_
    refine lv_lmul hx hb dX10_spelt_28 (lv_topl (fun w_23 e_w_23 => ?_))
    have r_w_23 := tq_lmul (lo := 10611) (hi := 10611) rk_27 r_w_22 (by decide +kernel) e_w_23
    have q_w_23 : (27 : Int64) * w_22 = w_23 := e_w_23.symm
    refine lv_iload_n hx hb dX10_spelt_29 rfl (lv_at hl 3 rfl) ?_
    obtain ⟨w_24, e_w_24⟩ : ∃ q9 : Int64, (p2 : Int32).toInt64 = q9 := ⟨_, rfl⟩
    refine lv_i2l (v := w_24) hx hb dX10_spelt_30 e_w_24 ?_
    have r_w_24 := tq_i2l r_p2 e_w_24
    have q_w_24 : Int32.toInt64 p2 = w_24 := e_w_24
    refine lv_ladd hx hb dX10_spelt_31 (lv_topl (fun w_25 e_w_25 => ?_))
    have r_w_25 := tq_ladd (lo := 10727) (hi := 10727) r_w_23 r_w_24 (by decide +kernel) e_w_25
    have q_w_25 : w_23 + w_24 = w_25 := e_w_25.symm
    refine lv_ldc2 (v := 96) hx hb hown (hts _ tw_1313) dX10_spelt_32 ?_
    refine lv_lsub hx hb dX10_spelt_35 (lv_topl (fun w_26 e_w_26 => ?_))
    have r_w_26 := tq_lsub (lo := 10631) (hi := 10631) r_w_25 rk_96 (by decide +kernel) e_w_26
    have q_w_26 : w_25 - (96 : Int64) = w_26 := e_w_26.symm
    refine lv_lstore (lv' := [(7, .long w_26), (0, .int p0), (1, .int p1), (2, .int p2), (3, .int p3), (4, .int p4), (5, .int p5), (6, .int p6)]) hx hb dX10_spelt_36 hl (by decide) rfl (fun ls hl => ?_)
    simp only [f_X10_spelt__37, ↓reduceIte, q_w_17, q_w_18, q_w_19, q_w_20, q_w_21, q_w_22, eq_false c_20, q_w_23, q_w_24, q_w_25, q_w_26] at hE
    exact B38 w_26 _ _ ls r_p0 r_p1 r_p2 r_p3 r_p4 r_p5 r_p6 r_w_26 hE hw (lv_sub hl [1, 2, 3, 4, 5, 6, 7, 0] rfl)
abbrev wr_X10_spelt__52 : List (Nat × Nat) := []
abbrev wa_X10_spelt__52 : List Nat := []
set_option maxHeartbeats 4000000 in
set_option maxRecDepth 100000 in
theorem c_X10_spelt__52 (l : Launch) (D : va_G) (cy : Nat → ClassId) (z : Nat → Nat) (sz : Nat) (Ps : PSI) (w0 : va_W) (hT : HT cy GG Ps w0) (p0 : Int32) (p1 : Int32) (p2 : Int32) (p3 : Int32) (p4 : Int32) (p5 : Int32) (p6 : Int32) (r_p0 : RI p0 119 119) (r_p1 : RI p1 97 97) (r_p2 : RI p2 116 116) (r_p3 : RI p3 99 99) (r_p4 : RI p4 104 104) (r_p5 : RI p5 101 101) (r_p6 : RI p6 100 100) : Met l yX10_spelt (Cond.code yX10_spelt cX10_spelt 9 (some .long) :: gT) ({ frames := 0, cells := 0, slots := 0, locals := 200 } : Room) (va_Pc [.int p0, .int p1, .int p2, .int p3, .int p4, .int p5, .int p6] (PRE D cy z w0 sz)) (va_Ql (fun (r : Int64) (u : Unit) => ((f_X10_spelt__37 p0 p1 p2 p3 p4 p5 p6) = r ∧ True) ∧ (RJ r 8935713994 8935713994)) (BB D cy (va_A w0 sz) (fun (u : Unit) => w0)) (va_A w0 sz)) 0 0 (va_A w0 sz) := by
  refine Met.ofW (cc := cX10_spelt) (maxL := 9) (ret := (some .long)) (by decide) rfl ?_
  intro p e s m args below meth c s₁ B hml hv
  obtain ⟨rfl, hsz, hP, hK, hD0, hSD⟩ := hv
  have hx := B.exec
  have hb := B.bytes
  have hr := B.returns
  have hlocks := B.notSynchronized
  have hts : ∀ w ∈ gT, w.before _ s = true := fun w h => atoms_spec (ws := Cond.code yX10_spelt cX10_spelt 9 (some .long) :: gT) B.pre w (List.mem_cons_of_mem _ h)
  have hown : s.vm.findClass RX10 = some m.cls := findClass_of_methodNamed B.named
  subst hsz
  have hD := hD0.self (sz := s.heap.size)
  generalize hAe : va_A w0 s.heap.size = A at hD hSD ⊢
  have hA : ∀ q : Nat, s.heap.size ≤ q → A q := fun q h => by rw [← hAe]; exact Or.inr h
  have hl := lv_entry ([.int p0, .int p1, .int p2, .int p3, .int p4, .int p5, .int p6]) (n := 9) (Nat.le_of_ble_eq_true rfl)
  rw [lg_entry_eq]
  generalize (lg_sl ([.int p0, .int p1, .int p2, .int p3, .int p4, .int p5, .int p6]) ++ List.replicate (9 - (lg_sl ([.int p0, .int p1, .int p2, .int p3, .int p4, .int p5, .int p6])).length) Slot.unset).toArray = ls at hl ⊢
  have hl : lv_has ls 9 [(0, .int p0), (1, .int p1), (2, .int p2), (3, .int p3), (4, .int p4), (5, .int p5), (6, .int p6)] := hl
  refine nameQ (fun Q hQ => ?_)
  have hw : WD D cy GG A s wr_X10_spelt__52 wa_X10_spelt__52 Ps w0 Ps w0 s.heap [] := ⟨hT, hP, hD, va_S.rf, FR.rf, hT.1, [], (List.append_nil _).symm⟩
  obtain ⟨R9, hR⟩ : ∃ q9 : Int64, f_X10_spelt__37 p0 p1 p2 p3 p4 p5 p6 = q9 := ⟨_, rfl⟩
  have hE := hR
  have B99 : ∀ (x7 : Int64) (H : Heap) (locs : List Loc) (ls : Array Slot), RI p0 119 119 → RI p1 97 97 → RI p2 116 116 → RI p3 99 99 → RI p4 104 104 → RI p5 101 101 → RI p6 100 100 → RJ x7 330952370 330952370 → f_X10_spelt__37_99 p0 p1 p2 p3 p4 p5 p6 x7 = R9 → WD D cy GG A s wr_X10_spelt__52 wa_X10_spelt__52 Ps w0 Ps w0 H locs → lv_has ls 9 [(0, .int p0), (1, .int p1), (2, .int p2), (3, .int p3), (4, .int p4), (5, .int p5), (6, .int p6), (7, .long x7)] → W p l e (headSpec (Cond.code yX10_spelt cX10_spelt 9 (some .long) :: gT) ({ frames := 0, cells := 0, slots := 0, locals := 200 } : Room)).room s m ([.int p0, .int p1, .int p2, .int p3, .int p4, .int p5, .int p6] : List Value).toArray below meth c H locs 0 0 Q (F0 m 99 ls []) := by
    intro x7 H locs ls r_p0 r_p1 r_p2 r_p3 r_p4 r_p5 r_p6 r_x7 hE hw hl
    refine lv_iload hx hb dX10_spelt_99 (lv_at hl 6 rfl) ?_
    refine lv_if_le (tgt := 120) hx hb dX10_spelt_101 (by decide) (fun c_101 => ?_) (fun c_101 => ?_)
    · have r_p6 : RI p6 100 0 := rc_le1 r_p6 rl_0 (ti_le c_101) (by decide)
      exact (r_p6.no (by decide)).elim
    · refine lv_ldc2 (v := 27) hx hb hown (hts _ tw_1312) dX10_spelt_104 ?_
      refine lv_lload hx hb dX10_spelt_107 (lv_at hl 7 rfl) ?_
      refine lv_lmul hx hb dX10_spelt_109 (lv_topl (fun w_1 e_w_1 => ?_))
      have r_w_1 := tq_lmul (lo := 8935713990) (hi := 8935713990) rk_27 r_x7 (by decide +kernel) e_w_1
      have q_w_1 : (27 : Int64) * x7 = w_1 := e_w_1.symm
      refine lv_iload hx hb dX10_spelt_110 (lv_at hl 6 rfl) ?_
      obtain ⟨w_2, e_w_2⟩ : ∃ q9 : Int64, (p6 : Int32).toInt64 = q9 := ⟨_, rfl⟩
      refine lv_i2l (v := w_2) hx hb dX10_spelt_112 e_w_2 ?_
      have r_w_2 := tq_i2l r_p6 e_w_2
      have q_w_2 : Int32.toInt64 p6 = w_2 := e_w_2
      refine lv_ladd hx hb dX10_spelt_113 (lv_topl (fun w_3 e_w_3 => ?_))
      have r_w_3 := tq_ladd (lo := 8935714090) (hi := 8935714090) r_w_1 r_w_2 (by decide +kernel) e_w_3
      have q_w_3 : w_1 + w_2 = w_3 := e_w_3.symm
      refine lv_ldc2 (v := 96) hx hb hown (hts _ tw_1313) dX10_spelt_114 ?_
      refine lv_lsub hx hb dX10_spelt_117 (lv_topl (fun w_4 e_w_4 => ?_))
      have r_w_4 := tq_lsub (lo := 8935713994) (hi := 8935713994) r_w_3 rk_96 (by decide +kernel) e_w_4
      have q_w_4 : w_3 - (96 : Int64) = w_4 := e_w_4.symm
      refine lv_lstore (lv' := [(7, .long w_4), (0, .int p0), (1, .int p1), (2, .int p2), (3, .int p3), (4, .int p4), (5, .int p5), (6, .int p6)]) hx hb dX10_spelt_118 hl (by decide) rfl (fun ls hl => ?_)
      refine lv_lload hx hb dX10_spelt_120 (lv_at hl 0 rfl) ?_
      simp only [f_X10_spelt__37_99, ↓reduceIte, eq_false c_101, q_w_1, q_w_2, q_w_3, q_w_4] at hE
      subst hQ
      exact W.lret (v := w_4) hx hb hr (fun t ht hW => ⟨⟨w_4, (), rfl, ⟨⟨(by rw [hR, ← hE]), trivial⟩, r_w_4.to (by decide)⟩, by rw [ht]; exact hw.2.1, va_K.moved hW.alike hK, hw.2.2.1⟩, hw.2.2.2.1.F ht⟩) hw.2.2.2.1.2.2 dX10_spelt_122
  have B78 : ∀ (x7 : Int64) (H : Heap) (locs : List Loc) (ls : Array Slot), RI p0 119 119 → RI p1 97 97 → RI p2 116 116 → RI p3 99 99 → RI p4 104 104 → RI p5 101 101 → RI p6 100 100 → RJ x7 12257495 12257495 → f_X10_spelt__37_78 p0 p1 p2 p3 p4 p5 p6 x7 = R9 → WD D cy GG A s wr_X10_spelt__52 wa_X10_spelt__52 Ps w0 Ps w0 H locs → lv_has ls 9 [(0, .int p0), (1, .int p1), (2, .int p2), (3, .int p3), (4, .int p4), (5, .int p5), (6, .int p6), (7, .long x7)] → W p l e (headSpec (Cond.code yX10_spelt cX10_spelt 9 (some .long) :: gT) ({ frames := 0, cells := 0, slots := 0, locals := 200 } : Room)).room s m ([.int p0, .int p1, .int p2, .int p3, .int p4, .int p5, .int p6] : List Value).toArray below meth c H locs 0 0 Q (F0 m 78 ls []) := by
    intro x7 H locs ls r_p0 r_p1 r_p2 r_p3 r_p4 r_p5 r_p6 r_x7 hE hw hl
    refine lv_iload hx hb dX10_spelt_78 (lv_at hl 5 rfl) ?_
    refine lv_if_le (tgt := 99) hx hb dX10_spelt_80 (by decide) (fun c_80 => ?_) (fun c_80 => ?_)
    · have r_p5 : RI p5 101 0 := rc_le1 r_p5 rl_0 (ti_le c_80) (by decide)
      exact (r_p5.no (by decide)).elim
    · refine lv_ldc2 (v := 27) hx hb hown (hts _ tw_1312) dX10_spelt_83 ?_
      refine lv_lload hx hb dX10_spelt_86 (lv_at hl 7 rfl) ?_
      refine lv_lmul hx hb dX10_spelt_88 (lv_topl (fun w_5 e_w_5 => ?_))
      have r_w_5 := tq_lmul (lo := 330952365) (hi := 330952365) rk_27 r_x7 (by decide +kernel) e_w_5
      have q_w_5 : (27 : Int64) * x7 = w_5 := e_w_5.symm
      refine lv_iload hx hb dX10_spelt_89 (lv_at hl 5 rfl) ?_
      obtain ⟨w_6, e_w_6⟩ : ∃ q9 : Int64, (p5 : Int32).toInt64 = q9 := ⟨_, rfl⟩
      refine lv_i2l (v := w_6) hx hb dX10_spelt_91 e_w_6 ?_
      have r_w_6 := tq_i2l r_p5 e_w_6
      have q_w_6 : Int32.toInt64 p5 = w_6 := e_w_6
      refine lv_ladd hx hb dX10_spelt_92 (lv_topl (fun w_7 e_w_7 => ?_))
      have r_w_7 := tq_ladd (lo := 330952466) (hi := 330952466) r_w_5 r_w_6 (by decide +kernel) e_w_7
      have q_w_7 : w_5 + w_6 = w_7 := e_w_7.symm
      refine lv_ldc2 (v := 96) hx hb hown (hts _ tw_1313) dX10_spelt_93 ?_
      refine lv_lsub hx hb dX10_spelt_96 (lv_topl (fun w_8 e_w_8 => ?_))
      have r_w_8 := tq_lsub (lo := 330952370) (hi := 330952370) r_w_7 rk_96 (by decide +kernel) e_w_8
      have q_w_8 : w_7 - (96 : Int64) = w_8 := e_w_8.symm
      refine lv_lstore (lv' := [(7, .long w_8), (0, .int p0), (1, .int p1), (2, .int p2), (3, .int p3), (4, .int p4), (5, .int p5), (6, .int p6)]) hx hb dX10_spelt_97 hl (by decide) rfl (fun ls hl => ?_)
      simp only [f_X10_spelt__37_78, ↓reduceIte, eq_false c_80, q_w_5, q_w_6, q_w_7, q_w_8] at hE
      exact B99 w_8 _ _ ls r_p0 r_p1 r_p2 r_p3 r_p4 r_p5 r_p6 r_w_8 hE hw (lv_sub hl [1, 2, 3, 4, 5, 6, 7, 0] rfl)
  have B57 : ∀ (x7 : Int64) (H : Heap) (locs : List Loc) (ls : Array Slot), RI p0 119 119 → RI p1 97 97 → RI p2 116 116 → RI p3 99 99 → RI p4 104 104 → RI p5 101 101 → RI p6 100 100 → RJ x7 453981 453981 → f_X10_spelt__37_57 p0 p1 p2 p3 p4 p5 p6 x7 = R9 → WD D cy GG A s wr_X10_spelt__52 wa_X10_spelt__52 Ps w0 Ps w0 H locs → lv_has ls 9 [(0, .int p0), (1, .int p1), (2, .int p2), (3, .int p3), (4, .int p4), (5, .int p5), (6, .int p6), (7, .long x7)] → W p l e (headSpec (Cond.code yX10_spelt cX10_spelt 9 (some .long) :: gT) ({ frames := 0, cells := 0, slots := 0, locals := 200 } : Room)).room s m ([.int p0, .int p1, .int p2, .int p3, .int p4, .int p5, .int p6] : List Value).toArray below meth c H locs 0 0 Q (F0 m 57 ls []) := by
    intro x7 H locs ls r_p0 r_p1 r_p2 r_p3 r_p4 r_p5 r_p6 r_x7 hE hw hl
    refine lv_iload hx hb dX10_spelt_57 (lv_at hl 4 rfl) ?_
    refine lv_if_le (tgt := 78) hx hb dX10_spelt_59 (by decide) (fun c_59 => ?_) (fun c_59 => ?_)
    · have r_p4 : RI p4 104 0 := rc_le1 r_p4 rl_0 (ti_le c_59) (by decide)
      exact (r_p4.no (by decide)).elim
    · refine lv_ldc2 (v := 27) hx hb hown (hts _ tw_1312) dX10_spelt_62 ?_
      refine lv_lload hx hb dX10_spelt_65 (lv_at hl 7 rfl) ?_
      refine lv_lmul hx hb dX10_spelt_67 (lv_topl (fun w_9 e_w_9 => ?_))
      have r_w_9 := tq_lmul (lo := 12257487) (hi := 12257487) rk_27 r_x7 (by decide +kernel) e_w_9
      have q_w_9 : (27 : Int64) * x7 = w_9 := e_w_9.symm
      refine lv_iload hx hb dX10_spelt_68 (lv_at hl 4 rfl) ?_
      obtain ⟨w_10, e_w_10⟩ : ∃ q9 : Int64, (p4 : Int32).toInt64 = q9 := ⟨_, rfl⟩
      refine lv_i2l (v := w_10) hx hb dX10_spelt_70 e_w_10 ?_
      have r_w_10 := tq_i2l r_p4 e_w_10
      have q_w_10 : Int32.toInt64 p4 = w_10 := e_w_10
      refine lv_ladd hx hb dX10_spelt_71 (lv_topl (fun w_11 e_w_11 => ?_))
      have r_w_11 := tq_ladd (lo := 12257591) (hi := 12257591) r_w_9 r_w_10 (by decide +kernel) e_w_11
      have q_w_11 : w_9 + w_10 = w_11 := e_w_11.symm
      refine lv_ldc2 (v := 96) hx hb hown (hts _ tw_1313) dX10_spelt_72 ?_
      refine lv_lsub hx hb dX10_spelt_75 (lv_topl (fun w_12 e_w_12 => ?_))
      have r_w_12 := tq_lsub (lo := 12257495) (hi := 12257495) r_w_11 rk_96 (by decide +kernel) e_w_12
      have q_w_12 : w_11 - (96 : Int64) = w_12 := e_w_12.symm
      refine lv_lstore (lv' := [(7, .long w_12), (0, .int p0), (1, .int p1), (2, .int p2), (3, .int p3), (4, .int p4), (5, .int p5), (6, .int p6)]) hx hb dX10_spelt_76 hl (by decide) rfl (fun ls hl => ?_)
      simp only [f_X10_spelt__37_57, ↓reduceIte, eq_false c_59, q_w_9, q_w_10, q_w_11, q_w_12] at hE
      exact B78 w_12 _ _ ls r_p0 r_p1 r_p2 r_p3 r_p4 r_p5 r_p6 r_w_12 hE hw (lv_sub hl [1, 2, 3, 4, 5, 6, 7, 0] rfl)
  have B38 : ∀ (x7 : Int64) (H : Heap) (locs : List Loc) (ls : Array Slot), RI p0 119 119 → RI p1 97 97 → RI p2 116 116 → RI p3 99 99 → RI p4 104 104 → RI p5 101 101 → RI p6 100 100 → RJ x7 16814 16814 → f_X10_spelt__37_38 p0 p1 p2 p3 p4 p5 p6 x7 = R9 → WD D cy GG A s wr_X10_spelt__52 wa_X10_spelt__52 Ps w0 Ps w0 H locs → lv_has ls 9 [(0, .int p0), (1, .int p1), (2, .int p2), (3, .int p3), (4, .int p4), (5, .int p5), (6, .int p6), (7, .long x7)] → W p l e (headSpec (Cond.code yX10_spelt cX10_spelt 9 (some .long) :: gT) ({ frames := 0, cells := 0, slots := 0, locals := 200 } : Room)).room s m ([.int p0, .int p1, .int p2, .int p3, .int p4, .int p5, .int p6] : List Value).toArray below meth c H locs 0 0 Q (F0 m 38 ls []) := by
    intro x7 H locs ls r_p0 r_p1 r_p2 r_p3 r_p4 r_p5 r_p6 r_x7 hE hw hl
    refine lv_iload_n hx hb dX10_spelt_38 rfl (lv_at hl 3 rfl) ?_
    refine lv_if_le (tgt := 57) hx hb dX10_spelt_39 (by decide) (fun c_39 => ?_) (fun c_39 => ?_)
    · have r_p3 : RI p3 99 0 := rc_le1 r_p3 rl_0 (ti_le c_39) (by decide)
      exact (r_p3.no (by decide)).elim
    · refine lv_ldc2 (v := 27) hx hb hown (hts _ tw_1312) dX10_spelt_42 ?_
      refine lv_lload hx hb dX10_spelt_45 (lv_at hl 7 rfl) ?_
      refine lv_lmul hx hb dX10_spelt_47 (lv_topl (fun w_13 e_w_13 => ?_))
      have r_w_13 := tq_lmul (lo := 453978) (hi := 453978) rk_27 r_x7 (by decide +kernel) e_w_13
      have q_w_13 : (27 : Int64) * x7 = w_13 := e_w_13.symm
      refine lv_iload_n hx hb dX10_spelt_48 rfl (lv_at hl 3 rfl) ?_
      obtain ⟨w_14, e_w_14⟩ : ∃ q9 : Int64, (p3 : Int32).toInt64 = q9 := ⟨_, rfl⟩
      refine lv_i2l (v := w_14) hx hb dX10_spelt_49 e_w_14 ?_
      have r_w_14 := tq_i2l r_p3 e_w_14
      have q_w_14 : Int32.toInt64 p3 = w_14 := e_w_14
      refine lv_ladd hx hb dX10_spelt_50 (lv_topl (fun w_15 e_w_15 => ?_))
      have r_w_15 := tq_ladd (lo := 454077) (hi := 454077) r_w_13 r_w_14 (by decide +kernel) e_w_15
      have q_w_15 : w_13 + w_14 = w_15 := e_w_15.symm
      refine lv_ldc2 (v := 96) hx hb hown (hts _ tw_1313) dX10_spelt_51 ?_
      refine lv_lsub hx hb dX10_spelt_54 (lv_topl (fun w_16 e_w_16 => ?_))
      have r_w_16 := tq_lsub (lo := 453981) (hi := 453981) r_w_15 rk_96 (by decide +kernel) e_w_16
      have q_w_16 : w_15 - (96 : Int64) = w_16 := e_w_16.symm
      refine lv_lstore (lv' := [(7, .long w_16), (0, .int p0), (1, .int p1), (2, .int p2), (3, .int p3), (4, .int p4), (5, .int p5), (6, .int p6)]) hx hb dX10_spelt_55 hl (by decide) rfl (fun ls hl => ?_)
      simp only [f_X10_spelt__37_38, ↓reduceIte, eq_false c_39, q_w_13, q_w_14, q_w_15, q_w_16] at hE
      exact B57 w_16 _ _ ls r_p0 r_p1 r_p2 r_p3 r_p4 r_p5 r_p6 r_w_16 hE hw (lv_sub hl [1, 2, 3, 4, 5, 6, 7, 0] rfl)
  refine lv_ldc2 (v := 27) hx hb hown (hts _ tw_1312) dX10_spelt_0 ?_
  refine lv_iload_n hx hb dX10_spelt_3 rfl (lv_at hl 0 rfl) ?_
  obtain ⟨w_17, e_w_17⟩ : ∃ q9 : Int64, (p0 : Int32).toInt64 = q9 := ⟨_, rfl⟩
  refine lv_i2l (v := w_17) hx hb dX10_spelt_4 e_w_17 ?_
  have r_w_17 := tq_i2l r_p0 e_w_17
  have q_w_17 : Int32.toInt64 p0 = w_17 := e_w_17
  refine lv_ldc2 (v := 96) hx hb hown (hts _ tw_1313) dX10_spelt_5 ?_
  refine lv_lsub hx hb dX10_spelt_8 (lv_topl (fun w_18 e_w_18 => ?_))
  have r_w_18 := tq_lsub (lo := 23) (hi := 23) r_w_17 rk_96 (by decide +kernel) e_w_18
  have q_w_18 : w_17 - (96 : Int64) = w_18 := e_w_18.symm
  refine lv_lmul hx hb dX10_spelt_9 (lv_topl (fun w_19 e_w_19 => ?_))
  have r_w_19 := tq_lmul (lo := 621) (hi := 621) rk_27 r_w_18 (by decide +kernel) e_w_19
  have q_w_19 : (27 : Int64) * w_18 = w_19 := e_w_19.symm
  refine lv_iload_n hx hb dX10_spelt_10 rfl (lv_at hl 1 rfl) ?_
  obtain ⟨w_20, e_w_20⟩ : ∃ q9 : Int64, (p1 : Int32).toInt64 = q9 := ⟨_, rfl⟩
  refine lv_i2l (v := w_20) hx hb dX10_spelt_11 e_w_20 ?_
  have r_w_20 := tq_i2l r_p1 e_w_20
  have q_w_20 : Int32.toInt64 p1 = w_20 := e_w_20
  refine lv_ladd hx hb dX10_spelt_12 (lv_topl (fun w_21 e_w_21 => ?_))
  have r_w_21 := tq_ladd (lo := 718) (hi := 718) r_w_19 r_w_20 (by decide +kernel) e_w_21
  have q_w_21 : w_19 + w_20 = w_21 := e_w_21.symm
  refine lv_ldc2 (v := 96) hx hb hown (hts _ tw_1313) dX10_spelt_13 ?_
  refine lv_lsub hx hb dX10_spelt_16 (lv_topl (fun w_22 e_w_22 => ?_))
  have r_w_22 := tq_lsub (lo := 622) (hi := 622) r_w_21 rk_96 (by decide +kernel) e_w_22
  have q_w_22 : w_21 - (96 : Int64) = w_22 := e_w_22.symm
  refine lv_lstore (lv' := [(7, .long w_22), (0, .int p0), (1, .int p1), (2, .int p2), (3, .int p3), (4, .int p4), (5, .int p5), (6, .int p6)]) hx hb dX10_spelt_17 hl (by decide) rfl (fun ls hl => ?_)
  refine lv_iload_n hx hb dX10_spelt_19 rfl (lv_at hl 3 rfl) ?_
  refine lv_if_le (tgt := 38) hx hb dX10_spelt_20 (by decide) (fun c_20 => ?_) (fun c_20 => ?_)
  · have r_p2 : RI p2 116 0 := rc_le1 r_p2 rl_0 (ti_le c_20) (by decide)
    exact (r_p2.no (by decide)).elim
  · refine lv_ldc2 (v := 27) hx hb hown (hts _ tw_1312) dX10_spelt_23 ?_
    refine lv_lload hx hb dX10_spelt_26 (lv_at hl 0 rfl) ?_
    refine lv_lmul hx hb dX10_spelt_28 (lv_topl (fun w_23 e_w_23 => ?_))
    have r_w_23 := tq_lmul (lo := 16794) (hi := 16794) rk_27 r_w_22 (by decide +kernel) e_w_23
    have q_w_23 : (27 : Int64) * w_22 = w_23 := e_w_23.symm
    refine lv_iload_n hx hb dX10_spelt_29 rfl (lv_at hl 3 rfl) ?_
    obtain ⟨w_24, e_w_24⟩ : ∃ q9 : Int64, (p2 : Int32).toInt64 = q9 := ⟨_, rfl⟩
    refine lv_i2l (v := w_24) hx hb dX10_spelt_30 e_w_24 ?_
    have r_w_24 := tq_i2l r_p2 e_w_24
    have q_w_24 : Int32.toInt64 p2 = w_24 := e_w_24
    refine lv_ladd hx hb dX10_spelt_31 (lv_topl (fun w_25 e_w_25 => ?_))
    have r_w_25 := tq_ladd (lo := 16910) (hi := 16910) r_w_23 r_w_24 (by decide +kernel) e_w_25
    have q_w_25 : w_23 + w_24 = w_25 := e_w_25.symm
    refine lv_ldc2 (v := 96) hx hb hown (hts _ tw_1313) dX10_spelt_32 ?_
    refine lv_lsub hx hb dX10_spelt_35 (lv_topl (fun w_26 e_w_26 => ?_))
    have r_w_26 := tq_lsub (lo := 16814) (hi := 16814) r_w_25 rk_96 (by decide +kernel) e_w_26
    have q_w_26 : w_25 - (96 : Int64) = w_26 := e_w_26.symm
    refine lv_lstore (lv' := [(7, .long w_26), (0, .int p0), (1, .int p1), (2, .int p2), (3, .int p3), (4, .int p4), (5, .int p5), (6, .int p6)]) hx hb dX10_spelt_36 hl (by decide) rfl (fun ls hl => ?_)
    simp only [f_X10_spelt__37, ↓reduceIte, q_w_17, q_w_18, q_w_19, q_w_20, q_w_21, q_w_22, eq_false c_20, q_w_23, q_w_24, q_w_25, q_w_26] at hE
    exact B38 w_26 _ _ ls r_p0 r_p1 r_p2 r_p3 r_p4 r_p5 r_p6 r_w_26 hE hw (lv_sub hl [1, 2, 3, 4, 5, 6, 7, 0] rfl)
abbrev wr_X10_spelt__53 : List (Nat × Nat) := []
abbrev wa_X10_spelt__53 : List Nat := []
set_option maxHeartbeats 4000000 in
set_option maxRecDepth 100000 in
theorem c_X10_spelt__53 (l : Launch) (D : va_G) (cy : Nat → ClassId) (z : Nat → Nat) (sz : Nat) (Ps : PSI) (w0 : va_W) (hT : HT cy GG Ps w0) (p0 : Int32) (p1 : Int32) (p2 : Int32) (p3 : Int32) (p4 : Int32) (p5 : Int32) (p6 : Int32) (r_p0 : RI p0 105 105) (r_p1 : RI p1 115 115) (r_p2 : RI p2 0 0) (r_p3 : RI p3 0 0) (r_p4 : RI p4 0 0) (r_p5 : RI p5 0 0) (r_p6 : RI p6 0 0) : Met l yX10_spelt (Cond.code yX10_spelt cX10_spelt 9 (some .long) :: gT) ({ frames := 0, cells := 0, slots := 0, locals := 200 } : Room) (va_Pc [.int p0, .int p1, .int p2, .int p3, .int p4, .int p5, .int p6] (PRE D cy z w0 sz)) (va_Ql (fun (r : Int64) (u : Unit) => ((f_X10_spelt__47 p0 p1 p2 p3 p4 p5 p6) = r ∧ True) ∧ (RJ r 262 262)) (BB D cy (va_A w0 sz) (fun (u : Unit) => w0)) (va_A w0 sz)) 0 0 (va_A w0 sz) := by
  refine Met.ofW (cc := cX10_spelt) (maxL := 9) (ret := (some .long)) (by decide) rfl ?_
  intro p e s m args below meth c s₁ B hml hv
  obtain ⟨rfl, hsz, hP, hK, hD0, hSD⟩ := hv
  have hx := B.exec
  have hb := B.bytes
  have hr := B.returns
  have hlocks := B.notSynchronized
  have hts : ∀ w ∈ gT, w.before _ s = true := fun w h => atoms_spec (ws := Cond.code yX10_spelt cX10_spelt 9 (some .long) :: gT) B.pre w (List.mem_cons_of_mem _ h)
  have hown : s.vm.findClass RX10 = some m.cls := findClass_of_methodNamed B.named
  subst hsz
  have hD := hD0.self (sz := s.heap.size)
  generalize hAe : va_A w0 s.heap.size = A at hD hSD ⊢
  have hA : ∀ q : Nat, s.heap.size ≤ q → A q := fun q h => by rw [← hAe]; exact Or.inr h
  have hl := lv_entry ([.int p0, .int p1, .int p2, .int p3, .int p4, .int p5, .int p6]) (n := 9) (Nat.le_of_ble_eq_true rfl)
  rw [lg_entry_eq]
  generalize (lg_sl ([.int p0, .int p1, .int p2, .int p3, .int p4, .int p5, .int p6]) ++ List.replicate (9 - (lg_sl ([.int p0, .int p1, .int p2, .int p3, .int p4, .int p5, .int p6])).length) Slot.unset).toArray = ls at hl ⊢
  have hl : lv_has ls 9 [(0, .int p0), (1, .int p1), (2, .int p2), (3, .int p3), (4, .int p4), (5, .int p5), (6, .int p6)] := hl
  refine nameQ (fun Q hQ => ?_)
  have hw : WD D cy GG A s wr_X10_spelt__53 wa_X10_spelt__53 Ps w0 Ps w0 s.heap [] := ⟨hT, hP, hD, va_S.rf, FR.rf, hT.1, [], (List.append_nil _).symm⟩
  obtain ⟨R9, hR⟩ : ∃ q9 : Int64, f_X10_spelt__47 p0 p1 p2 p3 p4 p5 p6 = q9 := ⟨_, rfl⟩
  have hE := hR
  have B99 : ∀ (x7 : Int64) (H : Heap) (locs : List Loc) (ls : Array Slot), RI p0 105 105 → RI p1 115 115 → RI p2 0 0 → RI p3 0 0 → RI p4 0 0 → RI p5 0 0 → RI p6 0 0 → RJ x7 262 262 → f_X10_spelt__47_99 p0 p1 p2 p3 p4 p5 p6 x7 = R9 → WD D cy GG A s wr_X10_spelt__53 wa_X10_spelt__53 Ps w0 Ps w0 H locs → lv_has ls 9 [(0, .int p0), (1, .int p1), (2, .int p2), (3, .int p3), (4, .int p4), (5, .int p5), (6, .int p6), (7, .long x7)] → W p l e (headSpec (Cond.code yX10_spelt cX10_spelt 9 (some .long) :: gT) ({ frames := 0, cells := 0, slots := 0, locals := 200 } : Room)).room s m ([.int p0, .int p1, .int p2, .int p3, .int p4, .int p5, .int p6] : List Value).toArray below meth c H locs 0 0 Q (F0 m 99 ls []) := by
    intro x7 H locs ls r_p0 r_p1 r_p2 r_p3 r_p4 r_p5 r_p6 r_x7 hE hw hl
    refine lv_iload hx hb dX10_spelt_99 (lv_at hl 6 rfl) ?_
    refine lv_if_le (tgt := 120) hx hb dX10_spelt_101 (by decide) (fun c_101 => ?_) (fun c_101 => ?_)
    · refine lv_lload hx hb dX10_spelt_120 (lv_at hl 7 rfl) ?_
      simp only [f_X10_spelt__47_99, ↓reduceIte, eq_true c_101] at hE
      subst hQ
      exact W.lret (v := x7) hx hb hr (fun t ht hW => ⟨⟨x7, (), rfl, ⟨⟨(by rw [hR, ← hE]), trivial⟩, r_x7.to (by decide)⟩, by rw [ht]; exact hw.2.1, va_K.moved hW.alike hK, hw.2.2.1⟩, hw.2.2.2.1.F ht⟩) hw.2.2.2.1.2.2 dX10_spelt_122
    · have r_p6 : RI p6 1 0 := rc_lt2 rl_0 r_p6 (ti_nle c_101) (by decide)
      exact (r_p6.no (by decide)).elim
  have B78 : ∀ (x7 : Int64) (H : Heap) (locs : List Loc) (ls : Array Slot), RI p0 105 105 → RI p1 115 115 → RI p2 0 0 → RI p3 0 0 → RI p4 0 0 → RI p5 0 0 → RI p6 0 0 → RJ x7 262 262 → f_X10_spelt__47_78 p0 p1 p2 p3 p4 p5 p6 x7 = R9 → WD D cy GG A s wr_X10_spelt__53 wa_X10_spelt__53 Ps w0 Ps w0 H locs → lv_has ls 9 [(0, .int p0), (1, .int p1), (2, .int p2), (3, .int p3), (4, .int p4), (5, .int p5), (6, .int p6), (7, .long x7)] → W p l e (headSpec (Cond.code yX10_spelt cX10_spelt 9 (some .long) :: gT) ({ frames := 0, cells := 0, slots := 0, locals := 200 } : Room)).room s m ([.int p0, .int p1, .int p2, .int p3, .int p4, .int p5, .int p6] : List Value).toArray below meth c H locs 0 0 Q (F0 m 78 ls []) := by
    intro x7 H locs ls r_p0 r_p1 r_p2 r_p3 r_p4 r_p5 r_p6 r_x7 hE hw hl
    refine lv_iload hx hb dX10_spelt_78 (lv_at hl 5 rfl) ?_
    refine lv_if_le (tgt := 99) hx hb dX10_spelt_80 (by decide) (fun c_80 => ?_) (fun c_80 => ?_)
    · simp only [f_X10_spelt__47_78, ↓reduceIte, eq_true c_80] at hE
      exact B99 x7 _ _ ls r_p0 r_p1 r_p2 r_p3 r_p4 r_p5 r_p6 r_x7 hE hw hl
    · have r_p5 : RI p5 1 0 := rc_lt2 rl_0 r_p5 (ti_nle c_80) (by decide)
      exact (r_p5.no (by decide)).elim
  have B57 : ∀ (x7 : Int64) (H : Heap) (locs : List Loc) (ls : Array Slot), RI p0 105 105 → RI p1 115 115 → RI p2 0 0 → RI p3 0 0 → RI p4 0 0 → RI p5 0 0 → RI p6 0 0 → RJ x7 262 262 → f_X10_spelt__47_57 p0 p1 p2 p3 p4 p5 p6 x7 = R9 → WD D cy GG A s wr_X10_spelt__53 wa_X10_spelt__53 Ps w0 Ps w0 H locs → lv_has ls 9 [(0, .int p0), (1, .int p1), (2, .int p2), (3, .int p3), (4, .int p4), (5, .int p5), (6, .int p6), (7, .long x7)] → W p l e (headSpec (Cond.code yX10_spelt cX10_spelt 9 (some .long) :: gT) ({ frames := 0, cells := 0, slots := 0, locals := 200 } : Room)).room s m ([.int p0, .int p1, .int p2, .int p3, .int p4, .int p5, .int p6] : List Value).toArray below meth c H locs 0 0 Q (F0 m 57 ls []) := by
    intro x7 H locs ls r_p0 r_p1 r_p2 r_p3 r_p4 r_p5 r_p6 r_x7 hE hw hl
    refine lv_iload hx hb dX10_spelt_57 (lv_at hl 4 rfl) ?_
    refine lv_if_le (tgt := 78) hx hb dX10_spelt_59 (by decide) (fun c_59 => ?_) (fun c_59 => ?_)
    · simp only [f_X10_spelt__47_57, ↓reduceIte, eq_true c_59] at hE
      exact B78 x7 _ _ ls r_p0 r_p1 r_p2 r_p3 r_p4 r_p5 r_p6 r_x7 hE hw hl
    · have r_p4 : RI p4 1 0 := rc_lt2 rl_0 r_p4 (ti_nle c_59) (by decide)
      exact (r_p4.no (by decide)).elim
  have B38 : ∀ (x7 : Int64) (H : Heap) (locs : List Loc) (ls : Array Slot), RI p0 105 105 → RI p1 115 115 → RI p2 0 0 → RI p3 0 0 → RI p4 0 0 → RI p5 0 0 → RI p6 0 0 → RJ x7 262 262 → f_X10_spelt__47_38 p0 p1 p2 p3 p4 p5 p6 x7 = R9 → WD D cy GG A s wr_X10_spelt__53 wa_X10_spelt__53 Ps w0 Ps w0 H locs → lv_has ls 9 [(0, .int p0), (1, .int p1), (2, .int p2), (3, .int p3), (4, .int p4), (5, .int p5), (6, .int p6), (7, .long x7)] → W p l e (headSpec (Cond.code yX10_spelt cX10_spelt 9 (some .long) :: gT) ({ frames := 0, cells := 0, slots := 0, locals := 200 } : Room)).room s m ([.int p0, .int p1, .int p2, .int p3, .int p4, .int p5, .int p6] : List Value).toArray below meth c H locs 0 0 Q (F0 m 38 ls []) := by
    intro x7 H locs ls r_p0 r_p1 r_p2 r_p3 r_p4 r_p5 r_p6 r_x7 hE hw hl
    refine lv_iload_n hx hb dX10_spelt_38 rfl (lv_at hl 3 rfl) ?_
    refine lv_if_le (tgt := 57) hx hb dX10_spelt_39 (by decide) (fun c_39 => ?_) (fun c_39 => ?_)
    · simp only [f_X10_spelt__47_38, ↓reduceIte, eq_true c_39] at hE
      exact B57 x7 _ _ ls r_p0 r_p1 r_p2 r_p3 r_p4 r_p5 r_p6 r_x7 hE hw hl
    · have r_p3 : RI p3 1 0 := rc_lt2 rl_0 r_p3 (ti_nle c_39) (by decide)
      exact (r_p3.no (by decide)).elim
  refine lv_ldc2 (v := 27) hx hb hown (hts _ tw_1312) dX10_spelt_0 ?_
  refine lv_iload_n hx hb dX10_spelt_3 rfl (lv_at hl 0 rfl) ?_
  obtain ⟨w_1, e_w_1⟩ : ∃ q9 : Int64, (p0 : Int32).toInt64 = q9 := ⟨_, rfl⟩
  refine lv_i2l (v := w_1) hx hb dX10_spelt_4 e_w_1 ?_
  have r_w_1 := tq_i2l r_p0 e_w_1
  have q_w_1 : Int32.toInt64 p0 = w_1 := e_w_1
  refine lv_ldc2 (v := 96) hx hb hown (hts _ tw_1313) dX10_spelt_5 ?_
  refine lv_lsub hx hb dX10_spelt_8 (lv_topl (fun w_2 e_w_2 => ?_))
  have r_w_2 := tq_lsub (lo := 9) (hi := 9) r_w_1 rk_96 (by decide +kernel) e_w_2
  have q_w_2 : w_1 - (96 : Int64) = w_2 := e_w_2.symm
  refine lv_lmul hx hb dX10_spelt_9 (lv_topl (fun w_3 e_w_3 => ?_))
  have r_w_3 := tq_lmul (lo := 243) (hi := 243) rk_27 r_w_2 (by decide +kernel) e_w_3
  have q_w_3 : (27 : Int64) * w_2 = w_3 := e_w_3.symm
  refine lv_iload_n hx hb dX10_spelt_10 rfl (lv_at hl 1 rfl) ?_
  obtain ⟨w_4, e_w_4⟩ : ∃ q9 : Int64, (p1 : Int32).toInt64 = q9 := ⟨_, rfl⟩
  refine lv_i2l (v := w_4) hx hb dX10_spelt_11 e_w_4 ?_
  have r_w_4 := tq_i2l r_p1 e_w_4
  have q_w_4 : Int32.toInt64 p1 = w_4 := e_w_4
  refine lv_ladd hx hb dX10_spelt_12 (lv_topl (fun w_5 e_w_5 => ?_))
  have r_w_5 := tq_ladd (lo := 358) (hi := 358) r_w_3 r_w_4 (by decide +kernel) e_w_5
  have q_w_5 : w_3 + w_4 = w_5 := e_w_5.symm
  refine lv_ldc2 (v := 96) hx hb hown (hts _ tw_1313) dX10_spelt_13 ?_
  refine lv_lsub hx hb dX10_spelt_16 (lv_topl (fun w_6 e_w_6 => ?_))
  have r_w_6 := tq_lsub (lo := 262) (hi := 262) r_w_5 rk_96 (by decide +kernel) e_w_6
  have q_w_6 : w_5 - (96 : Int64) = w_6 := e_w_6.symm
  refine lv_lstore (lv' := [(7, .long w_6), (0, .int p0), (1, .int p1), (2, .int p2), (3, .int p3), (4, .int p4), (5, .int p5), (6, .int p6)]) hx hb dX10_spelt_17 hl (by decide) rfl (fun ls hl => ?_)
  refine lv_iload_n hx hb dX10_spelt_19 rfl (lv_at hl 3 rfl) ?_
  refine lv_if_le (tgt := 38) hx hb dX10_spelt_20 (by decide) (fun c_20 => ?_) (fun c_20 => ?_)
  · simp only [f_X10_spelt__47, ↓reduceIte, q_w_1, q_w_2, q_w_3, q_w_4, q_w_5, q_w_6, eq_true c_20] at hE
    exact B38 w_6 _ _ ls r_p0 r_p1 r_p2 r_p3 r_p4 r_p5 r_p6 r_w_6 hE hw (lv_sub hl [1, 2, 3, 4, 5, 6, 7, 0] rfl)
  · have r_p2 : RI p2 1 0 := rc_lt2 rl_0 r_p2 (ti_nle c_20) (by decide)
    exact (r_p2.no (by decide)).elim
abbrev wr_X10_spelt__54 : List (Nat × Nat) := []
abbrev wa_X10_spelt__54 : List Nat := []
set_option maxHeartbeats 4000000 in
set_option maxRecDepth 100000 in
theorem c_X10_spelt__54 (l : Launch) (D : va_G) (cy : Nat → ClassId) (z : Nat → Nat) (sz : Nat) (Ps : PSI) (w0 : va_W) (hT : HT cy GG Ps w0) (p0 : Int32) (p1 : Int32) (p2 : Int32) (p3 : Int32) (p4 : Int32) (p5 : Int32) (p6 : Int32) (r_p0 : RI p0 105 105) (r_p1 : RI p1 110 110) (r_p2 : RI p2 0 0) (r_p3 : RI p3 0 0) (r_p4 : RI p4 0 0) (r_p5 : RI p5 0 0) (r_p6 : RI p6 0 0) : Met l yX10_spelt (Cond.code yX10_spelt cX10_spelt 9 (some .long) :: gT) ({ frames := 0, cells := 0, slots := 0, locals := 200 } : Room) (va_Pc [.int p0, .int p1, .int p2, .int p3, .int p4, .int p5, .int p6] (PRE D cy z w0 sz)) (va_Ql (fun (r : Int64) (u : Unit) => ((f_X10_spelt__47 p0 p1 p2 p3 p4 p5 p6) = r ∧ True) ∧ (RJ r 257 257)) (BB D cy (va_A w0 sz) (fun (u : Unit) => w0)) (va_A w0 sz)) 0 0 (va_A w0 sz) := by
  refine Met.ofW (cc := cX10_spelt) (maxL := 9) (ret := (some .long)) (by decide) rfl ?_
  intro p e s m args below meth c s₁ B hml hv
  obtain ⟨rfl, hsz, hP, hK, hD0, hSD⟩ := hv
  have hx := B.exec
  have hb := B.bytes
  have hr := B.returns
  have hlocks := B.notSynchronized
  have hts : ∀ w ∈ gT, w.before _ s = true := fun w h => atoms_spec (ws := Cond.code yX10_spelt cX10_spelt 9 (some .long) :: gT) B.pre w (List.mem_cons_of_mem _ h)
  have hown : s.vm.findClass RX10 = some m.cls := findClass_of_methodNamed B.named
  subst hsz
  have hD := hD0.self (sz := s.heap.size)
  generalize hAe : va_A w0 s.heap.size = A at hD hSD ⊢
  have hA : ∀ q : Nat, s.heap.size ≤ q → A q := fun q h => by rw [← hAe]; exact Or.inr h
  have hl := lv_entry ([.int p0, .int p1, .int p2, .int p3, .int p4, .int p5, .int p6]) (n := 9) (Nat.le_of_ble_eq_true rfl)
  rw [lg_entry_eq]
  generalize (lg_sl ([.int p0, .int p1, .int p2, .int p3, .int p4, .int p5, .int p6]) ++ List.replicate (9 - (lg_sl ([.int p0, .int p1, .int p2, .int p3, .int p4, .int p5, .int p6])).length) Slot.unset).toArray = ls at hl ⊢
  have hl : lv_has ls 9 [(0, .int p0), (1, .int p1), (2, .int p2), (3, .int p3), (4, .int p4), (5, .int p5), (6, .int p6)] := hl
  refine nameQ (fun Q hQ => ?_)
  have hw : WD D cy GG A s wr_X10_spelt__54 wa_X10_spelt__54 Ps w0 Ps w0 s.heap [] := ⟨hT, hP, hD, va_S.rf, FR.rf, hT.1, [], (List.append_nil _).symm⟩
  obtain ⟨R9, hR⟩ : ∃ q9 : Int64, f_X10_spelt__47 p0 p1 p2 p3 p4 p5 p6 = q9 := ⟨_, rfl⟩
  have hE := hR
  have B99 : ∀ (x7 : Int64) (H : Heap) (locs : List Loc) (ls : Array Slot), RI p0 105 105 → RI p1 110 110 → RI p2 0 0 → RI p3 0 0 → RI p4 0 0 → RI p5 0 0 → RI p6 0 0 → RJ x7 257 257 → f_X10_spelt__47_99 p0 p1 p2 p3 p4 p5 p6 x7 = R9 → WD D cy GG A s wr_X10_spelt__54 wa_X10_spelt__54 Ps w0 Ps w0 H locs → lv_has ls 9 [(0, .int p0), (1, .int p1), (2, .int p2), (3, .int p3), (4, .int p4), (5, .int p5), (6, .int p6), (7, .long x7)] → W p l e (headSpec (Cond.code yX10_spelt cX10_spelt 9 (some .long) :: gT) ({ frames := 0, cells := 0, slots := 0, locals := 200 } : Room)).room s m ([.int p0, .int p1, .int p2, .int p3, .int p4, .int p5, .int p6] : List Value).toArray below meth c H locs 0 0 Q (F0 m 99 ls []) := by
    intro x7 H locs ls r_p0 r_p1 r_p2 r_p3 r_p4 r_p5 r_p6 r_x7 hE hw hl
    refine lv_iload hx hb dX10_spelt_99 (lv_at hl 6 rfl) ?_
    refine lv_if_le (tgt := 120) hx hb dX10_spelt_101 (by decide) (fun c_101 => ?_) (fun c_101 => ?_)
    · refine lv_lload hx hb dX10_spelt_120 (lv_at hl 7 rfl) ?_
      simp only [f_X10_spelt__47_99, ↓reduceIte, eq_true c_101] at hE
      subst hQ
      exact W.lret (v := x7) hx hb hr (fun t ht hW => ⟨⟨x7, (), rfl, ⟨⟨(by rw [hR, ← hE]), trivial⟩, r_x7.to (by decide)⟩, by rw [ht]; exact hw.2.1, va_K.moved hW.alike hK, hw.2.2.1⟩, hw.2.2.2.1.F ht⟩) hw.2.2.2.1.2.2 dX10_spelt_122
    · have r_p6 : RI p6 1 0 := rc_lt2 rl_0 r_p6 (ti_nle c_101) (by decide)
      exact (r_p6.no (by decide)).elim
  have B78 : ∀ (x7 : Int64) (H : Heap) (locs : List Loc) (ls : Array Slot), RI p0 105 105 → RI p1 110 110 → RI p2 0 0 → RI p3 0 0 → RI p4 0 0 → RI p5 0 0 → RI p6 0 0 → RJ x7 257 257 → f_X10_spelt__47_78 p0 p1 p2 p3 p4 p5 p6 x7 = R9 → WD D cy GG A s wr_X10_spelt__54 wa_X10_spelt__54 Ps w0 Ps w0 H locs → lv_has ls 9 [(0, .int p0), (1, .int p1), (2, .int p2), (3, .int p3), (4, .int p4), (5, .int p5), (6, .int p6), (7, .long x7)] → W p l e (headSpec (Cond.code yX10_spelt cX10_spelt 9 (some .long) :: gT) ({ frames := 0, cells := 0, slots := 0, locals := 200 } : Room)).room s m ([.int p0, .int p1, .int p2, .int p3, .int p4, .int p5, .int p6] : List Value).toArray below meth c H locs 0 0 Q (F0 m 78 ls []) := by
    intro x7 H locs ls r_p0 r_p1 r_p2 r_p3 r_p4 r_p5 r_p6 r_x7 hE hw hl
    refine lv_iload hx hb dX10_spelt_78 (lv_at hl 5 rfl) ?_
    refine lv_if_le (tgt := 99) hx hb dX10_spelt_80 (by decide) (fun c_80 => ?_) (fun c_80 => ?_)
    · simp only [f_X10_spelt__47_78, ↓reduceIte, eq_true c_80] at hE
      exact B99 x7 _ _ ls r_p0 r_p1 r_p2 r_p3 r_p4 r_p5 r_p6 r_x7 hE hw hl
    · have r_p5 : RI p5 1 0 := rc_lt2 rl_0 r_p5 (ti_nle c_80) (by decide)
      exact (r_p5.no (by decide)).elim
  have B57 : ∀ (x7 : Int64) (H : Heap) (locs : List Loc) (ls : Array Slot), RI p0 105 105 → RI p1 110 110 → RI p2 0 0 → RI p3 0 0 → RI p4 0 0 → RI p5 0 0 → RI p6 0 0 → RJ x7 257 257 → f_X10_spelt__47_57 p0 p1 p2 p3 p4 p5 p6 x7 = R9 → WD D cy GG A s wr_X10_spelt__54 wa_X10_spelt__54 Ps w0 Ps w0 H locs → lv_has ls 9 [(0, .int p0), (1, .int p1), (2, .int p2), (3, .int p3), (4, .int p4), (5, .int p5), (6, .int p6), (7, .long x7)] → W p l e (headSpec (Cond.code yX10_spelt cX10_spelt 9 (some .long) :: gT) ({ frames := 0, cells := 0, slots := 0, locals := 200 } : Room)).room s m ([.int p0, .int p1, .int p2, .int p3, .int p4, .int p5, .int p6] : List Value).toArray below meth c H locs 0 0 Q (F0 m 57 ls []) := by
    intro x7 H locs ls r_p0 r_p1 r_p2 r_p3 r_p4 r_p5 r_p6 r_x7 hE hw hl
    refine lv_iload hx hb dX10_spelt_57 (lv_at hl 4 rfl) ?_
    refine lv_if_le (tgt := 78) hx hb dX10_spelt_59 (by decide) (fun c_59 => ?_) (fun c_59 => ?_)
    · simp only [f_X10_spelt__47_57, ↓reduceIte, eq_true c_59] at hE
      exact B78 x7 _ _ ls r_p0 r_p1 r_p2 r_p3 r_p4 r_p5 r_p6 r_x7 hE hw hl
    · have r_p4 : RI p4 1 0 := rc_lt2 rl_0 r_p4 (ti_nle c_59) (by decide)
      exact (r_p4.no (by decide)).elim
  have B38 : ∀ (x7 : Int64) (H : Heap) (locs : List Loc) (ls : Array Slot), RI p0 105 105 → RI p1 110 110 → RI p2 0 0 → RI p3 0 0 → RI p4 0 0 → RI p5 0 0 → RI p6 0 0 → RJ x7 257 257 → f_X10_spelt__47_38 p0 p1 p2 p3 p4 p5 p6 x7 = R9 → WD D cy GG A s wr_X10_spelt__54 wa_X10_spelt__54 Ps w0 Ps w0 H locs → lv_has ls 9 [(0, .int p0), (1, .int p1), (2, .int p2), (3, .int p3), (4, .int p4), (5, .int p5), (6, .int p6), (7, .long x7)] → W p l e (headSpec (Cond.code yX10_spelt cX10_spelt 9 (some .long) :: gT) ({ frames := 0, cells := 0, slots := 0, locals := 200 } : Room)).room s m ([.int p0, .int p1, .int p2, .int p3, .int p4, .int p5, .int p6] : List Value).toArray below meth c H locs 0 0 Q (F0 m 38 ls []) := by
    intro x7 H locs ls r_p0 r_p1 r_p2 r_p3 r_p4 r_p5 r_p6 r_x7 hE hw hl
    refine lv_iload_n hx hb dX10_spelt_38 rfl (lv_at hl 3 rfl) ?_
    refine lv_if_le (tgt := 57) hx hb dX10_spelt_39 (by decide) (fun c_39 => ?_) (fun c_39 => ?_)
    · simp only [f_X10_spelt__47_38, ↓reduceIte, eq_true c_39] at hE
      exact B57 x7 _ _ ls r_p0 r_p1 r_p2 r_p3 r_p4 r_p5 r_p6 r_x7 hE hw hl
    · have r_p3 : RI p3 1 0 := rc_lt2 rl_0 r_p3 (ti_nle c_39) (by decide)
      exact (r_p3.no (by decide)).elim
  refine lv_ldc2 (v := 27) hx hb hown (hts _ tw_1312) dX10_spelt_0 ?_
  refine lv_iload_n hx hb dX10_spelt_3 rfl (lv_at hl 0 rfl) ?_
  obtain ⟨w_1, e_w_1⟩ : ∃ q9 : Int64, (p0 : Int32).toInt64 = q9 := ⟨_, rfl⟩
  refine lv_i2l (v := w_1) hx hb dX10_spelt_4 e_w_1 ?_
  have r_w_1 := tq_i2l r_p0 e_w_1
  have q_w_1 : Int32.toInt64 p0 = w_1 := e_w_1
  refine lv_ldc2 (v := 96) hx hb hown (hts _ tw_1313) dX10_spelt_5 ?_
  refine lv_lsub hx hb dX10_spelt_8 (lv_topl (fun w_2 e_w_2 => ?_))
  have r_w_2 := tq_lsub (lo := 9) (hi := 9) r_w_1 rk_96 (by decide +kernel) e_w_2
  have q_w_2 : w_1 - (96 : Int64) = w_2 := e_w_2.symm
  refine lv_lmul hx hb dX10_spelt_9 (lv_topl (fun w_3 e_w_3 => ?_))
  have r_w_3 := tq_lmul (lo := 243) (hi := 243) rk_27 r_w_2 (by decide +kernel) e_w_3
  have q_w_3 : (27 : Int64) * w_2 = w_3 := e_w_3.symm
  refine lv_iload_n hx hb dX10_spelt_10 rfl (lv_at hl 1 rfl) ?_
  obtain ⟨w_4, e_w_4⟩ : ∃ q9 : Int64, (p1 : Int32).toInt64 = q9 := ⟨_, rfl⟩
  refine lv_i2l (v := w_4) hx hb dX10_spelt_11 e_w_4 ?_
  have r_w_4 := tq_i2l r_p1 e_w_4
  have q_w_4 : Int32.toInt64 p1 = w_4 := e_w_4
  refine lv_ladd hx hb dX10_spelt_12 (lv_topl (fun w_5 e_w_5 => ?_))
  have r_w_5 := tq_ladd (lo := 353) (hi := 353) r_w_3 r_w_4 (by decide +kernel) e_w_5
  have q_w_5 : w_3 + w_4 = w_5 := e_w_5.symm
  refine lv_ldc2 (v := 96) hx hb hown (hts _ tw_1313) dX10_spelt_13 ?_
  refine lv_lsub hx hb dX10_spelt_16 (lv_topl (fun w_6 e_w_6 => ?_))
  have r_w_6 := tq_lsub (lo := 257) (hi := 257) r_w_5 rk_96 (by decide +kernel) e_w_6
  have q_w_6 : w_5 - (96 : Int64) = w_6 := e_w_6.symm
  refine lv_lstore (lv' := [(7, .long w_6), (0, .int p0), (1, .int p1), (2, .int p2), (3, .int p3), (4, .int p4), (5, .int p5), (6, .int p6)]) hx hb dX10_spelt_17 hl (by decide) rfl (fun ls hl => ?_)
  refine lv_iload_n hx hb dX10_spelt_19 rfl (lv_at hl 3 rfl) ?_
  refine lv_if_le (tgt := 38) hx hb dX10_spelt_20 (by decide) (fun c_20 => ?_) (fun c_20 => ?_)
  · simp only [f_X10_spelt__47, ↓reduceIte, q_w_1, q_w_2, q_w_3, q_w_4, q_w_5, q_w_6, eq_true c_20] at hE
    exact B38 w_6 _ _ ls r_p0 r_p1 r_p2 r_p3 r_p4 r_p5 r_p6 r_w_6 hE hw (lv_sub hl [1, 2, 3, 4, 5, 6, 7, 0] rfl)
  · have r_p2 : RI p2 1 0 := rc_lt2 rl_0 r_p2 (ti_nle c_20) (by decide)
    exact (r_p2.no (by decide)).elim
