abbrev wr_X9_parcel : List (Nat × Nat) := []
abbrev wa_X9_parcel : List Nat := []
set_option maxHeartbeats 4000000 in
set_option maxRecDepth 100000 in
theorem c_X9_parcel (l : Launch) (hl0 : l.stackTraces = false) (D : va_G) (cy : Nat → ClassId) (z : Nat → Nat) (sz : Nat) (Ps : PSI) (w0 : va_W) (hT : HT cy GG Ps w0) (p0 : Nat) (p1 : Int32) (p2 : Int32) (h_p0 : (p0, 33) ∈ Ps) (r_p1 : RI p1 (-2147483648) 2147483647) (r_p2 : RI p2 (-2147483648) 2147483647) : vx_Met l yX9_parcel (Cond.code yX9_parcel cX9_parcel 3 (some .int) :: gT) ({ frames := 8, cells := 1, slots := 6, locals := 1000 } : Room) (va_Pc [.ref p0, .int p1, .int p2] (PREE D cy z w0 sz)) (va_Qi (fun (r : Int32) (u : Unit) => RI r (-2147483648) 2147483647 ∧ (r = 0 → True) ∧ (¬ r = 0 → True)) (BB D cy (va_A w0 sz) (fun (u : Unit) => w0)) (va_A w0 sz)) (vx_X (fun (u : Unit) => True) (fun E u t => E = nse ∧ va_P D classes w0 t.heap) (va_A w0 sz)) 1 6 (va_A w0 sz) := by
  refine vx_ofW (cc := cX9_parcel) (maxL := 3) (ret := (some .int)) (by decide) rfl ?_
  intro p e s m args below meth c s₁ B hml htab hv
  obtain ⟨rfl, ⟨hsz, hP, hK, hD0, hSD⟩, hSE⟩ := hv
  have hx := B.exec
  have hb := B.bytes
  have hr := B.returns
  have hlocks := B.notSynchronized
  have hts : ∀ w ∈ gT, w.before _ s = true := fun w h => atoms_spec (ws := Cond.code yX9_parcel cX9_parcel 3 (some .int) :: gT) B.pre w (List.mem_cons_of_mem _ h)
  have hown : s.vm.findClass RX9 = some m.cls := findClass_of_methodNamed B.named
  subst hsz
  have hD := hD0.self (sz := s.heap.size)
  generalize hAe : va_A w0 s.heap.size = A at hD hSD hSE ⊢
  have hA : ∀ q : Nat, s.heap.size ≤ q → A q := fun q h => by rw [← hAe]; exact Or.inr h
  have hl := lv_entry ([.ref p0, .int p1, .int p2]) (n := 3) (Nat.le_of_ble_eq_true rfl)
  rw [lg_entry_eq]
  generalize (lg_sl ([.ref p0, .int p1, .int p2]) ++ List.replicate (3 - (lg_sl ([.ref p0, .int p1, .int p2])).length) Slot.unset).toArray = ls at hl ⊢
  have hl : lv_has ls 3 [(0, .ref p0), (1, .int p1), (2, .int p2)] := hl
  refine nameQ (fun Q hQ => ?_)
  have hw : WD D cy GG A s wr_X9_parcel wa_X9_parcel Ps w0 Ps w0 s.heap [] := ⟨hT, hP, hD, va_S.rf, FR.rf, hT.1, [], (List.append_nil _).symm⟩
  refine lv_aload_n hx hb dX9_parcel_0 rfl (lv_at hl 0 rfl) ?_
  refine lv_iconst (v := 2) hx hb dX9_parcel_1 (by decide) ?_
  refine lv_iload_n hx hb dX9_parcel_2 rfl (lv_at hl 1 rfl) ?_
  refine tk_ir (va_runV (As := [.int 2, .int p1]) (rest := []) ⟨hx, hb, hml, hown, hts⟩ (c_X9_isOf l D cy z s.heap.size Ps w0 hw.1 p0 2 p1 h_p0 rl_2 r_p1) (cwV 2 hts (gV tw_540 tw_542 ts_10 tw_1 tw_543) rfl rfl rfl (by decide +kernel) ⟨Nat.le_of_ble_eq_true rfl, Nat.le_of_ble_eq_true rfl⟩) (tg_preV hw hK hSD hA (ci := 9) (q := (RX9, TX9, 15)) rfl h_p0 rfl) rfl rfl hl.1 rfl (lv_room (Nat.le_of_ble_eq_true rfl)) dX9_parcel_3 ⟨Nat.le_of_ble_eq_true rfl, Nat.le_of_ble_eq_true rfl⟩) hw hA (fun v_1  H locs hp_v_1 hw => ?_)
  have r_v_1 : RI v_1 0 1 := hp_v_1.1
  refine lv_if_ne (tgt := 19) hx hb dX9_parcel_6 (by decide) (fun c_6 => ?_) (fun c_6 => ?_)
  · have r_v_1 : RI v_1 1 1 := rc_neL r_v_1 rl_0 (ti_ne c_6) (by decide)
    have r_p1 : RI p1 0 5 := ((hp_v_1.2.2 c_6).1)
    refine lv_iload_n hx hb dX9_parcel_19 rfl (lv_at hl 2 rfl) ?_
    have w_20 := r_p2
    by_cases cl_20 : p2.toInt < 0 ∨ 6 < p2.toInt
    · refine lv_tableOut (tgt := 131) hx hb dX9_parcel_20 cl_20 (by decide) ?_
      subst hQ
      exact vy_throwS nse0 nse1 nse2 nse5 (names := nseN) (text := "no such thing of a parcel") (sa := z 5) hx hb hl0 hown (by decide +kernel) (by decide +kernel) (hts _ cl132) (hts _ ini21) hSE.1.2.2.2.2.2.1 (vx_hat (B := dW) (fun w9 h9 => hts w9 (atP w9 h9)) atN (fun w9 h9 => hSE.1.dw h9)) atG hSE.1.2.1 hSE.1.2.2.1 hw.2.2.2.1 (hl.1.trans hml.symm) dX9_parcel_131 dX9_parcel_134 dX9_parcel_135 dX9_parcel_137 dX9_parcel_140 (fun x9 h9 => (htab x9 h9).elim) (Nat.le_of_ble_eq_true rfl) (Nat.le_of_ble_eq_true rfl) (Nat.le_of_ble_eq_true rfl) (Nat.le_of_ble_eq_true rfl) hlocks (fun t ha h1 h2 => ⟨(), trivial, ⟨rfl, fun k9 q9 h9 => (hw.2.1 k9 q9 h9).kept (h2 _ (hw.2.1 k9 q9 h9).lt)⟩, Nat.le_trans hw.2.2.2.1.1 h1, fun q hq hn => (h2 q (Nat.lt_of_lt_of_le hq hw.2.2.2.1.1)).trans (hw.2.2.2.1.2.1 q hq hn)⟩) hw.2.2.2.1.2.2 (Nat.le_of_ble_eq_true rfl) (Nat.le_of_ble_eq_true rfl)
    · have e_20 : p2.toInt = 0 ∨ p2.toInt = 1 ∨ p2.toInt = 2 ∨ p2.toInt = 3 ∨ p2.toInt = 4 ∨ p2.toInt = 5 ∨ p2.toInt = 6 := by omega
      rcases e_20 with h_20 | h_20 | h_20 | h_20 | h_20 | h_20 | h_20
      · refine lv_tableIn (tgt := 64) (off := 44) hx hb dX9_parcel_20 (by omega) (by omega) (by rw [h_20]; rfl) (by decide) ?_
        have r_p2 : RI p2 0 0 := ⟨by omega, by omega⟩
        refine lv_aload_n hx hb dX9_parcel_64 rfl (lv_at hl 0 rfl) ?_
        refine tg_get (ci := 9) (ts := ty_WP) (C := RX9) (T := TX9) (N := 15) hx hb hts inX9 hown hK hw h_p0 rfl rfl 1 (by decide) (hts _ tw_347) (fun _ h9 => h9) (ft := vR 24) rfl dX9_parcel_65 (fun u_2 hv_u_2 m_u_2 => ?_)
        obtain ⟨vu_2, rfl, h_vu_2⟩ := hv_u_2
        refine lv_iload_n hx hb dX9_parcel_68 rfl (lv_at hl 1 rfl) ?_
        refine tk_ir (va_runV (As := [.int p1]) (rest := []) ⟨hx, hb, hml, hown, hts⟩ (c_X8_isNow l D cy z H.size Ps w0 hw.1 vu_2 p1 h_vu_2 r_p1) (cwV 1 hts (gV tw_783 tw_570 tw_571 tw_12 tw_572) rfl rfl rfl (by decide +kernel) ⟨Nat.le_of_ble_eq_true rfl, Nat.le_of_ble_eq_true rfl⟩) (tg_preV hw hK hSD hA (ci := 8) (q := (RX8, TX8, 13)) rfl h_vu_2 rfl) rfl rfl hl.1 rfl (lv_room (Nat.le_of_ble_eq_true rfl)) dX9_parcel_69 ⟨Nat.le_of_ble_eq_true rfl, Nat.le_of_ble_eq_true rfl⟩) hw hA (fun v_3  H locs hp_v_3 hw => ?_)
        have r_v_3 : RI v_3 (-1) 5 := hp_v_3.1
        by_cases c9_v_3 : v_3.toInt < 0
        · have r_v_3 : RI v_3 (-1) (-1) := by unfold RI at r_v_3 ⊢; omega
          have x_NBQ_vu_2_p1 := (hp_v_3.2.2.2.2.1 (by omega)).1
          subst hQ
          refine W.widen (k := 1) (n := 6) (Nat.le_of_ble_eq_true rfl) (Nat.le_of_ble_eq_true rfl) ?_
          exact vx_ret (W.iret (v := v_3) hx hb hr (fun t ht hW => ⟨⟨v_3, (), rfl, ⟨r_v_3.to (by decide), (fun _ => trivial), (fun h0 => trivial)⟩, by rw [ht]; exact hw.2.1, va_K.moved hW.alike hK, hw.2.2.1⟩, hw.2.2.2.1.F ht⟩) hw.2.2.2.1.2.2 dX9_parcel_72)
        · have r_v_3 : RI v_3 0 5 := by unfold RI at r_v_3 ⊢; omega
          have x_WBQ_vu_2_p1 := (hp_v_3.2.2.2.2.2 (by omega)).1
          subst hQ
          refine W.widen (k := 1) (n := 6) (Nat.le_of_ble_eq_true rfl) (Nat.le_of_ble_eq_true rfl) ?_
          exact vx_ret (W.iret (v := v_3) hx hb hr (fun t ht hW => ⟨⟨v_3, (), rfl, ⟨r_v_3.to (by decide), (fun h0 => trivial), (fun h0 => trivial)⟩, by rw [ht]; exact hw.2.1, va_K.moved hW.alike hK, hw.2.2.1⟩, hw.2.2.2.1.F ht⟩) hw.2.2.2.1.2.2 dX9_parcel_72)
      · refine lv_tableIn (tgt := 73) (off := 53) hx hb dX9_parcel_20 (by omega) (by omega) (by rw [h_20]; rfl) (by decide) ?_
        have r_p2 : RI p2 1 1 := ⟨by omega, by omega⟩
        refine lv_aload_n hx hb dX9_parcel_73 rfl (lv_at hl 0 rfl) ?_
        refine tg_get (ci := 9) (ts := ty_WP) (C := RX9) (T := TX9) (N := 15) hx hb hts inX9 hown hK hw h_p0 rfl rfl 1 (by decide) (hts _ tw_347) (fun _ h9 => h9) (ft := vR 24) rfl dX9_parcel_74 (fun u_4 hv_u_4 m_u_4 => ?_)
        obtain ⟨vu_4, rfl, h_vu_4⟩ := hv_u_4
        refine tg_getN (ci := 8) (ts := ty_WORLD) (C := RX8) (T := TX8) (N := 13) hx hb hts inX8 hown hK hw h_vu_4 rfl rfl 3 (by decide) (hSD.nest tn_255) (fun _ h9 => h9) (ft := vR 9) rfl dX9_parcel_77 (fun u_5 hv_u_5 m_u_5 => ?_)
        obtain ⟨vu_5, rfl, h_vu_5⟩ := hv_u_5
        refine lv_iload_n hx hb dX9_parcel_80 rfl (lv_at hl 1 rfl) ?_
        refine tg_iald (lo := (-2147483648)) (hi := 2147483647) hx hb hK hw h_vu_5 rfl 0 5 r_p1 (by decide) (by exact fun _ _ _ => ⟨Int.le_refl _, Int.le_refl _⟩) dX9_parcel_81 (fun v_6 r_v_6 m_v_6 o_v_6 => ?_)
        subst hQ
        refine W.widen (k := 1) (n := 6) (Nat.le_of_ble_eq_true rfl) (Nat.le_of_ble_eq_true rfl) ?_
        exact vx_ret (W.iret (v := v_6) hx hb hr (fun t ht hW => ⟨⟨v_6, (), rfl, ⟨r_v_6.to (by decide), (fun h0 => trivial), (fun h0 => trivial)⟩, by rw [ht]; exact hw.2.1, va_K.moved hW.alike hK, hw.2.2.1⟩, hw.2.2.2.1.F ht⟩) hw.2.2.2.1.2.2 dX9_parcel_82)
      · refine lv_tableIn (tgt := 83) (off := 63) hx hb dX9_parcel_20 (by omega) (by omega) (by rw [h_20]; rfl) (by decide) ?_
        have r_p2 : RI p2 2 2 := ⟨by omega, by omega⟩
        refine lv_aload_n hx hb dX9_parcel_83 rfl (lv_at hl 0 rfl) ?_
        refine tg_get (ci := 9) (ts := ty_WP) (C := RX9) (T := TX9) (N := 15) hx hb hts inX9 hown hK hw h_p0 rfl rfl 1 (by decide) (hts _ tw_347) (fun _ h9 => h9) (ft := vR 24) rfl dX9_parcel_84 (fun u_7 hv_u_7 m_u_7 => ?_)
        obtain ⟨vu_7, rfl, h_vu_7⟩ := hv_u_7
        refine lv_iload_n hx hb dX9_parcel_87 rfl (lv_at hl 1 rfl) ?_
        refine tk_ir (va_runV (As := [.int p1]) (rest := []) ⟨hx, hb, hml, hown, hts⟩ (c_X8_sizeOf l D cy z H.size Ps w0 hw.1 vu_7 p1 h_vu_7 r_p1) (cwV 1 hts (gV tw_828 tw_594 tw_595 tw_12 tw_596) rfl rfl rfl (by decide +kernel) ⟨Nat.le_of_ble_eq_true rfl, Nat.le_of_ble_eq_true rfl⟩) (tg_preV hw hK hSD hA (ci := 8) (q := (RX8, TX8, 13)) rfl h_vu_7 rfl) rfl rfl hl.1 rfl (lv_room (Nat.le_of_ble_eq_true rfl)) dX9_parcel_88 ⟨Nat.le_of_ble_eq_true rfl, Nat.le_of_ble_eq_true rfl⟩) hw hA (fun v_8  H locs hp_v_8 hw => ?_)
        have r_v_8 : RI v_8 (-2147483648) 2147483647 := hp_v_8.1
        subst hQ
        refine W.widen (k := 1) (n := 6) (Nat.le_of_ble_eq_true rfl) (Nat.le_of_ble_eq_true rfl) ?_
        exact vx_ret (W.iret (v := v_8) hx hb hr (fun t ht hW => ⟨⟨v_8, (), rfl, ⟨r_v_8.to (by decide), (fun h0 => trivial), (fun h0 => trivial)⟩, by rw [ht]; exact hw.2.1, va_K.moved hW.alike hK, hw.2.2.1⟩, hw.2.2.2.1.F ht⟩) hw.2.2.2.1.2.2 dX9_parcel_91)
      · refine lv_tableIn (tgt := 92) (off := 72) hx hb dX9_parcel_20 (by omega) (by omega) (by rw [h_20]; rfl) (by decide) ?_
        have r_p2 : RI p2 3 3 := ⟨by omega, by omega⟩
        refine lv_aload_n hx hb dX9_parcel_92 rfl (lv_at hl 0 rfl) ?_
        refine tg_get (ci := 9) (ts := ty_WP) (C := RX9) (T := TX9) (N := 15) hx hb hts inX9 hown hK hw h_p0 rfl rfl 1 (by decide) (hts _ tw_347) (fun _ h9 => h9) (ft := vR 24) rfl dX9_parcel_93 (fun u_9 hv_u_9 m_u_9 => ?_)
        obtain ⟨vu_9, rfl, h_vu_9⟩ := hv_u_9
        refine tg_getN (ci := 8) (ts := ty_WORLD) (C := RX8) (T := TX8) (N := 13) hx hb hts inX8 hown hK hw h_vu_9 rfl rfl 4 (by decide) (hSD.nest tn_258) (fun _ h9 => h9) (ft := vR 10) rfl dX9_parcel_96 (fun u_10 hv_u_10 m_u_10 => ?_)
        obtain ⟨vu_10, rfl, h_vu_10⟩ := hv_u_10
        refine lv_iload_n hx hb dX9_parcel_99 rfl (lv_at hl 1 rfl) ?_
        refine tg_iald (lo := (-2147483648)) (hi := 2147483647) hx hb hK hw h_vu_10 rfl 0 5 r_p1 (by decide) (by exact fun _ _ _ => ⟨Int.le_refl _, Int.le_refl _⟩) dX9_parcel_100 (fun v_11 r_v_11 m_v_11 o_v_11 => ?_)
        subst hQ
        refine W.widen (k := 1) (n := 6) (Nat.le_of_ble_eq_true rfl) (Nat.le_of_ble_eq_true rfl) ?_
        exact vx_ret (W.iret (v := v_11) hx hb hr (fun t ht hW => ⟨⟨v_11, (), rfl, ⟨r_v_11.to (by decide), (fun h0 => trivial), (fun h0 => trivial)⟩, by rw [ht]; exact hw.2.1, va_K.moved hW.alike hK, hw.2.2.1⟩, hw.2.2.2.1.F ht⟩) hw.2.2.2.1.2.2 dX9_parcel_101)
      · refine lv_tableIn (tgt := 102) (off := 82) hx hb dX9_parcel_20 (by omega) (by omega) (by rw [h_20]; rfl) (by decide) ?_
        have r_p2 : RI p2 4 4 := ⟨by omega, by omega⟩
        refine lv_aload_n hx hb dX9_parcel_102 rfl (lv_at hl 0 rfl) ?_
        refine tg_get (ci := 9) (ts := ty_WP) (C := RX9) (T := TX9) (N := 15) hx hb hts inX9 hown hK hw h_p0 rfl rfl 1 (by decide) (hts _ tw_347) (fun _ h9 => h9) (ft := vR 24) rfl dX9_parcel_103 (fun u_12 hv_u_12 m_u_12 => ?_)
        obtain ⟨vu_12, rfl, h_vu_12⟩ := hv_u_12
        refine tg_getN (ci := 8) (ts := ty_WORLD) (C := RX8) (T := TX8) (N := 13) hx hb hts inX8 hown hK hw h_vu_12 rfl rfl 5 (by decide) (hSD.nest tn_261) (fun _ h9 => h9) (ft := vR 10) rfl dX9_parcel_106 (fun u_13 hv_u_13 m_u_13 => ?_)
        obtain ⟨vu_13, rfl, h_vu_13⟩ := hv_u_13
        refine lv_iload_n hx hb dX9_parcel_109 rfl (lv_at hl 1 rfl) ?_
        refine tg_iald (lo := (-2147483648)) (hi := 2147483647) hx hb hK hw h_vu_13 rfl 0 5 r_p1 (by decide) (by exact fun _ _ _ => ⟨Int.le_refl _, Int.le_refl _⟩) dX9_parcel_110 (fun v_14 r_v_14 m_v_14 o_v_14 => ?_)
        subst hQ
        refine W.widen (k := 1) (n := 6) (Nat.le_of_ble_eq_true rfl) (Nat.le_of_ble_eq_true rfl) ?_
        exact vx_ret (W.iret (v := v_14) hx hb hr (fun t ht hW => ⟨⟨v_14, (), rfl, ⟨r_v_14.to (by decide), (fun h0 => trivial), (fun h0 => trivial)⟩, by rw [ht]; exact hw.2.1, va_K.moved hW.alike hK, hw.2.2.1⟩, hw.2.2.2.1.F ht⟩) hw.2.2.2.1.2.2 dX9_parcel_111)
      · refine lv_tableIn (tgt := 112) (off := 92) hx hb dX9_parcel_20 (by omega) (by omega) (by rw [h_20]; rfl) (by decide) ?_
        have r_p2 : RI p2 5 5 := ⟨by omega, by omega⟩
        refine lv_aload_n hx hb dX9_parcel_112 rfl (lv_at hl 0 rfl) ?_
        refine tg_get (ci := 9) (ts := ty_WP) (C := RX9) (T := TX9) (N := 15) hx hb hts inX9 hown hK hw h_p0 rfl rfl 1 (by decide) (hts _ tw_347) (fun _ h9 => h9) (ft := vR 24) rfl dX9_parcel_113 (fun u_15 hv_u_15 m_u_15 => ?_)
        obtain ⟨vu_15, rfl, h_vu_15⟩ := hv_u_15
        refine tg_getN (ci := 8) (ts := ty_WORLD) (C := RX8) (T := TX8) (N := 13) hx hb hts inX8 hown hK hw h_vu_15 rfl rfl 6 (by decide) (hSD.nest tn_263) (fun _ h9 => h9) (ft := vR 10) rfl dX9_parcel_116 (fun u_16 hv_u_16 m_u_16 => ?_)
        obtain ⟨vu_16, rfl, h_vu_16⟩ := hv_u_16
        refine lv_iload_n hx hb dX9_parcel_119 rfl (lv_at hl 1 rfl) ?_
        refine tg_iald (lo := (-2147483648)) (hi := 2147483647) hx hb hK hw h_vu_16 rfl 0 5 r_p1 (by decide) (by exact fun _ _ _ => ⟨Int.le_refl _, Int.le_refl _⟩) dX9_parcel_120 (fun v_17 r_v_17 m_v_17 o_v_17 => ?_)
        subst hQ
        refine W.widen (k := 1) (n := 6) (Nat.le_of_ble_eq_true rfl) (Nat.le_of_ble_eq_true rfl) ?_
        exact vx_ret (W.iret (v := v_17) hx hb hr (fun t ht hW => ⟨⟨v_17, (), rfl, ⟨r_v_17.to (by decide), (fun h0 => trivial), (fun h0 => trivial)⟩, by rw [ht]; exact hw.2.1, va_K.moved hW.alike hK, hw.2.2.1⟩, hw.2.2.2.1.F ht⟩) hw.2.2.2.1.2.2 dX9_parcel_121)
      · refine lv_tableIn (tgt := 122) (off := 102) hx hb dX9_parcel_20 (by omega) (by omega) (by rw [h_20]; rfl) (by decide) ?_
        have r_p2 : RI p2 6 6 := ⟨by omega, by omega⟩
        refine lv_aload_n hx hb dX9_parcel_122 rfl (lv_at hl 0 rfl) ?_
        refine tg_get (ci := 9) (ts := ty_WP) (C := RX9) (T := TX9) (N := 15) hx hb hts inX9 hown hK hw h_p0 rfl rfl 1 (by decide) (hts _ tw_347) (fun _ h9 => h9) (ft := vR 24) rfl dX9_parcel_123 (fun u_18 hv_u_18 m_u_18 => ?_)
        obtain ⟨vu_18, rfl, h_vu_18⟩ := hv_u_18
        refine lv_iload_n hx hb dX9_parcel_126 rfl (lv_at hl 1 rfl) ?_
        refine tk_ir (va_runV (As := [.int p1]) (rest := []) ⟨hx, hb, hml, hown, hts⟩ (c_X8_whoSitsBy l D cy z H.size Ps w0 hw.1 vu_18 p1 h_vu_18 (r_p1.to (by decide))) (cwV 1 hts (gV tw_1108 tw_586 tw_587 tw_12 tw_588) rfl rfl rfl (by decide +kernel) ⟨Nat.le_of_ble_eq_true rfl, Nat.le_of_ble_eq_true rfl⟩) (tg_preV hw hK hSD hA (ci := 8) (q := (RX8, TX8, 13)) rfl h_vu_18 rfl) rfl rfl hl.1 rfl (lv_room (Nat.le_of_ble_eq_true rfl)) dX9_parcel_127 ⟨Nat.le_of_ble_eq_true rfl, Nat.le_of_ble_eq_true rfl⟩) hw hA (fun v_19  H locs hp_v_19 hw => ?_)
        have r_v_19 : RI v_19 (-2147483648) 2147483647 := hp_v_19.1
        subst hQ
        refine W.widen (k := 1) (n := 6) (Nat.le_of_ble_eq_true rfl) (Nat.le_of_ble_eq_true rfl) ?_
        exact vx_ret (W.iret (v := v_19) hx hb hr (fun t ht hW => ⟨⟨v_19, (), rfl, ⟨r_v_19.to (by decide), (fun h0 => trivial), (fun h0 => trivial)⟩, by rw [ht]; exact hw.2.1, va_K.moved hW.alike hK, hw.2.2.1⟩, hw.2.2.2.1.F ht⟩) hw.2.2.2.1.2.2 dX9_parcel_130)
  · have r_v_1 : RI v_1 0 0 := rc_eq1 r_v_1 rl_0 (ti_eq c_6) (by decide)
    subst hQ
    exact vy_throwS nse0 nse1 nse2 nse5 (names := nseN) (text := "no such parcel") (sa := z 3) hx hb hl0 hown (by decide +kernel) (by decide +kernel) (hts _ cl132) (hts _ ini21) hSE.1.2.2.2.1 (vx_hat (B := dW) (fun w9 h9 => hts w9 (atP w9 h9)) atN (fun w9 h9 => hSE.1.dw h9)) atG hSE.1.2.1 hSE.1.2.2.1 hw.2.2.2.1 (hl.1.trans hml.symm) dX9_parcel_9 dX9_parcel_12 dX9_parcel_13 dX9_parcel_15 dX9_parcel_18 (fun x9 h9 => (htab x9 h9).elim) (Nat.le_of_ble_eq_true rfl) (Nat.le_of_ble_eq_true rfl) (Nat.le_of_ble_eq_true rfl) (Nat.le_of_ble_eq_true rfl) hlocks (fun t ha h1 h2 => ⟨(), trivial, ⟨rfl, fun k9 q9 h9 => (hw.2.1 k9 q9 h9).kept (h2 _ (hw.2.1 k9 q9 h9).lt)⟩, Nat.le_trans hw.2.2.2.1.1 h1, fun q hq hn => (h2 q (Nat.lt_of_lt_of_le hq hw.2.2.2.1.1)).trans (hw.2.2.2.1.2.1 q hq hn)⟩) hw.2.2.2.1.2.2 (Nat.le_of_ble_eq_true rfl) (Nat.le_of_ble_eq_true rfl)
abbrev wr_X9_person : List (Nat × Nat) := []
abbrev wa_X9_person : List Nat := []
set_option maxHeartbeats 4000000 in
set_option maxRecDepth 100000 in
theorem c_X9_person (l : Launch) (hl0 : l.stackTraces = false) (D : va_G) (cy : Nat → ClassId) (z : Nat → Nat) (sz : Nat) (Ps : PSI) (w0 : va_W) (hT : HT cy GG Ps w0) (p0 : Nat) (p1 : Int32) (p2 : Int32) (h_p0 : (p0, 33) ∈ Ps) (r_p1 : RI p1 (-2147483648) 2147483647) (r_p2 : RI p2 (-2147483648) 2147483647) : vx_Met l yX9_person (Cond.code yX9_person cX9_person 3 (some .int) :: gT) ({ frames := 8, cells := 1, slots := 6, locals := 1000 } : Room) (va_Pc [.ref p0, .int p1, .int p2] (PREE D cy z w0 sz)) (va_Qi (fun (r : Int32) (u : Unit) => RI r (-2147483648) 2147483647 ∧ (r = 0 → True) ∧ (¬ r = 0 → True)) (BB D cy (va_A w0 sz) (fun (u : Unit) => w0)) (va_A w0 sz)) (vx_X (fun (u : Unit) => True) (fun E u t => E = nse ∧ va_P D classes w0 t.heap) (va_A w0 sz)) 1 6 (va_A w0 sz) := by
  refine vx_ofW (cc := cX9_person) (maxL := 3) (ret := (some .int)) (by decide) rfl ?_
  intro p e s m args below meth c s₁ B hml htab hv
  obtain ⟨rfl, ⟨hsz, hP, hK, hD0, hSD⟩, hSE⟩ := hv
  have hx := B.exec
  have hb := B.bytes
  have hr := B.returns
  have hlocks := B.notSynchronized
  have hts : ∀ w ∈ gT, w.before _ s = true := fun w h => atoms_spec (ws := Cond.code yX9_person cX9_person 3 (some .int) :: gT) B.pre w (List.mem_cons_of_mem _ h)
  have hown : s.vm.findClass RX9 = some m.cls := findClass_of_methodNamed B.named
  subst hsz
  have hD := hD0.self (sz := s.heap.size)
  generalize hAe : va_A w0 s.heap.size = A at hD hSD hSE ⊢
  have hA : ∀ q : Nat, s.heap.size ≤ q → A q := fun q h => by rw [← hAe]; exact Or.inr h
  have hl := lv_entry ([.ref p0, .int p1, .int p2]) (n := 3) (Nat.le_of_ble_eq_true rfl)
  rw [lg_entry_eq]
  generalize (lg_sl ([.ref p0, .int p1, .int p2]) ++ List.replicate (3 - (lg_sl ([.ref p0, .int p1, .int p2])).length) Slot.unset).toArray = ls at hl ⊢
  have hl : lv_has ls 3 [(0, .ref p0), (1, .int p1), (2, .int p2)] := hl
  refine nameQ (fun Q hQ => ?_)
  have hw : WD D cy GG A s wr_X9_person wa_X9_person Ps w0 Ps w0 s.heap [] := ⟨hT, hP, hD, va_S.rf, FR.rf, hT.1, [], (List.append_nil _).symm⟩
  refine lv_aload_n hx hb dX9_person_0 rfl (lv_at hl 0 rfl) ?_
  refine lv_iconst (v := 3) hx hb dX9_person_1 (by decide) ?_
  refine lv_iload_n hx hb dX9_person_2 rfl (lv_at hl 1 rfl) ?_
  refine tk_ir (va_runV (As := [.int 3, .int p1]) (rest := []) ⟨hx, hb, hml, hown, hts⟩ (c_X9_isOf__2 l D cy z s.heap.size Ps w0 hw.1 p0 3 p1 h_p0 rl_3 r_p1) (cwV 2 hts (gV tw_540 tw_542 ts_10 tw_1 tw_543) rfl rfl rfl (by decide +kernel) ⟨Nat.le_of_ble_eq_true rfl, Nat.le_of_ble_eq_true rfl⟩) (tg_preV hw hK hSD hA (ci := 9) (q := (RX9, TX9, 15)) rfl h_p0 rfl) rfl rfl hl.1 rfl (lv_room (Nat.le_of_ble_eq_true rfl)) dX9_person_3 ⟨Nat.le_of_ble_eq_true rfl, Nat.le_of_ble_eq_true rfl⟩) hw hA (fun v_1  H locs hp_v_1 hw => ?_)
  have r_v_1 : RI v_1 0 1 := hp_v_1.1
  refine lv_if_ne (tgt := 19) hx hb dX9_person_6 (by decide) (fun c_6 => ?_) (fun c_6 => ?_)
  · have r_v_1 : RI v_1 1 1 := rc_neL r_v_1 rl_0 (ti_ne c_6) (by decide)
    have r_p1 : RI p1 0 7 := ((hp_v_1.2.2 c_6).1)
    refine lv_iload_n hx hb dX9_person_19 rfl (lv_at hl 2 rfl) ?_
    have w_20 := r_p2
    by_cases cl_20 : p2.toInt < 0 ∨ 4 < p2.toInt
    · refine lv_tableOut (tgt := 109) hx hb dX9_person_20 cl_20 (by decide) ?_
      subst hQ
      exact vy_throwS nse0 nse1 nse2 nse5 (names := nseN) (text := "no such thing of a person") (sa := z 6) hx hb hl0 hown (by decide +kernel) (by decide +kernel) (hts _ cl132) (hts _ ini21) hSE.1.2.2.2.2.2.2 (vx_hat (B := dW) (fun w9 h9 => hts w9 (atP w9 h9)) atN (fun w9 h9 => hSE.1.dw h9)) atG hSE.1.2.1 hSE.1.2.2.1 hw.2.2.2.1 (hl.1.trans hml.symm) dX9_person_109 dX9_person_112 dX9_person_113 dX9_person_115 dX9_person_118 (fun x9 h9 => (htab x9 h9).elim) (Nat.le_of_ble_eq_true rfl) (Nat.le_of_ble_eq_true rfl) (Nat.le_of_ble_eq_true rfl) (Nat.le_of_ble_eq_true rfl) hlocks (fun t ha h1 h2 => ⟨(), trivial, ⟨rfl, fun k9 q9 h9 => (hw.2.1 k9 q9 h9).kept (h2 _ (hw.2.1 k9 q9 h9).lt)⟩, Nat.le_trans hw.2.2.2.1.1 h1, fun q hq hn => (h2 q (Nat.lt_of_lt_of_le hq hw.2.2.2.1.1)).trans (hw.2.2.2.1.2.1 q hq hn)⟩) hw.2.2.2.1.2.2 (Nat.le_of_ble_eq_true rfl) (Nat.le_of_ble_eq_true rfl)
    · have e_20 : p2.toInt = 0 ∨ p2.toInt = 1 ∨ p2.toInt = 2 ∨ p2.toInt = 3 ∨ p2.toInt = 4 := by omega
      rcases e_20 with h_20 | h_20 | h_20 | h_20 | h_20
      · refine lv_tableIn (tgt := 56) (off := 36) hx hb dX9_person_20 (by omega) (by omega) (by rw [h_20]; rfl) (by decide) ?_
        have r_p2 : RI p2 0 0 := ⟨by omega, by omega⟩
        refine lv_aload_n hx hb dX9_person_56 rfl (lv_at hl 0 rfl) ?_
        refine tg_get (ci := 9) (ts := ty_WP) (C := RX9) (T := TX9) (N := 15) hx hb hts inX9 hown hK hw h_p0 rfl rfl 1 (by decide) (hts _ tw_347) (fun _ h9 => h9) (ft := vR 24) rfl dX9_person_57 (fun u_2 hv_u_2 m_u_2 => ?_)
        obtain ⟨vu_2, rfl, h_vu_2⟩ := hv_u_2
        refine tg_getN (ci := 8) (ts := ty_WORLD) (C := RX8) (T := TX8) (N := 13) hx hb hts inX8 hown hK hw h_vu_2 rfl rfl 7 (by decide) (hSD.nest tn_267) (fun _ h9 => h9) (ft := vR 11) rfl dX9_person_60 (fun u_3 hv_u_3 m_u_3 => ?_)
        obtain ⟨vu_3, rfl, h_vu_3⟩ := hv_u_3
        refine lv_iload_n hx hb dX9_person_63 rfl (lv_at hl 1 rfl) ?_
        refine tg_iald (lo := 0) (hi := 5) hx hb hK hw h_vu_3 rfl 0 7 r_p1 (by decide) (by exact fun _ _ _ => ⟨Int.le_refl _, Int.le_refl _⟩) dX9_person_64 (fun v_4 r_v_4 m_v_4 o_v_4 => ?_)
        subst hQ
        refine W.widen (k := 1) (n := 6) (Nat.le_of_ble_eq_true rfl) (Nat.le_of_ble_eq_true rfl) ?_
        exact vx_ret (W.iret (v := v_4) hx hb hr (fun t ht hW => ⟨⟨v_4, (), rfl, ⟨r_v_4.to (by decide), (fun h0 => trivial), (fun h0 => trivial)⟩, by rw [ht]; exact hw.2.1, va_K.moved hW.alike hK, hw.2.2.1⟩, hw.2.2.2.1.F ht⟩) hw.2.2.2.1.2.2 dX9_person_65)
      · refine lv_tableIn (tgt := 66) (off := 46) hx hb dX9_person_20 (by omega) (by omega) (by rw [h_20]; rfl) (by decide) ?_
        have r_p2 : RI p2 1 1 := ⟨by omega, by omega⟩
        refine lv_aload_n hx hb dX9_person_66 rfl (lv_at hl 0 rfl) ?_
        refine tg_get (ci := 9) (ts := ty_WP) (C := RX9) (T := TX9) (N := 15) hx hb hts inX9 hown hK hw h_p0 rfl rfl 1 (by decide) (hts _ tw_347) (fun _ h9 => h9) (ft := vR 24) rfl dX9_person_67 (fun u_5 hv_u_5 m_u_5 => ?_)
        obtain ⟨vu_5, rfl, h_vu_5⟩ := hv_u_5
        refine tg_getN (ci := 8) (ts := ty_WORLD) (C := RX8) (T := TX8) (N := 13) hx hb hts inX8 hown hK hw h_vu_5 rfl rfl 0 (by decide) (hSD.nest tn_249) (fun _ h9 => h9) (ft := vR 25) rfl dX9_person_70 (fun u_6 hv_u_6 m_u_6 => ?_)
        obtain ⟨vu_6, rfl, h_vu_6⟩ := hv_u_6
        refine tg_getN (ci := 3) (ts := ty_POST) (C := RX3) (T := TX3) (N := 9) hx hb hts inX3 hown hK hw h_vu_6 rfl rfl 4 (by decide) (hSD.nest tn_211) (fun _ h9 => h9) (ft := vR 7) rfl dX9_person_73 (fun u_7 hv_u_7 m_u_7 => ?_)
        obtain ⟨vu_7, rfl, h_vu_7⟩ := hv_u_7
        refine lv_iload_n hx hb dX9_person_76 rfl (lv_at hl 1 rfl) ?_
        refine tg_iald (lo := (-2147483648)) (hi := 2147483647) hx hb hK hw h_vu_7 rfl 0 7 r_p1 (by decide) (by exact fun _ _ _ => ⟨Int.le_refl _, Int.le_refl _⟩) dX9_person_77 (fun v_8 r_v_8 m_v_8 o_v_8 => ?_)
        subst hQ
        refine W.widen (k := 1) (n := 6) (Nat.le_of_ble_eq_true rfl) (Nat.le_of_ble_eq_true rfl) ?_
        exact vx_ret (W.iret (v := v_8) hx hb hr (fun t ht hW => ⟨⟨v_8, (), rfl, ⟨r_v_8.to (by decide), (fun h0 => trivial), (fun h0 => trivial)⟩, by rw [ht]; exact hw.2.1, va_K.moved hW.alike hK, hw.2.2.1⟩, hw.2.2.2.1.F ht⟩) hw.2.2.2.1.2.2 dX9_person_78)
      · refine lv_tableIn (tgt := 79) (off := 59) hx hb dX9_person_20 (by omega) (by omega) (by rw [h_20]; rfl) (by decide) ?_
        have r_p2 : RI p2 2 2 := ⟨by omega, by omega⟩
        refine lv_aload_n hx hb dX9_person_79 rfl (lv_at hl 0 rfl) ?_
        refine tg_get (ci := 9) (ts := ty_WP) (C := RX9) (T := TX9) (N := 15) hx hb hts inX9 hown hK hw h_p0 rfl rfl 1 (by decide) (hts _ tw_347) (fun _ h9 => h9) (ft := vR 24) rfl dX9_person_80 (fun u_9 hv_u_9 m_u_9 => ?_)
        obtain ⟨vu_9, rfl, h_vu_9⟩ := hv_u_9
        refine tg_getN (ci := 8) (ts := ty_WORLD) (C := RX8) (T := TX8) (N := 13) hx hb hts inX8 hown hK hw h_vu_9 rfl rfl 8 (by decide) (hSD.nest tn_269) (fun _ h9 => h9) (ft := vR 12) rfl dX9_person_83 (fun u_10 hv_u_10 m_u_10 => ?_)
        obtain ⟨vu_10, rfl, h_vu_10⟩ := hv_u_10
        refine lv_iload_n hx hb dX9_person_86 rfl (lv_at hl 1 rfl) ?_
        refine tg_iald (lo := (-1)) (hi := 5) hx hb hK hw h_vu_10 rfl 0 7 r_p1 (by decide) (by exact fun _ _ _ => ⟨Int.le_refl _, Int.le_refl _⟩) dX9_person_87 (fun v_11 r_v_11 m_v_11 o_v_11 => ?_)
        subst hQ
        refine W.widen (k := 1) (n := 6) (Nat.le_of_ble_eq_true rfl) (Nat.le_of_ble_eq_true rfl) ?_
        exact vx_ret (W.iret (v := v_11) hx hb hr (fun t ht hW => ⟨⟨v_11, (), rfl, ⟨r_v_11.to (by decide), (fun h0 => trivial), (fun h0 => trivial)⟩, by rw [ht]; exact hw.2.1, va_K.moved hW.alike hK, hw.2.2.1⟩, hw.2.2.2.1.F ht⟩) hw.2.2.2.1.2.2 dX9_person_88)
      · refine lv_tableIn (tgt := 89) (off := 69) hx hb dX9_person_20 (by omega) (by omega) (by rw [h_20]; rfl) (by decide) ?_
        have r_p2 : RI p2 3 3 := ⟨by omega, by omega⟩
        refine lv_aload_n hx hb dX9_person_89 rfl (lv_at hl 0 rfl) ?_
        refine tg_get (ci := 9) (ts := ty_WP) (C := RX9) (T := TX9) (N := 15) hx hb hts inX9 hown hK hw h_p0 rfl rfl 1 (by decide) (hts _ tw_347) (fun _ h9 => h9) (ft := vR 24) rfl dX9_person_90 (fun u_12 hv_u_12 m_u_12 => ?_)
        obtain ⟨vu_12, rfl, h_vu_12⟩ := hv_u_12
        refine tg_getN (ci := 8) (ts := ty_WORLD) (C := RX8) (T := TX8) (N := 13) hx hb hts inX8 hown hK hw h_vu_12 rfl rfl 9 (by decide) (hSD.nest tn_272) (fun _ h9 => h9) (ft := vR 13) rfl dX9_person_93 (fun u_13 hv_u_13 m_u_13 => ?_)
        obtain ⟨vu_13, rfl, h_vu_13⟩ := hv_u_13
        refine lv_iload_n hx hb dX9_person_96 rfl (lv_at hl 1 rfl) ?_
        refine tg_iald (lo := (-2147483648)) (hi := 2147483647) hx hb hK hw h_vu_13 rfl 0 7 r_p1 (by decide) (by exact fun _ _ _ => ⟨Int.le_refl _, Int.le_refl _⟩) dX9_person_97 (fun v_14 r_v_14 m_v_14 o_v_14 => ?_)
        subst hQ
        refine W.widen (k := 1) (n := 6) (Nat.le_of_ble_eq_true rfl) (Nat.le_of_ble_eq_true rfl) ?_
        exact vx_ret (W.iret (v := v_14) hx hb hr (fun t ht hW => ⟨⟨v_14, (), rfl, ⟨r_v_14.to (by decide), (fun h0 => trivial), (fun h0 => trivial)⟩, by rw [ht]; exact hw.2.1, va_K.moved hW.alike hK, hw.2.2.1⟩, hw.2.2.2.1.F ht⟩) hw.2.2.2.1.2.2 dX9_person_98)
      · refine lv_tableIn (tgt := 99) (off := 79) hx hb dX9_person_20 (by omega) (by omega) (by rw [h_20]; rfl) (by decide) ?_
        have r_p2 : RI p2 4 4 := ⟨by omega, by omega⟩
        refine lv_aload_n hx hb dX9_person_99 rfl (lv_at hl 0 rfl) ?_
        refine tg_get (ci := 9) (ts := ty_WP) (C := RX9) (T := TX9) (N := 15) hx hb hts inX9 hown hK hw h_p0 rfl rfl 1 (by decide) (hts _ tw_347) (fun _ h9 => h9) (ft := vR 24) rfl dX9_person_100 (fun u_15 hv_u_15 m_u_15 => ?_)
        obtain ⟨vu_15, rfl, h_vu_15⟩ := hv_u_15
        refine tg_getN (ci := 8) (ts := ty_WORLD) (C := RX8) (T := TX8) (N := 13) hx hb hts inX8 hown hK hw h_vu_15 rfl rfl 10 (by decide) (hSD.nest tn_274) (fun _ h9 => h9) (ft := vR 13) rfl dX9_person_103 (fun u_16 hv_u_16 m_u_16 => ?_)
        obtain ⟨vu_16, rfl, h_vu_16⟩ := hv_u_16
        refine lv_iload_n hx hb dX9_person_106 rfl (lv_at hl 1 rfl) ?_
        refine tg_iald (lo := (-2147483648)) (hi := 2147483647) hx hb hK hw h_vu_16 rfl 0 7 r_p1 (by decide) (by exact fun _ _ _ => ⟨Int.le_refl _, Int.le_refl _⟩) dX9_person_107 (fun v_17 r_v_17 m_v_17 o_v_17 => ?_)
        subst hQ
        refine W.widen (k := 1) (n := 6) (Nat.le_of_ble_eq_true rfl) (Nat.le_of_ble_eq_true rfl) ?_
        exact vx_ret (W.iret (v := v_17) hx hb hr (fun t ht hW => ⟨⟨v_17, (), rfl, ⟨r_v_17.to (by decide), (fun h0 => trivial), (fun h0 => trivial)⟩, by rw [ht]; exact hw.2.1, va_K.moved hW.alike hK, hw.2.2.1⟩, hw.2.2.2.1.F ht⟩) hw.2.2.2.1.2.2 dX9_person_108)
  · have r_v_1 : RI v_1 0 0 := rc_eq1 r_v_1 rl_0 (ti_eq c_6) (by decide)
    subst hQ
    exact vy_throwS nse0 nse1 nse2 nse5 (names := nseN) (text := "no such person") (sa := z 4) hx hb hl0 hown (by decide +kernel) (by decide +kernel) (hts _ cl132) (hts _ ini21) hSE.1.2.2.2.2.1 (vx_hat (B := dW) (fun w9 h9 => hts w9 (atP w9 h9)) atN (fun w9 h9 => hSE.1.dw h9)) atG hSE.1.2.1 hSE.1.2.2.1 hw.2.2.2.1 (hl.1.trans hml.symm) dX9_person_9 dX9_person_12 dX9_person_13 dX9_person_15 dX9_person_18 (fun x9 h9 => (htab x9 h9).elim) (Nat.le_of_ble_eq_true rfl) (Nat.le_of_ble_eq_true rfl) (Nat.le_of_ble_eq_true rfl) (Nat.le_of_ble_eq_true rfl) hlocks (fun t ha h1 h2 => ⟨(), trivial, ⟨rfl, fun k9 q9 h9 => (hw.2.1 k9 q9 h9).kept (h2 _ (hw.2.1 k9 q9 h9).lt)⟩, Nat.le_trans hw.2.2.2.1.1 h1, fun q hq hn => (h2 q (Nat.lt_of_lt_of_le hq hw.2.2.2.1.1)).trans (hw.2.2.2.1.2.1 q hq hn)⟩) hw.2.2.2.1.2.2 (Nat.le_of_ble_eq_true rfl) (Nat.le_of_ble_eq_true rfl)
set_option maxHeartbeats 4000000 in
set_option maxRecDepth 100000 in
theorem c_Z_parcel (l : Launch) (hl0 : l.stackTraces = false) (D : va_G) (cy : Nat → ClassId) (z : Nat → Nat) (sz : Nat) (Ps : PSI) (w0 : va_W) (hT : HT cy GG Ps w0) (x : Nat) (v v2 : Int32) (o : Nat) (h_x : (x, 33) ∈ Ps) (h_o : (o, 56) ∈ Ps) : vx_Met l yL_parcel (Cond.codeWith yL_parcel cL_parcel 5 (some .int) [(0, 10, 13, 13)] :: gT) ({ frames := 10, cells := 1, slots := 6, locals := 2000 } : Room) (va_Pc [.ref x, .int v, .int v2, .ref o] (PREE D cy z w0 sz)) (va_Qi (fun (r : Int32) (u : va_W) => True ∧ HT cy GG Ps u ∧ FR [] [56] Ps w0 u) (BB D cy (va_A w0 sz) (fun (u : va_W) => u)) (va_A w0 sz)) (vx_X (fun (u : Unit) => False) (fun E u t => True) (va_A w0 sz)) 1 6 (va_A w0 sz) := by
  refine vx_ofWH (cc := cL_parcel) (maxL := 5) (ret := (some .int)) (hh := [(0, 10, 13, 13)]) (by decide) rfl ?_
  intro p e s m args below meth c s₁ B hml hv
  obtain ⟨rfl, ⟨hsz, hP, hK, hD0, hSD⟩, hSE⟩ := hv
  have hx := B.exec
  have hb := B.bytes
  have hr := B.returns
  have hlocks := B.notSynchronized
  have hts0 := atoms_spec (ws := Cond.codeWith yL_parcel cL_parcel 5 (some .int) [(0, 10, 13, 13)] :: gT) B.pre
  have hts : ∀ w ∈ gT, w.before _ s = true := fun w h => hts0 w (List.mem_cons_of_mem _ h)
  have hown : s.vm.findClass RL = some m.cls := findClass_of_methodNamed B.named
  subst hsz
  have hD := hD0.self (sz := s.heap.size)
  generalize hAe : va_A w0 s.heap.size = A at hD hSD hSE ⊢
  have hA : ∀ q : Nat, s.heap.size ≤ q → A q := fun q h => by rw [← hAe]; exact Or.inr h
  have hl := lv_entry ([.ref x, .int v, .int v2, .ref o]) (n := 5) (Nat.le_of_ble_eq_true rfl)
  rw [lg_entry_eq]
  generalize (lg_sl ([.ref x, .int v, .int v2, .ref o]) ++ List.replicate (5 - (lg_sl ([.ref x, .int v, .int v2, .ref o])).length) Slot.unset).toArray = ls at hl ⊢
  have hl : lv_has ls 5 [(0, .ref x), (1, .int v), (2, .int v2), (3, .ref o)] := hl
  have hw : WD D cy GG A s [] [56] Ps w0 Ps w0 s.heap [] := ⟨hT, hP, hD, va_S.rf, FR.rf, hT.1, [], (List.append_nil _).symm⟩
  refine lv_aload_n hx hb dL_parcel_0 rfl (lv_at hl 3 rfl) ?_
  refine lv_iconst (v := 0) hx hb dL_parcel_1 (by decide) ?_
  refine lv_aload_n hx hb dL_parcel_2 rfl (lv_at hl 0 rfl) ?_
  refine lv_iload_n hx hb dL_parcel_3 rfl (lv_at hl 1 rfl) ?_
  refine lv_iload_n hx hb dL_parcel_4 rfl (lv_at hl 2 rfl) ?_
  have hFc := tg_free hw hA
  refine vx_calli (vx_runV (As := [.int v, .int v2]) (rest := [.int 0, .ref o]) ⟨hx, hb, hml, hown, hts⟩ (c_X9_parcel l hl0 D cy z s.heap.size Ps w0 hT x v v2 h_x (ri_any v) (ri_any v2)) (cwV 2 hts (gV tw_1039 tw_1040 tw_1041 tw_1 tw_1042) rfl rfl rfl (by decide +kernel) ⟨Nat.le_of_ble_eq_true rfl, Nat.le_of_ble_eq_true rfl⟩) (tg_preVE hw hK hSD hSE hA (ci := 9) (q := (RX9, TX9, 15)) rfl h_x rfl) rfl rfl hl.1 rfl (lv_room (Nat.le_of_ble_eq_true rfl)) dL_parcel_5 ⟨Nat.le_of_ble_eq_true rfl, Nat.le_of_ble_eq_true rfl⟩) hw.2.2.2.1 (fun q _ h => hFc q h) hFc (fun q _ h => hFc q h) (fun E ce q9 u t H1 locs1 ht ha hp hBX hz1 hk1 hS1 hcell hcv hcl => ?_) (fun r u t H1 locs1 ht ha hp hB hz1 hk1 hS1 => ?_)
  · obtain ⟨hE, hPt⟩ := (show E = nse ∧ va_P D classes w0 t.heap from hBX)
    subst hE
    refine vx_catch (name := nse) hown [] { startPc := 0, endPc := 10, handlerPc := 13, catchType := 13 } [] (by rw [vx_table (x := yX9_fault) B (hts0 _ List.mem_cons_self)]; rfl) (fun z9 h9 => nomatch h9) (by decide) (by decide) (hts _ cl13) (hSE.1.dw castN) hcell hcv hcl ?_
    refine lv_astore (lv' := [(4, .ref q9), (0, .ref x), (1, .int v), (2, .int v2), (3, .ref o)]) hx hb dL_parcel_13 hl (by decide) rfl (fun ls hl => ?_)
    refine lv_iconst (v := 1) hx hb dL_parcel_15 (by decide) ?_
    refine W.widen (k := 1) (n := 6) (Nat.le_of_ble_eq_true rfl) (Nat.le_of_ble_eq_true rfl) ?_
    exact vx_ret (W.iret (v := 1) hx hb hr (fun t9 ht9 hW => ⟨⟨1, w0, rfl, ⟨trivial, hT, FR.rf⟩, by rw [ht9, ← ht]; exact hPt, va_K.moved hW.alike hK, hD⟩, hS1.F ht9⟩) hS1.2.2 dL_parcel_16)
  · obtain ⟨hP1, -, hD1⟩ := hB
    rw [ht] at hP1
    have hw : WD D cy GG A s [] [56] Ps w0 Ps w0 H1 locs1 := ⟨hT, hP1, hD, hS1, FR.rf, hT.1, [], (List.append_nil _).symm⟩
    obtain ⟨w9, e9⟩ : ∃ q9 : Int64, (r : Int32).toInt64 = q9 := ⟨_, rfl⟩
    refine lv_i2l (v := w9) hx hb dL_parcel_8 e9 ?_
    refine tg_last hx hb hK hw h_o rfl rl_0 (by decide) (rj_any w9) (by decide) (by decide) dL_parcel_9 (fun ws H locs hw hF9 => ?_)
    refine lv_goto (tgt := 17) hx hb dL_parcel_10 (by decide) ?_
    refine lv_iconst (v := 0) hx hb dL_parcel_17 (by decide) ?_
    refine W.widen (k := 1) (n := 6) (Nat.le_of_ble_eq_true rfl) (Nat.le_of_ble_eq_true rfl) ?_
    exact vx_ret (W.iret (v := 0) hx hb hr (fun t9 ht9 hW => ⟨⟨0, ws, rfl, ⟨trivial, hw.1, hw.2.2.2.2.1⟩, by rw [ht9]; exact hw.2.1, va_K.moved hW.alike hK, hw.2.2.1⟩, hw.2.2.2.1.F ht9⟩) hw.2.2.2.1.2.2 dL_parcel_18)
set_option maxHeartbeats 4000000 in
set_option maxRecDepth 100000 in
theorem c_Z_person (l : Launch) (hl0 : l.stackTraces = false) (D : va_G) (cy : Nat → ClassId) (z : Nat → Nat) (sz : Nat) (Ps : PSI) (w0 : va_W) (hT : HT cy GG Ps w0) (x : Nat) (v v2 : Int32) (o : Nat) (h_x : (x, 33) ∈ Ps) (h_o : (o, 56) ∈ Ps) : vx_Met l yL_person (Cond.codeWith yL_person cL_person 5 (some .int) [(0, 10, 13, 13)] :: gT) ({ frames := 10, cells := 1, slots := 6, locals := 2000 } : Room) (va_Pc [.ref x, .int v, .int v2, .ref o] (PREE D cy z w0 sz)) (va_Qi (fun (r : Int32) (u : va_W) => True ∧ HT cy GG Ps u ∧ FR [] [56] Ps w0 u) (BB D cy (va_A w0 sz) (fun (u : va_W) => u)) (va_A w0 sz)) (vx_X (fun (u : Unit) => False) (fun E u t => True) (va_A w0 sz)) 1 6 (va_A w0 sz) := by
  refine vx_ofWH (cc := cL_person) (maxL := 5) (ret := (some .int)) (hh := [(0, 10, 13, 13)]) (by decide) rfl ?_
  intro p e s m args below meth c s₁ B hml hv
  obtain ⟨rfl, ⟨hsz, hP, hK, hD0, hSD⟩, hSE⟩ := hv
  have hx := B.exec
  have hb := B.bytes
  have hr := B.returns
  have hlocks := B.notSynchronized
  have hts0 := atoms_spec (ws := Cond.codeWith yL_person cL_person 5 (some .int) [(0, 10, 13, 13)] :: gT) B.pre
  have hts : ∀ w ∈ gT, w.before _ s = true := fun w h => hts0 w (List.mem_cons_of_mem _ h)
  have hown : s.vm.findClass RL = some m.cls := findClass_of_methodNamed B.named
  subst hsz
  have hD := hD0.self (sz := s.heap.size)
  generalize hAe : va_A w0 s.heap.size = A at hD hSD hSE ⊢
  have hA : ∀ q : Nat, s.heap.size ≤ q → A q := fun q h => by rw [← hAe]; exact Or.inr h
  have hl := lv_entry ([.ref x, .int v, .int v2, .ref o]) (n := 5) (Nat.le_of_ble_eq_true rfl)
  rw [lg_entry_eq]
  generalize (lg_sl ([.ref x, .int v, .int v2, .ref o]) ++ List.replicate (5 - (lg_sl ([.ref x, .int v, .int v2, .ref o])).length) Slot.unset).toArray = ls at hl ⊢
  have hl : lv_has ls 5 [(0, .ref x), (1, .int v), (2, .int v2), (3, .ref o)] := hl
  have hw : WD D cy GG A s [] [56] Ps w0 Ps w0 s.heap [] := ⟨hT, hP, hD, va_S.rf, FR.rf, hT.1, [], (List.append_nil _).symm⟩
  refine lv_aload_n hx hb dL_person_0 rfl (lv_at hl 3 rfl) ?_
  refine lv_iconst (v := 0) hx hb dL_person_1 (by decide) ?_
  refine lv_aload_n hx hb dL_person_2 rfl (lv_at hl 0 rfl) ?_
  refine lv_iload_n hx hb dL_person_3 rfl (lv_at hl 1 rfl) ?_
  refine lv_iload_n hx hb dL_person_4 rfl (lv_at hl 2 rfl) ?_
  have hFc := tg_free hw hA
  refine vx_calli (vx_runV (As := [.int v, .int v2]) (rest := [.int 0, .ref o]) ⟨hx, hb, hml, hown, hts⟩ (c_X9_person l hl0 D cy z s.heap.size Ps w0 hT x v v2 h_x (ri_any v) (ri_any v2)) (cwV 2 hts (gV tw_1113 tw_1114 tw_1115 tw_1 tw_1116) rfl rfl rfl (by decide +kernel) ⟨Nat.le_of_ble_eq_true rfl, Nat.le_of_ble_eq_true rfl⟩) (tg_preVE hw hK hSD hSE hA (ci := 9) (q := (RX9, TX9, 15)) rfl h_x rfl) rfl rfl hl.1 rfl (lv_room (Nat.le_of_ble_eq_true rfl)) dL_person_5 ⟨Nat.le_of_ble_eq_true rfl, Nat.le_of_ble_eq_true rfl⟩) hw.2.2.2.1 (fun q _ h => hFc q h) hFc (fun q _ h => hFc q h) (fun E ce q9 u t H1 locs1 ht ha hp hBX hz1 hk1 hS1 hcell hcv hcl => ?_) (fun r u t H1 locs1 ht ha hp hB hz1 hk1 hS1 => ?_)
  · obtain ⟨hE, hPt⟩ := (show E = nse ∧ va_P D classes w0 t.heap from hBX)
    subst hE
    refine vx_catch (name := nse) hown [] { startPc := 0, endPc := 10, handlerPc := 13, catchType := 13 } [] (by rw [vx_table (x := yX9_fault) B (hts0 _ List.mem_cons_self)]; rfl) (fun z9 h9 => nomatch h9) (by decide) (by decide) (hts _ cl13) (hSE.1.dw castN) hcell hcv hcl ?_
    refine lv_astore (lv' := [(4, .ref q9), (0, .ref x), (1, .int v), (2, .int v2), (3, .ref o)]) hx hb dL_person_13 hl (by decide) rfl (fun ls hl => ?_)
    refine lv_iconst (v := 1) hx hb dL_person_15 (by decide) ?_
    refine W.widen (k := 1) (n := 6) (Nat.le_of_ble_eq_true rfl) (Nat.le_of_ble_eq_true rfl) ?_
    exact vx_ret (W.iret (v := 1) hx hb hr (fun t9 ht9 hW => ⟨⟨1, w0, rfl, ⟨trivial, hT, FR.rf⟩, by rw [ht9, ← ht]; exact hPt, va_K.moved hW.alike hK, hD⟩, hS1.F ht9⟩) hS1.2.2 dL_person_16)
  · obtain ⟨hP1, -, hD1⟩ := hB
    rw [ht] at hP1
    have hw : WD D cy GG A s [] [56] Ps w0 Ps w0 H1 locs1 := ⟨hT, hP1, hD, hS1, FR.rf, hT.1, [], (List.append_nil _).symm⟩
    obtain ⟨w9, e9⟩ : ∃ q9 : Int64, (r : Int32).toInt64 = q9 := ⟨_, rfl⟩
    refine lv_i2l (v := w9) hx hb dL_person_8 e9 ?_
    refine tg_last hx hb hK hw h_o rfl rl_0 (by decide) (rj_any w9) (by decide) (by decide) dL_person_9 (fun ws H locs hw hF9 => ?_)
    refine lv_goto (tgt := 17) hx hb dL_person_10 (by decide) ?_
    refine lv_iconst (v := 0) hx hb dL_person_17 (by decide) ?_
    refine W.widen (k := 1) (n := 6) (Nat.le_of_ble_eq_true rfl) (Nat.le_of_ble_eq_true rfl) ?_
    exact vx_ret (W.iret (v := 0) hx hb hr (fun t9 ht9 hW => ⟨⟨0, ws, rfl, ⟨trivial, hw.1, hw.2.2.2.2.1⟩, by rw [ht9]; exact hw.2.1, va_K.moved hW.alike hK, hw.2.2.1⟩, hw.2.2.2.1.F ht9⟩) hw.2.2.2.1.2.2 dL_person_18)
