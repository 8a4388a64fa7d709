abbrev wrL : List (Nat × Nat) := [(0, 3), (0, 4), (1, 1), (1, 2), (2, 1), (2, 2), (3, 5), (3, 6), (3, 7), (3, 8), (5, 3), (5, 4), (6, 1), (7, 2), (7, 3), (7, 4), (7, 5), (7, 6), (7, 7), (7, 8), (7, 9), (7, 10), (7, 11), (8, 0), (8, 1), (8, 12), (9, 5), (9, 11), (9, 12), (9, 13), (9, 14), (10, 0), (10, 2), (10, 3), (10, 4), (10, 5), (10, 6), (10, 7), (10, 8), (10, 9), (10, 10), (10, 11), (10, 12), (10, 13), (10, 25), (10, 27), (10, 29), (10, 30), (10, 33), (10, 34), (10, 36), (10, 38), (10, 39), (10, 42), (10, 43), (10, 45), (10, 46), (10, 47), (10, 48)]
abbrev waL : List Nat := [1, 2, 3, 4, 5, 6, 7, 8, 9, 10, 11, 12, 13, 14, 15, 16, 17, 18, 19, 20, 21, 34, 35, 36, 37, 38, 39, 40, 41, 42, 43, 44, 45, 46, 47, 48, 49, 50, 51, 52, 53, 54, 56]
theorem FR.nil {wr : List (Nat × Nat)} {wa : List Nat} {ws : va_W} : FR wr wa [] [] ws := ⟨Nat.zero_le _, fun k a e h => by simp at h⟩
set_option maxHeartbeats 4000000 in
set_option maxRecDepth 100000 in
theorem op0 {p : Program} {e : Env} {s : State} {m : MethodId} {below : List Frame} {meth : Method} {c : Code} (l : Launch) (hl0 : l.stackTraces = false) {b L : Nat} {xs : Nat → Int32} (hx : p.tables.exec = Jvm.exec) (hb : c.code = code) (hml : c.maxLocals = 7) (hown : s.vm.findClass RL = some m.cls) (hts : ∀ w ∈ gT, w.before #[Value.ref b] s = true) (hX : va_X b L xs s s.heap) (hbl : b < s.heap.size) (D : va_G) (cy : Nat → ClassId) (z : Nat → Nat) (hK : va_K D classes (TY cy) s) (hSD : SD z (fun q : Nat => s.heap.size ≤ q) s) (hSE : SE z (fun q : Nat => s.heap.size ≤ q) s) {Ps : PSI} {ws : va_W} {H : Heap} {locs : List Loc} {x y o : Nat} (hw : WD D cy GG (fun q : Nat => s.heap.size ≤ q) s wrL waL [] [] Ps ws H locs) (h_x : (x, 33) ∈ Ps) (h_y : (y, 55) ∈ Ps) (h_o : (o, 56) ∈ Ps) {gh : Int} {gdT : Nat → Nat} {gdq : Nat → Nat} {gdg : Nat → Nat} {gdo : OS} {gdA : OS} {gdB : OS} {gda : Int32} {gdb : Int32} {gdR : Nat → Int32} {gdU : Nat → Int32} {gdV : Nat → Int32} {gdN : Nat → Nat} {gdNU : Nat → Nat} {gdNV : Nat → Nat} {gdL : Nat → Int64} {gdLU : Nat → Int64} {gdLV : Nat → Int64} {gdf : Int32} (x_TLX_x_gh : TLX ws x (gh)) (x_TLM_y_gh : TLM ws y (gh)) (x_BYX_x_gdT : BYX Ps ws x gdT) (x_BYM_y_gdT : BYM Ps ws y gdT) (x_WKX_x : WKX Ps ws x) (x_GWX_x_gdq : GWX ws x gdq) (x_GQ_gdq_gdg : GQ Ps ws gdq gdg) (x_HE_gdq_gdg_gdo_gdA_gdB_false_false : HE Ps ws gdq gdg gdo gdA gdB false false) (x_FLP_gdq_gda_gdb : FLP ws gdq gda gdb) (x_HD_y_gdR : AX 14 34 (HDp gdR) Ps ws y) (x_KP_y_gdU_gdV : AX 16 36 (KPp gdU gdV) Ps ws y) (x_ISA_y_gda_gdb : AX 23 44 (ISp gda gdb) Ps ws y) (x_NAM_y_gdL : AXL 20 41 (NMp gdL) Ps ws y) (x_KNM_y_gdLU_gdLV : AXL 22 43 (KNp gdLU gdLV) Ps ws y) (x_PDF_gdo_gdR_gdN : (PDO gdo gdR gdN)) (x_NLP_gdR_gdN_gdL : (NLC gdR gdN gdL)) (x_LKP_gda_gdA_gdU_gdNU_gdLU : (LKP gda gdA gdU gdNU gdLU)) (x_LKP_gdb_gdB_gdV_gdNV_gdLV : (LKP gdb gdB gdV gdNV gdLV)) (x_LF_x_gdf : FLD ws x 9 11 (.int gdf)) (x_MF_y_gdf : FLD ws y 10 10 (.int gdf)) {i : Int32} (r_i : RI i 0 3066) (hiL : i.toInt + 6 ≤ L) {C S : Nat} (hC : C + 6 ≤ 601024) (hSl : S + 125 ≤ 7293034) {ls : Array Slot} (hl : lv_has ls 7 [(4, .int i), (3, .ref o), (2, .ref y), (1, .ref x), (0, .ref b)]) {Q : State → Prop} (kx : ∀ (gh : Int) (gdT : Nat → Nat) (gdq : Nat → Nat) (gdg : Nat → Nat) (gdo : OS) (gdA : OS) (gdB : OS) (gda : Int32) (gdb : Int32) (gdR : Nat → Int32) (gdU : Nat → Int32) (gdV : Nat → Int32) (gdN : Nat → Nat) (gdNU : Nat → Nat) (gdNV : Nat → Nat) (gdL : Nat → Int64) (gdLU : Nat → Int64) (gdLV : Nat → Int64) (gdf : Int32) (Ps : PSI) (ws : va_W) (H : Heap) (locs : List Loc) (ls : Array Slot), WD D cy GG (fun q : Nat => s.heap.size ≤ q) s wrL waL [] [] Ps ws H locs → (x, 33) ∈ Ps → (y, 55) ∈ Ps → (o, 56) ∈ Ps → TLX ws x (gh) → TLM ws y (gh) → BYX Ps ws x gdT → BYM Ps ws y gdT → WKX Ps ws x → GWX ws x gdq → GQ Ps ws gdq gdg → HE Ps ws gdq gdg gdo gdA gdB false false → FLP ws gdq gda gdb → AX 14 34 (HDp gdR) Ps ws y → AX 16 36 (KPp gdU gdV) Ps ws y → AX 23 44 (ISp gda gdb) Ps ws y → AXL 20 41 (NMp gdL) Ps ws y → AXL 22 43 (KNp gdLU gdLV) Ps ws y → (PDO gdo gdR gdN) → (NLC gdR gdN gdL) → (LKP gda gdA gdU gdNU gdLU) → (LKP gdb gdB gdV gdNV gdLV) → FLD ws x 9 11 (.int gdf) → FLD ws y 10 10 (.int gdf) → lv_has ls 7 [(4, .int i), (3, .ref o), (2, .ref y), (1, .ref x), (0, .ref b)] → W p l e room_1 s m #[Value.ref b] below meth c H locs (C + 6) (S + 125) Q (F0 m 1335 ls [])) : W p l e room_1 s m #[Value.ref b] below meth c H locs C S Q (F0 m 220 ls []) := by
  have hA : ∀ q : Nat, s.heap.size ≤ q → (fun q : Nat => s.heap.size ≤ q) q := fun _ h => h
  have hbA : ¬ (fun q : Nat => s.heap.size ≤ q) b := Nat.not_le.mpr hbl
  refine lv_aload_n hx hb dL_law_220 rfl (lv_at hl 3 rfl) ?_
  refine lv_aload_n hx hb dL_law_221 rfl (lv_at hl 4 rfl) ?_
  refine lv_iload hx hb dL_law_222 (lv_at hl 0 rfl) ?_
  refine lv_iconst (v := 1) hx hb dL_law_224 (by decide) ?_
  refine lv_iadd hx hb dL_law_225 (lv_topi (fun v_1 e_v_1 => ?_))
  obtain ⟨t_v_1, r_v_1⟩ := tq_add (lo := 1) (hi := 3067) r_i rl_1 (by decide +kernel) e_v_1
  have t_v_1 : v_1.toInt = i.toInt + 1 := t_v_1
  refine va_sld hx hb hX hbl hbA hw.2.2.2.1 (i := v_1) (vp_in_iff.mpr ⟨by have k1 := r_v_1.1; omega, by have k1 := r_v_1.2; omega⟩) dL_law_226 ?_
  obtain ⟨v_2, e_v_2⟩ : ∃ q9 : Int32, xs (Int32.toNatClampNeg v_1) = q9 := ⟨_, rfl⟩
  refine tI e_v_2 ?_
  have r_v_2 := ri_any v_2
  refine lv_aload_n hx hb dL_law_227 rfl (lv_at hl 4 rfl) ?_
  refine lv_iload hx hb dL_law_228 (lv_at hl 0 rfl) ?_
  refine lv_iconst (v := 2) hx hb dL_law_230 (by decide) ?_
  refine lv_iadd hx hb dL_law_231 (lv_topi (fun v_3 e_v_3 => ?_))
  obtain ⟨t_v_3, r_v_3⟩ := tq_add (lo := 2) (hi := 3068) r_i rl_2 (by decide +kernel) e_v_3
  have t_v_3 : v_3.toInt = i.toInt + 2 := t_v_3
  refine va_sld hx hb hX hbl hbA hw.2.2.2.1 (i := v_3) (vp_in_iff.mpr ⟨by have k1 := r_v_3.1; omega, by have k1 := r_v_3.2; omega⟩) dL_law_232 ?_
  obtain ⟨v_4, e_v_4⟩ : ∃ q9 : Int32, xs (Int32.toNatClampNeg v_3) = q9 := ⟨_, rfl⟩
  refine tI e_v_4 ?_
  have r_v_4 := ri_any v_4
  refine lv_aload_n hx hb dL_law_233 rfl (lv_at hl 4 rfl) ?_
  refine lv_iload hx hb dL_law_234 (lv_at hl 0 rfl) ?_
  refine lv_iconst (v := 3) hx hb dL_law_236 (by decide) ?_
  refine lv_iadd hx hb dL_law_237 (lv_topi (fun v_5 e_v_5 => ?_))
  obtain ⟨t_v_5, r_v_5⟩ := tq_add (lo := 3) (hi := 3069) r_i rl_3 (by decide +kernel) e_v_5
  have t_v_5 : v_5.toInt = i.toInt + 3 := t_v_5
  refine va_sld hx hb hX hbl hbA hw.2.2.2.1 (i := v_5) (vp_in_iff.mpr ⟨by have k1 := r_v_5.1; omega, by have k1 := r_v_5.2; omega⟩) dL_law_238 ?_
  obtain ⟨v_6, e_v_6⟩ : ∃ q9 : Int32, xs (Int32.toNatClampNeg v_5) = q9 := ⟨_, rfl⟩
  refine tI e_v_6 ?_
  have r_v_6 := ri_any v_6
  refine lv_aload_n hx hb dL_law_239 rfl (lv_at hl 4 rfl) ?_
  refine lv_iload hx hb dL_law_240 (lv_at hl 0 rfl) ?_
  refine lv_iconst (v := 4) hx hb dL_law_242 (by decide) ?_
  refine lv_iadd hx hb dL_law_243 (lv_topi (fun v_7 e_v_7 => ?_))
  obtain ⟨t_v_7, r_v_7⟩ := tq_add (lo := 4) (hi := 3070) r_i rl_4 (by decide +kernel) e_v_7
  have t_v_7 : v_7.toInt = i.toInt + 4 := t_v_7
  refine va_sld hx hb hX hbl hbA hw.2.2.2.1 (i := v_7) (vp_in_iff.mpr ⟨by have k1 := r_v_7.1; omega, by have k1 := r_v_7.2; omega⟩) dL_law_244 ?_
  obtain ⟨v_8, e_v_8⟩ : ∃ q9 : Int32, xs (Int32.toNatClampNeg v_7) = q9 := ⟨_, rfl⟩
  refine tI e_v_8 ?_
  have r_v_8 := ri_any v_8
  refine lv_aload_n hx hb dL_law_245 rfl (lv_at hl 4 rfl) ?_
  refine lv_iload hx hb dL_law_246 (lv_at hl 0 rfl) ?_
  refine lv_iconst (v := 5) hx hb dL_law_248 (by decide) ?_
  refine lv_iadd hx hb dL_law_249 (lv_topi (fun v_9 e_v_9 => ?_))
  obtain ⟨t_v_9, r_v_9⟩ := tq_add (lo := 5) (hi := 3071) r_i rl_5 (by decide +kernel) e_v_9
  have t_v_9 : v_9.toInt = i.toInt + 5 := t_v_9
  refine va_sld hx hb hX hbl hbA hw.2.2.2.1 (i := v_9) (vp_in_iff.mpr ⟨by have k1 := r_v_9.1; omega, by have k1 := r_v_9.2; omega⟩) dL_law_250 ?_
  obtain ⟨v_10, e_v_10⟩ : ∃ q9 : Int32, xs (Int32.toNatClampNeg v_9) = q9 := ⟨_, rfl⟩
  refine tI e_v_10 ?_
  have r_v_10 := ri_any v_10
  refine tk_i (va_runV (As := [.int v_2, .int v_4, .int v_6, .int v_8, .int v_10]) (rest := []) ⟨hx, hb, hml, hown, hts⟩ (c_X9_feed__1 l D cy z H.size Ps ws hw.1 x v_2 v_4 v_6 v_8 v_10 (gh) (gdT) h_x r_v_2 r_v_4 r_v_6 r_v_8 r_v_10 x_TLX_x_gh x_BYX_x_gdT x_WKX_x) (cwV 5 hts (gV tw_392 tw_393 tw_394 tw_1 tw_395) rfl rfl rfl (by decide +kernel) ⟨Nat.le_of_ble_eq_true rfl, Nat.le_of_ble_eq_true rfl⟩) (tg_preV hw hK hSD hA (ci := 9) (q := (RX9, TX9, 15)) rfl h_x rfl) rfl rfl hl.1 rfl (lv_room (Nat.le_of_ble_eq_true rfl)) dL_law_251 ⟨by show _ ≤ 601024; omega, by show _ ≤ 7293034; omega⟩) hw hA ⟨by decide, by decide⟩ (fun v_11 ws H locs hp_v_11 hw hF9 => ?_)
  have x_TLM_y_gh := TLM.over hF9 x_TLM_y_gh (by decide)
  have x_BYM_y_gdT := BYM.over hF9 x_BYM_y_gdT (by decide)
  have x_WKX_x := WKX.over hF9 x_WKX_x (by decide)
  have x_GWX_x_gdq := GWX.over hF9 x_GWX_x_gdq (by decide)
  have x_GQ_gdq_gdg := GQ.over hF9 x_GQ_gdq_gdg (by decide)
  have x_HE_gdq_gdg_gdo_gdA_gdB_false_false := HE.over hF9 x_HE_gdq_gdg_gdo_gdA_gdB_false_false (by decide)
  have x_FLP_gdq_gda_gdb := FLP.over hF9 x_FLP_gdq_gda_gdb (by decide)
  have x_HD_y_gdR := AX.over hF9 x_HD_y_gdR (by decide)
  have x_KP_y_gdU_gdV := AX.over hF9 x_KP_y_gdU_gdV (by decide)
  have x_ISA_y_gda_gdb := AX.over hF9 x_ISA_y_gda_gdb (by decide)
  have x_NAM_y_gdL := AXL.over hF9 x_NAM_y_gdL (by decide)
  have x_KNM_y_gdLU_gdLV := AXL.over hF9 x_KNM_y_gdLU_gdLV (by decide)
  have x_LF_x_gdf := FLD.over hF9 x_LF_x_gdf (by decide)
  have x_MF_y_gdf := FLD.over hF9 x_MF_y_gdf (by decide)
  have r_v_11 : RI v_11 (-1) 940 := hp_v_11.1
  have x_FDX_x_gdT_gh_v_2_v_4_v_6_v_8_v_10 := hp_v_11.2.2.2.1.1
  refine lv_pop hx hb dL_law_254 rfl ?_
  refine lv_aload_n hx hb dL_law_255 rfl (lv_at hl 2 rfl) ?_
  refine lv_aload_n hx hb dL_law_256 rfl (lv_at hl 4 rfl) ?_
  refine lv_iload hx hb dL_law_257 (lv_at hl 0 rfl) ?_
  refine lv_iconst (v := 1) hx hb dL_law_259 (by decide) ?_
  refine lv_iadd hx hb dL_law_260 (lv_topi (fun v_12 e_v_12 => ?_))
  obtain ⟨t_v_12, r_v_12⟩ := tq_add (lo := 1) (hi := 3067) r_i rl_1 (by decide +kernel) e_v_12
  have t_v_12 : v_12.toInt = i.toInt + 1 := t_v_12
  refine va_sld hx hb hX hbl hbA hw.2.2.2.1 (i := v_12) (vp_in_iff.mpr ⟨by have k1 := r_v_12.1; omega, by have k1 := r_v_12.2; omega⟩) dL_law_261 ?_
  refine tI (y := v_2) (by rw [e_v_12, ← e_v_1]; exact e_v_2) ?_
  refine lv_aload_n hx hb dL_law_262 rfl (lv_at hl 4 rfl) ?_
  refine lv_iload hx hb dL_law_263 (lv_at hl 0 rfl) ?_
  refine lv_iconst (v := 2) hx hb dL_law_265 (by decide) ?_
  refine lv_iadd hx hb dL_law_266 (lv_topi (fun v_14 e_v_14 => ?_))
  obtain ⟨t_v_14, r_v_14⟩ := tq_add (lo := 2) (hi := 3068) r_i rl_2 (by decide +kernel) e_v_14
  have t_v_14 : v_14.toInt = i.toInt + 2 := t_v_14
  refine va_sld hx hb hX hbl hbA hw.2.2.2.1 (i := v_14) (vp_in_iff.mpr ⟨by have k1 := r_v_14.1; omega, by have k1 := r_v_14.2; omega⟩) dL_law_267 ?_
  refine tI (y := v_4) (by rw [e_v_14, ← e_v_3]; exact e_v_4) ?_
  refine lv_aload_n hx hb dL_law_268 rfl (lv_at hl 4 rfl) ?_
  refine lv_iload hx hb dL_law_269 (lv_at hl 0 rfl) ?_
  refine lv_iconst (v := 3) hx hb dL_law_271 (by decide) ?_
  refine lv_iadd hx hb dL_law_272 (lv_topi (fun v_16 e_v_16 => ?_))
  obtain ⟨t_v_16, r_v_16⟩ := tq_add (lo := 3) (hi := 3069) r_i rl_3 (by decide +kernel) e_v_16
  have t_v_16 : v_16.toInt = i.toInt + 3 := t_v_16
  refine va_sld hx hb hX hbl hbA hw.2.2.2.1 (i := v_16) (vp_in_iff.mpr ⟨by have k1 := r_v_16.1; omega, by have k1 := r_v_16.2; omega⟩) dL_law_273 ?_
  refine tI (y := v_6) (by rw [e_v_16, ← e_v_5]; exact e_v_6) ?_
  refine lv_aload_n hx hb dL_law_274 rfl (lv_at hl 4 rfl) ?_
  refine lv_iload hx hb dL_law_275 (lv_at hl 0 rfl) ?_
  refine lv_iconst (v := 4) hx hb dL_law_277 (by decide) ?_
  refine lv_iadd hx hb dL_law_278 (lv_topi (fun v_18 e_v_18 => ?_))
  obtain ⟨t_v_18, r_v_18⟩ := tq_add (lo := 4) (hi := 3070) r_i rl_4 (by decide +kernel) e_v_18
  have t_v_18 : v_18.toInt = i.toInt + 4 := t_v_18
  refine va_sld hx hb hX hbl hbA hw.2.2.2.1 (i := v_18) (vp_in_iff.mpr ⟨by have k1 := r_v_18.1; omega, by have k1 := r_v_18.2; omega⟩) dL_law_279 ?_
  refine tI (y := v_8) (by rw [e_v_18, ← e_v_7]; exact e_v_8) ?_
  refine lv_aload_n hx hb dL_law_280 rfl (lv_at hl 4 rfl) ?_
  refine lv_iload hx hb dL_law_281 (lv_at hl 0 rfl) ?_
  refine lv_iconst (v := 5) hx hb dL_law_283 (by decide) ?_
  refine lv_iadd hx hb dL_law_284 (lv_topi (fun v_20 e_v_20 => ?_))
  obtain ⟨t_v_20, r_v_20⟩ := tq_add (lo := 5) (hi := 3071) r_i rl_5 (by decide +kernel) e_v_20
  have t_v_20 : v_20.toInt = i.toInt + 5 := t_v_20
  refine va_sld hx hb hX hbl hbA hw.2.2.2.1 (i := v_20) (vp_in_iff.mpr ⟨by have k1 := r_v_20.1; omega, by have k1 := r_v_20.2; omega⟩) dL_law_285 ?_
  refine tI (y := v_10) (by rw [e_v_20, ← e_v_9]; exact e_v_10) ?_
  refine tk_i (va_runV (As := [.int v_2, .int v_4, .int v_6, .int v_8, .int v_10]) (rest := []) ⟨hx, hb, hml, hown, hts⟩ (c_X10_feed__1_by l D cy z H.size Ps ws hw.1 y v_2 v_4 v_6 v_8 v_10 (gh) (gdT) h_y r_v_2 r_v_4 r_v_6 r_v_8 r_v_10 x_TLM_y_gh x_BYM_y_gdT) (cwV 5 hts (gV tw_1119 tw_1120 tw_1121 tw_15 tw_1122) rfl rfl rfl (by decide +kernel) ⟨Nat.le_of_ble_eq_true rfl, Nat.le_of_ble_eq_true rfl⟩) (tg_preV hw hK hSD hA (ci := 10) (q := (RX10, TX10, 49)) rfl h_y rfl) rfl rfl hl.1 rfl (lv_room (Nat.le_of_ble_eq_true rfl)) dL_law_286 ⟨by show _ ≤ 601024; omega, by show _ ≤ 7293034; omega⟩) hw hA ⟨by decide, by decide⟩ (fun v_22 ws H locs hp_v_22 hw hF9 => ?_)
  have x_WKX_x := WKX.over hF9 x_WKX_x (by decide)
  have x_GWX_x_gdq := GWX.over hF9 x_GWX_x_gdq (by decide)
  have x_GQ_gdq_gdg := GQ.over hF9 x_GQ_gdq_gdg (by decide)
  have x_HE_gdq_gdg_gdo_gdA_gdB_false_false := HE.over hF9 x_HE_gdq_gdg_gdo_gdA_gdB_false_false (by decide)
  have x_FLP_gdq_gda_gdb := FLP.over hF9 x_FLP_gdq_gda_gdb (by decide)
  have x_HD_y_gdR := AX.over hF9 x_HD_y_gdR (by decide)
  have x_KP_y_gdU_gdV := AX.over hF9 x_KP_y_gdU_gdV (by decide)
  have x_ISA_y_gda_gdb := AX.over hF9 x_ISA_y_gda_gdb (by decide)
  have x_NAM_y_gdL := AXL.over hF9 x_NAM_y_gdL (by decide)
  have x_KNM_y_gdLU_gdLV := AXL.over hF9 x_KNM_y_gdLU_gdLV (by decide)
  have x_LF_x_gdf := FLD.over hF9 x_LF_x_gdf (by decide)
  have x_MF_y_gdf := FLD.over hF9 x_MF_y_gdf (by decide)
  have x_FDX_x_gdT_gh_v_2_v_4_v_6_v_8_v_10 := FDX.over hF9 x_FDX_x_gdT_gh_v_2_v_4_v_6_v_8_v_10 (by decide)
  have r_v_22 : RI v_22 (-1) 940 := hp_v_22.1
  have x_FDM_y_gdT_gh_v_2_v_4_v_6_v_8_v_10 := hp_v_22.2.2.2.1.1
  refine lv_pop hx hb dL_law_289 rfl ?_
  refine lv_goto (tgt := 1335) hx hb dL_law_290 (by decide) ?_
  refine W.widen (k := C + 6) (n := S + 125) (by omega) (by omega) ?_
  exact kx (fG gh) (fT gdT gh.toNat v_2 v_4 v_6 v_8 v_10) gdq gdg gdo gdA gdB gda gdb gdR gdU gdV gdN gdNU gdNV gdL gdLU gdLV gdf _ ws _ _ ls hw h_x h_y h_o x_FDX_x_gdT_gh_v_2_v_4_v_6_v_8_v_10.1 x_FDM_y_gdT_gh_v_2_v_4_v_6_v_8_v_10.1 x_FDX_x_gdT_gh_v_2_v_4_v_6_v_8_v_10.2 x_FDM_y_gdT_gh_v_2_v_4_v_6_v_8_v_10.2 x_WKX_x x_GWX_x_gdq x_GQ_gdq_gdg x_HE_gdq_gdg_gdo_gdA_gdB_false_false x_FLP_gdq_gda_gdb x_HD_y_gdR x_KP_y_gdU_gdV x_ISA_y_gda_gdb x_NAM_y_gdL x_KNM_y_gdLU_gdLV x_PDF_gdo_gdR_gdN x_NLP_gdR_gdN_gdL x_LKP_gda_gdA_gdU_gdNU_gdLU x_LKP_gdb_gdB_gdV_gdNV_gdLV x_LF_x_gdf x_MF_y_gdf (lv_sub hl [0, 1, 2, 3, 4] rfl)
set_option maxHeartbeats 4000000 in
set_option maxRecDepth 100000 in
theorem op1 {p : Program} {e : Env} {s : State} {m : MethodId} {below : List Frame} {meth : Method} {c : Code} (l : Launch) (hl0 : l.stackTraces = false) {b L : Nat} {xs : Nat → Int32} (hx : p.tables.exec = Jvm.exec) (hb : c.code = code) (hml : c.maxLocals = 7) (hown : s.vm.findClass RL = some m.cls) (hts : ∀ w ∈ gT, w.before #[Value.ref b] s = true) (hX : va_X b L xs s s.heap) (hbl : b < s.heap.size) (D : va_G) (cy : Nat → ClassId) (z : Nat → Nat) (hK : va_K D classes (TY cy) s) (hSD : SD z (fun q : Nat => s.heap.size ≤ q) s) (hSE : SE z (fun q : Nat => s.heap.size ≤ q) s) {Ps : PSI} {ws : va_W} {H : Heap} {locs : List Loc} {x y o : Nat} (hw : WD D cy GG (fun q : Nat => s.heap.size ≤ q) s wrL waL [] [] Ps ws H locs) (h_x : (x, 33) ∈ Ps) (h_y : (y, 55) ∈ Ps) (h_o : (o, 56) ∈ Ps) {gh : Int} {gdT : Nat → Nat} {gdq : Nat → Nat} {gdg : Nat → Nat} {gdo : OS} {gdA : OS} {gdB : OS} {gda : Int32} {gdb : Int32} {gdR : Nat → Int32} {gdU : Nat → Int32} {gdV : Nat → Int32} {gdN : Nat → Nat} {gdNU : Nat → Nat} {gdNV : Nat → Nat} {gdL : Nat → Int64} {gdLU : Nat → Int64} {gdLV : Nat → Int64} {gdf : Int32} (x_TLX_x_gh : TLX ws x (gh)) (x_TLM_y_gh : TLM ws y (gh)) (x_BYX_x_gdT : BYX Ps ws x gdT) (x_BYM_y_gdT : BYM Ps ws y gdT) (x_WKX_x : WKX Ps ws x) (x_GWX_x_gdq : GWX ws x gdq) (x_GQ_gdq_gdg : GQ Ps ws gdq gdg) (x_HE_gdq_gdg_gdo_gdA_gdB_false_false : HE Ps ws gdq gdg gdo gdA gdB false false) (x_FLP_gdq_gda_gdb : FLP ws gdq gda gdb) (x_HD_y_gdR : AX 14 34 (HDp gdR) Ps ws y) (x_KP_y_gdU_gdV : AX 16 36 (KPp gdU gdV) Ps ws y) (x_ISA_y_gda_gdb : AX 23 44 (ISp gda gdb) Ps ws y) (x_NAM_y_gdL : AXL 20 41 (NMp gdL) Ps ws y) (x_KNM_y_gdLU_gdLV : AXL 22 43 (KNp gdLU gdLV) Ps ws y) (x_PDF_gdo_gdR_gdN : (PDO gdo gdR gdN)) (x_NLP_gdR_gdN_gdL : (NLC gdR gdN gdL)) (x_LKP_gda_gdA_gdU_gdNU_gdLU : (LKP gda gdA gdU gdNU gdLU)) (x_LKP_gdb_gdB_gdV_gdNV_gdLV : (LKP gdb gdB gdV gdNV gdLV)) (x_LF_x_gdf : FLD ws x 9 11 (.int gdf)) (x_MF_y_gdf : FLD ws y 10 10 (.int gdf)) {i : Int32} (r_i : RI i 0 3066) (hiL : i.toInt + 6 ≤ L) {C S : Nat} (hC : C + 6 ≤ 601024) (hSl : S + 125 ≤ 7293034) {ls : Array Slot} (hl : lv_has ls 7 [(4, .int i), (3, .ref o), (2, .ref y), (1, .ref x), (0, .ref b)]) {Q : State → Prop} (kx : ∀ (gh : Int) (gdT : Nat → Nat) (gdq : Nat → Nat) (gdg : Nat → Nat) (gdo : OS) (gdA : OS) (gdB : OS) (gda : Int32) (gdb : Int32) (gdR : Nat → Int32) (gdU : Nat → Int32) (gdV : Nat → Int32) (gdN : Nat → Nat) (gdNU : Nat → Nat) (gdNV : Nat → Nat) (gdL : Nat → Int64) (gdLU : Nat → Int64) (gdLV : Nat → Int64) (gdf : Int32) (Ps : PSI) (ws : va_W) (H : Heap) (locs : List Loc) (ls : Array Slot), WD D cy GG (fun q : Nat => s.heap.size ≤ q) s wrL waL [] [] Ps ws H locs → (x, 33) ∈ Ps → (y, 55) ∈ Ps → (o, 56) ∈ Ps → TLX ws x (gh) → TLM ws y (gh) → BYX Ps ws x gdT → BYM Ps ws y gdT → WKX Ps ws x → GWX ws x gdq → GQ Ps ws gdq gdg → HE Ps ws gdq gdg gdo gdA gdB false false → FLP ws gdq gda gdb → AX 14 34 (HDp gdR) Ps ws y → AX 16 36 (KPp gdU gdV) Ps ws y → AX 23 44 (ISp gda gdb) Ps ws y → AXL 20 41 (NMp gdL) Ps ws y → AXL 22 43 (KNp gdLU gdLV) Ps ws y → (PDO gdo gdR gdN) → (NLC gdR gdN gdL) → (LKP gda gdA gdU gdNU gdLU) → (LKP gdb gdB gdV gdNV gdLV) → FLD ws x 9 11 (.int gdf) → FLD ws y 10 10 (.int gdf) → lv_has ls 7 [(4, .int i), (3, .ref o), (2, .ref y), (1, .ref x), (0, .ref b)] → W p l e room_1 s m #[Value.ref b] below meth c H locs (C + 6) (S + 125) Q (F0 m 1335 ls [])) : W p l e room_1 s m #[Value.ref b] below meth c H locs C S Q (F0 m 293 ls []) := by
  have hA : ∀ q : Nat, s.heap.size ≤ q → (fun q : Nat => s.heap.size ≤ q) q := fun _ h => h
  have hbA : ¬ (fun q : Nat => s.heap.size ≤ q) b := Nat.not_le.mpr hbl
  refine lv_aload_n hx hb dL_law_293 rfl (lv_at hl 3 rfl) ?_
  refine lv_aload_n hx hb dL_law_294 rfl (lv_at hl 4 rfl) ?_
  refine lv_iload hx hb dL_law_295 (lv_at hl 0 rfl) ?_
  refine lv_iconst (v := 1) hx hb dL_law_297 (by decide) ?_
  refine lv_iadd hx hb dL_law_298 (lv_topi (fun v_1 e_v_1 => ?_))
  obtain ⟨t_v_1, r_v_1⟩ := tq_add (lo := 1) (hi := 3067) r_i rl_1 (by decide +kernel) e_v_1
  have t_v_1 : v_1.toInt = i.toInt + 1 := t_v_1
  refine va_sld hx hb hX hbl hbA hw.2.2.2.1 (i := v_1) (vp_in_iff.mpr ⟨by have k1 := r_v_1.1; omega, by have k1 := r_v_1.2; omega⟩) dL_law_299 ?_
  obtain ⟨v_2, e_v_2⟩ : ∃ q9 : Int32, xs (Int32.toNatClampNeg v_1) = q9 := ⟨_, rfl⟩
  refine tI e_v_2 ?_
  have r_v_2 := ri_any v_2
  refine tk_i (va_runV (As := [.int v_2]) (rest := []) ⟨hx, hb, hml, hown, hts⟩ (c_X9_end__1 l D cy z H.size Ps ws hw.1 x v_2 (gh) h_x r_v_2 x_TLX_x_gh) (cwV 1 hts (gV tw_404 tw_405 tw_406 tw_1 tw_407) rfl rfl rfl (by decide +kernel) ⟨Nat.le_of_ble_eq_true rfl, Nat.le_of_ble_eq_true rfl⟩) (tg_preV hw hK hSD hA (ci := 9) (q := (RX9, TX9, 15)) rfl h_x rfl) rfl rfl hl.1 rfl (lv_room (Nat.le_of_ble_eq_true rfl)) dL_law_300 ⟨by show _ ≤ 601024; omega, by show _ ≤ 7293034; omega⟩) hw hA ⟨by decide, by decide⟩ (fun v_3 ws H locs hp_v_3 hw hF9 => ?_)
  have x_TLM_y_gh := TLM.over hF9 x_TLM_y_gh (by decide)
  have x_BYX_x_gdT := BYX.over hF9 x_BYX_x_gdT (by decide)
  have x_BYM_y_gdT := BYM.over hF9 x_BYM_y_gdT (by decide)
  have x_WKX_x := WKX.over hF9 x_WKX_x (by decide)
  have x_GWX_x_gdq := GWX.over hF9 x_GWX_x_gdq (by decide)
  have x_GQ_gdq_gdg := GQ.over hF9 x_GQ_gdq_gdg (by decide)
  have x_HE_gdq_gdg_gdo_gdA_gdB_false_false := HE.over hF9 x_HE_gdq_gdg_gdo_gdA_gdB_false_false (by decide)
  have x_FLP_gdq_gda_gdb := FLP.over hF9 x_FLP_gdq_gda_gdb (by decide)
  have x_HD_y_gdR := AX.over hF9 x_HD_y_gdR (by decide)
  have x_KP_y_gdU_gdV := AX.over hF9 x_KP_y_gdU_gdV (by decide)
  have x_ISA_y_gda_gdb := AX.over hF9 x_ISA_y_gda_gdb (by decide)
  have x_NAM_y_gdL := AXL.over hF9 x_NAM_y_gdL (by decide)
  have x_KNM_y_gdLU_gdLV := AXL.over hF9 x_KNM_y_gdLU_gdLV (by decide)
  have x_LF_x_gdf := FLD.over hF9 x_LF_x_gdf (by decide)
  have x_MF_y_gdf := FLD.over hF9 x_MF_y_gdf (by decide)
  have r_v_3 : RI v_3 0 1 := hp_v_3.1
  by_cases c9_v_3 : v_3 = 0
  · have r_v_3 : RI v_3 0 0 := by rw [c9_v_3]; exact rl_0
    have x_EN0_v_2_gh := ((hp_v_3.2.1 c9_v_3).1)
    have x_TLX_x_gh := ((hp_v_3.2.1 c9_v_3).2.1)
    refine lv_pop hx hb dL_law_303 rfl ?_
    refine lv_aload_n hx hb dL_law_304 rfl (lv_at hl 2 rfl) ?_
    refine lv_aload_n hx hb dL_law_305 rfl (lv_at hl 4 rfl) ?_
    refine lv_iload hx hb dL_law_306 (lv_at hl 0 rfl) ?_
    refine lv_iconst (v := 1) hx hb dL_law_308 (by decide) ?_
    refine lv_iadd hx hb dL_law_309 (lv_topi (fun v_4 e_v_4 => ?_))
    obtain ⟨t_v_4, r_v_4⟩ := tq_add (lo := 1) (hi := 3067) r_i rl_1 (by decide +kernel) e_v_4
    have t_v_4 : v_4.toInt = i.toInt + 1 := t_v_4
    refine va_sld hx hb hX hbl hbA hw.2.2.2.1 (i := v_4) (vp_in_iff.mpr ⟨by have k1 := r_v_4.1; omega, by have k1 := r_v_4.2; omega⟩) dL_law_310 ?_
    refine tI (y := v_2) (by rw [e_v_4, ← e_v_1]; exact e_v_2) ?_
    refine tk_i (va_runV (As := [.int v_2]) (rest := []) ⟨hx, hb, hml, hown, hts⟩ (c_X10_end__1 l D cy z H.size Ps ws hw.1 y v_2 (gh) h_y r_v_2 x_TLM_y_gh) (cwV 1 hts (gV tw_1128 tw_1129 tw_1130 tw_15 tw_1131) rfl rfl rfl (by decide +kernel) ⟨Nat.le_of_ble_eq_true rfl, Nat.le_of_ble_eq_true rfl⟩) (tg_preV hw hK hSD hA (ci := 10) (q := (RX10, TX10, 49)) rfl h_y rfl) rfl rfl hl.1 rfl (lv_room (Nat.le_of_ble_eq_true rfl)) dL_law_311 ⟨by show _ ≤ 601024; omega, by show _ ≤ 7293034; omega⟩) hw hA ⟨by decide, by decide⟩ (fun v_6 ws H locs hp_v_6 hw hF9 => ?_)
    have x_BYX_x_gdT := BYX.over hF9 x_BYX_x_gdT (by decide)
    have x_BYM_y_gdT := BYM.over hF9 x_BYM_y_gdT (by decide)
    have x_WKX_x := WKX.over hF9 x_WKX_x (by decide)
    have x_GWX_x_gdq := GWX.over hF9 x_GWX_x_gdq (by decide)
    have x_GQ_gdq_gdg := GQ.over hF9 x_GQ_gdq_gdg (by decide)
    have x_HE_gdq_gdg_gdo_gdA_gdB_false_false := HE.over hF9 x_HE_gdq_gdg_gdo_gdA_gdB_false_false (by decide)
    have x_FLP_gdq_gda_gdb := FLP.over hF9 x_FLP_gdq_gda_gdb (by decide)
    have x_HD_y_gdR := AX.over hF9 x_HD_y_gdR (by decide)
    have x_KP_y_gdU_gdV := AX.over hF9 x_KP_y_gdU_gdV (by decide)
    have x_ISA_y_gda_gdb := AX.over hF9 x_ISA_y_gda_gdb (by decide)
    have x_NAM_y_gdL := AXL.over hF9 x_NAM_y_gdL (by decide)
    have x_KNM_y_gdLU_gdLV := AXL.over hF9 x_KNM_y_gdLU_gdLV (by decide)
    have x_LF_x_gdf := FLD.over hF9 x_LF_x_gdf (by decide)
    have x_MF_y_gdf := FLD.over hF9 x_MF_y_gdf (by decide)
    have x_TLX_x_gh := TLX.over hF9 x_TLX_x_gh (by decide)
    have r_v_6 : RI v_6 0 1 := hp_v_6.1
    by_cases c9_v_6 : v_6 = 0
    · have r_v_6 : RI v_6 0 0 := by rw [c9_v_6]; exact rl_0
      have x_EN0_v_2_gh := ((hp_v_6.2.1 c9_v_6).1)
      have x_TLM_y_gh := ((hp_v_6.2.1 c9_v_6).2.1)
      refine lv_pop hx hb dL_law_314 rfl ?_
      refine lv_goto (tgt := 1335) hx hb dL_law_315 (by decide) ?_
      refine W.widen (k := C + 6) (n := S + 125) (by omega) (by omega) ?_
      exact kx (gh) gdT gdq gdg gdo gdA gdB gda gdb gdR gdU gdV gdN gdNU gdNV gdL gdLU gdLV gdf _ ws _ _ ls hw h_x h_y h_o x_TLX_x_gh x_TLM_y_gh x_BYX_x_gdT x_BYM_y_gdT x_WKX_x x_GWX_x_gdq x_GQ_gdq_gdg x_HE_gdq_gdg_gdo_gdA_gdB_false_false x_FLP_gdq_gda_gdb x_HD_y_gdR x_KP_y_gdU_gdV x_ISA_y_gda_gdb x_NAM_y_gdL x_KNM_y_gdLU_gdLV x_PDF_gdo_gdR_gdN x_NLP_gdR_gdN_gdL x_LKP_gda_gdA_gdU_gdNU_gdLU x_LKP_gdb_gdB_gdV_gdNV_gdLV x_LF_x_gdf x_MF_y_gdf (lv_sub hl [0, 1, 2, 3, 4] rfl)
    · have r_v_6 : RI v_6 1 1 := rc_neL r_v_6 rl_0 (ti_ne c9_v_6) (by decide)
      have x_EN1_v_2_gh := ((hp_v_6.2.2 c9_v_6).1)
      have x_TLMV_y_v_2 := ((hp_v_6.2.2 c9_v_6).2.1)
      exact ((absurd x_EN1_v_2_gh x_EN0_v_2_gh : False)).elim
  · have r_v_3 : RI v_3 1 1 := rc_neL r_v_3 rl_0 (ti_ne c9_v_3) (by decide)
    have x_EN1_v_2_gh := ((hp_v_3.2.2 c9_v_3).1)
    have x_TLXV_x_v_2 := ((hp_v_3.2.2 c9_v_3).2.1)
    refine lv_pop hx hb dL_law_303 rfl ?_
    refine lv_aload_n hx hb dL_law_304 rfl (lv_at hl 2 rfl) ?_
    refine lv_aload_n hx hb dL_law_305 rfl (lv_at hl 4 rfl) ?_
    refine lv_iload hx hb dL_law_306 (lv_at hl 0 rfl) ?_
    refine lv_iconst (v := 1) hx hb dL_law_308 (by decide) ?_
    refine lv_iadd hx hb dL_law_309 (lv_topi (fun v_7 e_v_7 => ?_))
    obtain ⟨t_v_7, r_v_7⟩ := tq_add (lo := 1) (hi := 3067) r_i rl_1 (by decide +kernel) e_v_7
    have t_v_7 : v_7.toInt = i.toInt + 1 := t_v_7
    refine va_sld hx hb hX hbl hbA hw.2.2.2.1 (i := v_7) (vp_in_iff.mpr ⟨by have k1 := r_v_7.1; omega, by have k1 := r_v_7.2; omega⟩) dL_law_310 ?_
    refine tI (y := v_2) (by rw [e_v_7, ← e_v_1]; exact e_v_2) ?_
    refine tk_i (va_runV (As := [.int v_2]) (rest := []) ⟨hx, hb, hml, hown, hts⟩ (c_X10_end__1 l D cy z H.size Ps ws hw.1 y v_2 (gh) h_y r_v_2 x_TLM_y_gh) (cwV 1 hts (gV tw_1128 tw_1129 tw_1130 tw_15 tw_1131) rfl rfl rfl (by decide +kernel) ⟨Nat.le_of_ble_eq_true rfl, Nat.le_of_ble_eq_true rfl⟩) (tg_preV hw hK hSD hA (ci := 10) (q := (RX10, TX10, 49)) rfl h_y rfl) rfl rfl hl.1 rfl (lv_room (Nat.le_of_ble_eq_true rfl)) dL_law_311 ⟨by show _ ≤ 601024; omega, by show _ ≤ 7293034; omega⟩) hw hA ⟨by decide, by decide⟩ (fun v_9 ws H locs hp_v_9 hw hF9 => ?_)
    have x_BYX_x_gdT := BYX.over hF9 x_BYX_x_gdT (by decide)
    have x_BYM_y_gdT := BYM.over hF9 x_BYM_y_gdT (by decide)
    have x_WKX_x := WKX.over hF9 x_WKX_x (by decide)
    have x_GWX_x_gdq := GWX.over hF9 x_GWX_x_gdq (by decide)
    have x_GQ_gdq_gdg := GQ.over hF9 x_GQ_gdq_gdg (by decide)
    have x_HE_gdq_gdg_gdo_gdA_gdB_false_false := HE.over hF9 x_HE_gdq_gdg_gdo_gdA_gdB_false_false (by decide)
    have x_FLP_gdq_gda_gdb := FLP.over hF9 x_FLP_gdq_gda_gdb (by decide)
    have x_HD_y_gdR := AX.over hF9 x_HD_y_gdR (by decide)
    have x_KP_y_gdU_gdV := AX.over hF9 x_KP_y_gdU_gdV (by decide)
    have x_ISA_y_gda_gdb := AX.over hF9 x_ISA_y_gda_gdb (by decide)
    have x_NAM_y_gdL := AXL.over hF9 x_NAM_y_gdL (by decide)
    have x_KNM_y_gdLU_gdLV := AXL.over hF9 x_KNM_y_gdLU_gdLV (by decide)
    have x_LF_x_gdf := FLD.over hF9 x_LF_x_gdf (by decide)
    have x_MF_y_gdf := FLD.over hF9 x_MF_y_gdf (by decide)
    have x_TLXV_x_v_2 := TLX.over hF9 x_TLXV_x_v_2 (by decide)
    have r_v_9 : RI v_9 0 1 := hp_v_9.1
    by_cases c9_v_9 : v_9 = 0
    · have r_v_9 : RI v_9 0 0 := by rw [c9_v_9]; exact rl_0
      have x_EN0_v_2_gh := ((hp_v_9.2.1 c9_v_9).1)
      have x_TLM_y_gh := ((hp_v_9.2.1 c9_v_9).2.1)
      exact ((absurd x_EN1_v_2_gh x_EN0_v_2_gh : False)).elim
    · have r_v_9 : RI v_9 1 1 := rc_neL r_v_9 rl_0 (ti_ne c9_v_9) (by decide)
      have x_EN1_v_2_gh := ((hp_v_9.2.2 c9_v_9).1)
      have x_TLMV_y_v_2 := ((hp_v_9.2.2 c9_v_9).2.1)
      refine lv_pop hx hb dL_law_314 rfl ?_
      refine lv_goto (tgt := 1335) hx hb dL_law_315 (by decide) ?_
      refine W.widen (k := C + 6) (n := S + 125) (by omega) (by omega) ?_
      exact kx (Int32.toInt v_2) gdT gdq gdg gdo gdA gdB gda gdb gdR gdU gdV gdN gdNU gdNV gdL gdLU gdLV gdf _ ws _ _ ls hw h_x h_y h_o x_TLXV_x_v_2 x_TLMV_y_v_2 x_BYX_x_gdT x_BYM_y_gdT x_WKX_x x_GWX_x_gdq x_GQ_gdq_gdg x_HE_gdq_gdg_gdo_gdA_gdB_false_false x_FLP_gdq_gda_gdb x_HD_y_gdR x_KP_y_gdU_gdV x_ISA_y_gda_gdb x_NAM_y_gdL x_KNM_y_gdLU_gdLV x_PDF_gdo_gdR_gdN x_NLP_gdR_gdN_gdL x_LKP_gda_gdA_gdU_gdNU_gdLU x_LKP_gdb_gdB_gdV_gdNV_gdLV x_LF_x_gdf x_MF_y_gdf (lv_sub hl [0, 1, 2, 3, 4] rfl)
set_option maxHeartbeats 4000000 in
set_option maxRecDepth 100000 in
theorem op2 {p : Program} {e : Env} {s : State} {m : MethodId} {below : List Frame} {meth : Method} {c : Code} (l : Launch) (hl0 : l.stackTraces = false) {b L : Nat} {xs : Nat → Int32} (hx : p.tables.exec = Jvm.exec) (hb : c.code = code) (hml : c.maxLocals = 7) (hown : s.vm.findClass RL = some m.cls) (hts : ∀ w ∈ gT, w.before #[Value.ref b] s = true) (hX : va_X b L xs s s.heap) (hbl : b < s.heap.size) (D : va_G) (cy : Nat → ClassId) (z : Nat → Nat) (hK : va_K D classes (TY cy) s) (hSD : SD z (fun q : Nat => s.heap.size ≤ q) s) (hSE : SE z (fun q : Nat => s.heap.size ≤ q) s) {Ps : PSI} {ws : va_W} {H : Heap} {locs : List Loc} {x y o : Nat} (hw : WD D cy GG (fun q : Nat => s.heap.size ≤ q) s wrL waL [] [] Ps ws H locs) (h_x : (x, 33) ∈ Ps) (h_y : (y, 55) ∈ Ps) (h_o : (o, 56) ∈ Ps) {gh : Int} {gdT : Nat → Nat} {gdq : Nat → Nat} {gdg : Nat → Nat} {gdo : OS} {gdA : OS} {gdB : OS} {gda : Int32} {gdb : Int32} {gdR : Nat → Int32} {gdU : Nat → Int32} {gdV : Nat → Int32} {gdN : Nat → Nat} {gdNU : Nat → Nat} {gdNV : Nat → Nat} {gdL : Nat → Int64} {gdLU : Nat → Int64} {gdLV : Nat → Int64} {gdf : Int32} (x_TLX_x_gh : TLX ws x (gh)) (x_TLM_y_gh : TLM ws y (gh)) (x_BYX_x_gdT : BYX Ps ws x gdT) (x_BYM_y_gdT : BYM Ps ws y gdT) (x_WKX_x : WKX Ps ws x) (x_GWX_x_gdq : GWX ws x gdq) (x_GQ_gdq_gdg : GQ Ps ws gdq gdg) (x_HE_gdq_gdg_gdo_gdA_gdB_false_false : HE Ps ws gdq gdg gdo gdA gdB false false) (x_FLP_gdq_gda_gdb : FLP ws gdq gda gdb) (x_HD_y_gdR : AX 14 34 (HDp gdR) Ps ws y) (x_KP_y_gdU_gdV : AX 16 36 (KPp gdU gdV) Ps ws y) (x_ISA_y_gda_gdb : AX 23 44 (ISp gda gdb) Ps ws y) (x_NAM_y_gdL : AXL 20 41 (NMp gdL) Ps ws y) (x_KNM_y_gdLU_gdLV : AXL 22 43 (KNp gdLU gdLV) Ps ws y) (x_PDF_gdo_gdR_gdN : (PDO gdo gdR gdN)) (x_NLP_gdR_gdN_gdL : (NLC gdR gdN gdL)) (x_LKP_gda_gdA_gdU_gdNU_gdLU : (LKP gda gdA gdU gdNU gdLU)) (x_LKP_gdb_gdB_gdV_gdNV_gdLV : (LKP gdb gdB gdV gdNV gdLV)) (x_LF_x_gdf : FLD ws x 9 11 (.int gdf)) (x_MF_y_gdf : FLD ws y 10 10 (.int gdf)) {i : Int32} (r_i : RI i 0 3066) (hiL : i.toInt + 6 ≤ L) {C S : Nat} (hC : C + 6 ≤ 601024) (hSl : S + 125 ≤ 7293034) {ls : Array Slot} (hl : lv_has ls 7 [(4, .int i), (3, .ref o), (2, .ref y), (1, .ref x), (0, .ref b)]) {Q : State → Prop} (kx : ∀ (gh : Int) (gdT : Nat → Nat) (gdq : Nat → Nat) (gdg : Nat → Nat) (gdo : OS) (gdA : OS) (gdB : OS) (gda : Int32) (gdb : Int32) (gdR : Nat → Int32) (gdU : Nat → Int32) (gdV : Nat → Int32) (gdN : Nat → Nat) (gdNU : Nat → Nat) (gdNV : Nat → Nat) (gdL : Nat → Int64) (gdLU : Nat → Int64) (gdLV : Nat → Int64) (gdf : Int32) (Ps : PSI) (ws : va_W) (H : Heap) (locs : List Loc) (ls : Array Slot), WD D cy GG (fun q : Nat => s.heap.size ≤ q) s wrL waL [] [] Ps ws H locs → (x, 33) ∈ Ps → (y, 55) ∈ Ps → (o, 56) ∈ Ps → TLX ws x (gh) → TLM ws y (gh) → BYX Ps ws x gdT → BYM Ps ws y gdT → WKX Ps ws x → GWX ws x gdq → GQ Ps ws gdq gdg → HE Ps ws gdq gdg gdo gdA gdB false false → FLP ws gdq gda gdb → AX 14 34 (HDp gdR) Ps ws y → AX 16 36 (KPp gdU gdV) Ps ws y → AX 23 44 (ISp gda gdb) Ps ws y → AXL 20 41 (NMp gdL) Ps ws y → AXL 22 43 (KNp gdLU gdLV) Ps ws y → (PDO gdo gdR gdN) → (NLC gdR gdN gdL) → (LKP gda gdA gdU gdNU gdLU) → (LKP gdb gdB gdV gdNV gdLV) → FLD ws x 9 11 (.int gdf) → FLD ws y 10 10 (.int gdf) → lv_has ls 7 [(4, .int i), (3, .ref o), (2, .ref y), (1, .ref x), (0, .ref b)] → W p l e room_1 s m #[Value.ref b] below meth c H locs (C + 6) (S + 125) Q (F0 m 1335 ls [])) : W p l e room_1 s m #[Value.ref b] below meth c H locs C S Q (F0 m 318 ls []) := by
  have hA : ∀ q : Nat, s.heap.size ≤ q → (fun q : Nat => s.heap.size ≤ q) q := fun _ h => h
  have hbA : ¬ (fun q : Nat => s.heap.size ≤ q) b := Nat.not_le.mpr hbl
  refine lv_aload_n hx hb dL_law_318 rfl (lv_at hl 3 rfl) ?_
  refine tk_iA (va_runV (As := []) (rest := []) ⟨hx, hb, hml, hown, hts⟩ (c_X9_post__4 l D cy z H.size Ps ws hw.1 x (gh) (gdT) (gdq) (gdg) (gdo) (gdA) (gdB) h_x x_TLX_x_gh x_BYX_x_gdT x_WKX_x x_GWX_x_gdq x_GQ_gdq_gdg x_HE_gdq_gdg_gdo_gdA_gdB_false_false) (cwV 0 hts (gV tw_408 tw_409 tw_410 tw_1 tw_411) rfl rfl rfl (by decide +kernel) ⟨Nat.le_of_ble_eq_true rfl, Nat.le_of_ble_eq_true rfl⟩) (tg_preV hw hK hSD hA (ci := 9) (q := (RX9, TX9, 15)) rfl h_x rfl) rfl rfl hl.1 rfl (lv_room (Nat.le_of_ble_eq_true rfl)) dL_law_319 ⟨by show _ ≤ 601024; omega, by show _ ≤ 7293034; omega⟩) hw hA ⟨by decide, by decide⟩ (fun v_1 Pn ws H locs hp_v_1 hup hw hF9 => ?_)
  have h_x := hup _ h_x
  have h_y := hup _ h_y
  have h_o := hup _ h_o
  have x_TLM_y_gh := TLM.over hF9 x_TLM_y_gh (by decide)
  have x_BYX_x_gdT := BYX.over hF9 x_BYX_x_gdT (by decide)
  have x_BYM_y_gdT := BYM.over hF9 x_BYM_y_gdT (by decide)
  have x_WKX_x := WKX.over hF9 x_WKX_x (by decide)
  have x_GWX_x_gdq := GWX.over hF9 x_GWX_x_gdq (by decide)
  have x_GQ_gdq_gdg := GQ.over hF9 x_GQ_gdq_gdg (by decide)
  have x_FLP_gdq_gda_gdb := FLP.over hF9 x_FLP_gdq_gda_gdb (by decide)
  have x_HD_y_gdR := AX.over hF9 x_HD_y_gdR (by decide)
  have x_KP_y_gdU_gdV := AX.over hF9 x_KP_y_gdU_gdV (by decide)
  have x_ISA_y_gda_gdb := AX.over hF9 x_ISA_y_gda_gdb (by decide)
  have x_NAM_y_gdL := AXL.over hF9 x_NAM_y_gdL (by decide)
  have x_KNM_y_gdLU_gdLV := AXL.over hF9 x_KNM_y_gdLU_gdLV (by decide)
  have x_MF_y_gdf := FLD.over hF9 x_MF_y_gdf (by decide)
  have x_BYX_x_gdT := BYX.up hup hw x_BYX_x_gdT
  have x_BYM_y_gdT := BYM.up hup hw x_BYM_y_gdT
  have x_WKX_x := WKX.up hup hw x_WKX_x
  have x_GQ_gdq_gdg := GQ.up hup hw x_GQ_gdq_gdg
  have x_HD_y_gdR := AX.up hup hw x_HD_y_gdR
  have x_KP_y_gdU_gdV := AX.up hup hw x_KP_y_gdU_gdV
  have x_ISA_y_gda_gdb := AX.up hup hw x_ISA_y_gda_gdb
  have x_NAM_y_gdL := AXL.up hup hw x_NAM_y_gdL
  have x_KNM_y_gdLU_gdLV := AXL.up hup hw x_KNM_y_gdLU_gdLV
  have r_v_1 : RI v_1 (-2147483648) 2147483647 := hp_v_1.1
  have x_TLX_x_0 := hp_v_1.2.2.2.1.1
  have x_SAN_v_1_gdT_gh := hp_v_1.2.2.2.1.2.1
  have x_PX_gdq_gdg_gdo_gdA_gdB_gdT_gh := hp_v_1.2.2.2.1.2.2.1
  have x_LFP_x_gdT_gh := hp_v_1.2.2.2.1.2.2.2.1
  refine lv_pop hx hb dL_law_322 rfl ?_
  refine lv_aload_n hx hb dL_law_323 rfl (lv_at hl 2 rfl) ?_
  refine tk_i (va_runV (As := []) (rest := []) ⟨hx, hb, hml, hown, hts⟩ (c_X10_post__4_p5 l D cy z H.size Pn ws hw.1 y (gh) (gdT) (gdR) (gdL) h_y x_TLM_y_gh x_BYM_y_gdT x_HD_y_gdR x_NAM_y_gdL) (cwV 0 hts (gV tw_1286 tw_1287 tw_1288 tw_15 tw_1289) rfl rfl rfl (by decide +kernel) ⟨Nat.le_of_ble_eq_true rfl, Nat.le_of_ble_eq_true rfl⟩) (tg_preV hw hK hSD hA (ci := 10) (q := (RX10, TX10, 49)) rfl h_y rfl) rfl rfl hl.1 rfl (lv_room (Nat.le_of_ble_eq_true rfl)) dL_law_324 ⟨by show _ ≤ 601024; omega, by show _ ≤ 7293034; omega⟩) hw hA ⟨by decide, by decide⟩ (fun v_2 ws H locs hp_v_2 hw hF9 => ?_)
  have x_BYX_x_gdT := BYX.over hF9 x_BYX_x_gdT (by decide)
  have x_BYM_y_gdT := BYM.over hF9 x_BYM_y_gdT (by decide)
  have x_WKX_x := WKX.over hF9 x_WKX_x (by decide)
  have x_GWX_x_gdq := GWX.over hF9 x_GWX_x_gdq (by decide)
  have x_GQ_gdq_gdg := GQ.over hF9 x_GQ_gdq_gdg (by decide)
  have x_FLP_gdq_gda_gdb := FLP.over hF9 x_FLP_gdq_gda_gdb (by decide)
  have x_KP_y_gdU_gdV := AX.over hF9 x_KP_y_gdU_gdV (by decide)
  have x_ISA_y_gda_gdb := AX.over hF9 x_ISA_y_gda_gdb (by decide)
  have x_KNM_y_gdLU_gdLV := AXL.over hF9 x_KNM_y_gdLU_gdLV (by decide)
  have x_TLX_x_0 := TLX.over hF9 x_TLX_x_0 (by decide)
  have x_PX_gdq_gdg_gdo_gdA_gdB_gdT_gh := PX.over hF9 x_PX_gdq_gdg_gdo_gdA_gdB_gdT_gh (by decide)
  have x_LFP_x_gdT_gh := FLD.over hF9 x_LFP_x_gdT_gh (by decide)
  have r_v_2 : RI v_2 (-2147483648) 2147483647 := hp_v_2.1
  have x_TLM_y_0 := hp_v_2.2.2.2.1.1
  have x_SAN_v_2_gdT_gh := hp_v_2.2.2.2.1.2.1
  have x_PXM3_y_gdR_gdL_gdT_gh := hp_v_2.2.2.2.1.2.2.1
  have x_MFP_y_gdT_gh := hp_v_2.2.2.2.1.2.2.2.1
  refine lv_pop hx hb dL_law_327 rfl ?_
  refine lv_goto (tgt := 1335) hx hb dL_law_328 (by decide) ?_
  refine W.widen (k := C + 6) (n := S + 125) (by omega) (by omega) ?_
  rcases hS9 : SP gdT gh with e9 | ⟨l9, R9, N9⟩
  · obtain ⟨hU9, hN9⟩ := x_PXM3_y_gdR_gdL_gdT_gh.1 e9 hS9
    exact kx (0) gdT gdq gdg gdo gdA gdB gda gdb gdR gdU gdV gdN gdNU gdNV gdL gdLU gdLV (FAU (SP gdT gh)) _ ws _ _ ls hw h_x h_y h_o x_TLX_x_0 x_TLM_y_0 x_BYX_x_gdT x_BYM_y_gdT x_WKX_x x_GWX_x_gdq x_GQ_gdq_gdg (x_PX_gdq_gdg_gdo_gdA_gdB_gdT_gh.1 e9 hS9) x_FLP_gdq_gda_gdb hU9 x_KP_y_gdU_gdV x_ISA_y_gda_gdb hN9 x_KNM_y_gdLU_gdLV x_PDF_gdo_gdR_gdN x_NLP_gdR_gdN_gdL x_LKP_gda_gdA_gdU_gdNU_gdLU x_LKP_gdb_gdB_gdV_gdNV_gdLV x_LFP_x_gdT_gh x_MFP_y_gdT_gh (lv_sub hl [0, 1, 2, 3, 4] rfl)
  · obtain ⟨o9, hH9, hP9⟩ := x_PX_gdq_gdg_gdo_gdA_gdB_gdT_gh.2 l9 R9 N9 hS9
    obtain ⟨hU9, L9, hN9, hL9⟩ := x_PXM3_y_gdR_gdL_gdT_gh.2 l9 R9 N9 hS9
    exact kx (0) gdT gdq gdg o9 gdA gdB gda gdb R9 gdU gdV N9 gdNU gdNV L9 gdLU gdLV (FAU (SP gdT gh)) _ ws _ _ ls hw h_x h_y h_o x_TLX_x_0 x_TLM_y_0 x_BYX_x_gdT x_BYM_y_gdT x_WKX_x x_GWX_x_gdq x_GQ_gdq_gdg hH9 x_FLP_gdq_gda_gdb hU9 x_KP_y_gdU_gdV x_ISA_y_gda_gdb hN9 x_KNM_y_gdLU_gdLV hP9 hL9 x_LKP_gda_gdA_gdU_gdNU_gdLU x_LKP_gdb_gdB_gdV_gdNV_gdLV x_LFP_x_gdT_gh x_MFP_y_gdT_gh (lv_sub hl [0, 1, 2, 3, 4] rfl)
set_option maxHeartbeats 4000000 in
set_option maxRecDepth 100000 in
theorem op3 {p : Program} {e : Env} {s : State} {m : MethodId} {below : List Frame} {meth : Method} {c : Code} (l : Launch) (hl0 : l.stackTraces = false) {b L : Nat} {xs : Nat → Int32} (hx : p.tables.exec = Jvm.exec) (hb : c.code = code) (hml : c.maxLocals = 7) (hown : s.vm.findClass RL = some m.cls) (hts : ∀ w ∈ gT, w.before #[Value.ref b] s = true) (hX : va_X b L xs s s.heap) (hbl : b < s.heap.size) (D : va_G) (cy : Nat → ClassId) (z : Nat → Nat) (hK : va_K D classes (TY cy) s) (hSD : SD z (fun q : Nat => s.heap.size ≤ q) s) (hSE : SE z (fun q : Nat => s.heap.size ≤ q) s) {Ps : PSI} {ws : va_W} {H : Heap} {locs : List Loc} {x y o : Nat} (hw : WD D cy GG (fun q : Nat => s.heap.size ≤ q) s wrL waL [] [] Ps ws H locs) (h_x : (x, 33) ∈ Ps) (h_y : (y, 55) ∈ Ps) (h_o : (o, 56) ∈ Ps) {gh : Int} {gdT : Nat → Nat} {gdq : Nat → Nat} {gdg : Nat → Nat} {gdo : OS} {gdA : OS} {gdB : OS} {gda : Int32} {gdb : Int32} {gdR : Nat → Int32} {gdU : Nat → Int32} {gdV : Nat → Int32} {gdN : Nat → Nat} {gdNU : Nat → Nat} {gdNV : Nat → Nat} {gdL : Nat → Int64} {gdLU : Nat → Int64} {gdLV : Nat → Int64} {gdf : Int32} (x_TLX_x_gh : TLX ws x (gh)) (x_TLM_y_gh : TLM ws y (gh)) (x_BYX_x_gdT : BYX Ps ws x gdT) (x_BYM_y_gdT : BYM Ps ws y gdT) (x_WKX_x : WKX Ps ws x) (x_GWX_x_gdq : GWX ws x gdq) (x_GQ_gdq_gdg : GQ Ps ws gdq gdg) (x_HE_gdq_gdg_gdo_gdA_gdB_false_false : HE Ps ws gdq gdg gdo gdA gdB false false) (x_FLP_gdq_gda_gdb : FLP ws gdq gda gdb) (x_HD_y_gdR : AX 14 34 (HDp gdR) Ps ws y) (x_KP_y_gdU_gdV : AX 16 36 (KPp gdU gdV) Ps ws y) (x_ISA_y_gda_gdb : AX 23 44 (ISp gda gdb) Ps ws y) (x_NAM_y_gdL : AXL 20 41 (NMp gdL) Ps ws y) (x_KNM_y_gdLU_gdLV : AXL 22 43 (KNp gdLU gdLV) Ps ws y) (x_PDF_gdo_gdR_gdN : (PDO gdo gdR gdN)) (x_NLP_gdR_gdN_gdL : (NLC gdR gdN gdL)) (x_LKP_gda_gdA_gdU_gdNU_gdLU : (LKP gda gdA gdU gdNU gdLU)) (x_LKP_gdb_gdB_gdV_gdNV_gdLV : (LKP gdb gdB gdV gdNV gdLV)) (x_LF_x_gdf : FLD ws x 9 11 (.int gdf)) (x_MF_y_gdf : FLD ws y 10 10 (.int gdf)) {i : Int32} (r_i : RI i 0 3066) (hiL : i.toInt + 6 ≤ L) {C S : Nat} (hC : C + 6 ≤ 601024) (hSl : S + 125 ≤ 7293034) {ls : Array Slot} (hl : lv_has ls 7 [(4, .int i), (3, .ref o), (2, .ref y), (1, .ref x), (0, .ref b)]) {Q : State → Prop} (kx : ∀ (gh : Int) (gdT : Nat → Nat) (gdq : Nat → Nat) (gdg : Nat → Nat) (gdo : OS) (gdA : OS) (gdB : OS) (gda : Int32) (gdb : Int32) (gdR : Nat → Int32) (gdU : Nat → Int32) (gdV : Nat → Int32) (gdN : Nat → Nat) (gdNU : Nat → Nat) (gdNV : Nat → Nat) (gdL : Nat → Int64) (gdLU : Nat → Int64) (gdLV : Nat → Int64) (gdf : Int32) (Ps : PSI) (ws : va_W) (H : Heap) (locs : List Loc) (ls : Array Slot), WD D cy GG (fun q : Nat => s.heap.size ≤ q) s wrL waL [] [] Ps ws H locs → (x, 33) ∈ Ps → (y, 55) ∈ Ps → (o, 56) ∈ Ps → TLX ws x (gh) → TLM ws y (gh) → BYX Ps ws x gdT → BYM Ps ws y gdT → WKX Ps ws x → GWX ws x gdq → GQ Ps ws gdq gdg → HE Ps ws gdq gdg gdo gdA gdB false false → FLP ws gdq gda gdb → AX 14 34 (HDp gdR) Ps ws y → AX 16 36 (KPp gdU gdV) Ps ws y → AX 23 44 (ISp gda gdb) Ps ws y → AXL 20 41 (NMp gdL) Ps ws y → AXL 22 43 (KNp gdLU gdLV) Ps ws y → (PDO gdo gdR gdN) → (NLC gdR gdN gdL) → (LKP gda gdA gdU gdNU gdLU) → (LKP gdb gdB gdV gdNV gdLV) → FLD ws x 9 11 (.int gdf) → FLD ws y 10 10 (.int gdf) → lv_has ls 7 [(4, .int i), (3, .ref o), (2, .ref y), (1, .ref x), (0, .ref b)] → W p l e room_1 s m #[Value.ref b] below meth c H locs (C + 6) (S + 125) Q (F0 m 1335 ls [])) : W p l e room_1 s m #[Value.ref b] below meth c H locs C S Q (F0 m 331 ls []) := by
  have hA : ∀ q : Nat, s.heap.size ≤ q → (fun q : Nat => s.heap.size ≤ q) q := fun _ h => h
  have hbA : ¬ (fun q : Nat => s.heap.size ≤ q) b := Nat.not_le.mpr hbl
  refine lv_aload_n hx hb dL_law_331 rfl (lv_at hl 3 rfl) ?_
  refine tk_ir (va_runV (As := []) (rest := []) ⟨hx, hb, hml, hown, hts⟩ (c_X9_fault__1 l D cy z H.size Ps ws hw.1 x (gdf) h_x x_LF_x_gdf) (cwV 0 hts (gV tw_532 tw_533 tw_534 tw_1 tw_535) rfl rfl rfl (by decide +kernel) ⟨Nat.le_of_ble_eq_true rfl, Nat.le_of_ble_eq_true rfl⟩) (tg_preV hw hK hSD hA (ci := 9) (q := (RX9, TX9, 15)) rfl h_x rfl) rfl rfl hl.1 rfl (lv_room (Nat.le_of_ble_eq_true rfl)) dL_law_332 ⟨by show _ ≤ 601024; omega, by show _ ≤ 7293034; omega⟩) hw hA (fun v_1  H locs hp_v_1 hw => ?_)
  have r_v_1 : RI v_1 (-2147483648) 2147483647 := hp_v_1.1
  have x_REF_v_1_gdf := hp_v_1.2.2.2.1.1
  refine lv_aload_n hx hb dL_law_335 rfl (lv_at hl 2 rfl) ?_
  refine tk_i (va_runV (As := []) (rest := [.int v_1]) ⟨hx, hb, hml, hown, hts⟩ (c_X10_fault__1 l D cy z H.size Ps ws hw.1 y (gdf) h_y x_MF_y_gdf) (cwV 0 hts (gV tw_1421 tw_1422 tw_1423 tw_15 tw_1424) rfl rfl rfl (by decide +kernel) ⟨Nat.le_of_ble_eq_true rfl, Nat.le_of_ble_eq_true rfl⟩) (tg_preV hw hK hSD hA (ci := 10) (q := (RX10, TX10, 49)) rfl h_y rfl) rfl rfl hl.1 rfl (lv_room (Nat.le_of_ble_eq_true rfl)) dL_law_336 ⟨by show _ ≤ 601024; omega, by show _ ≤ 7293034; omega⟩) hw hA ⟨by decide, by decide⟩ (fun v_2 ws H locs hp_v_2 hw hF9 => ?_)
  have x_TLX_x_gh := TLX.over hF9 x_TLX_x_gh (by decide)
  have x_TLM_y_gh := TLM.over hF9 x_TLM_y_gh (by decide)
  have x_BYX_x_gdT := BYX.over hF9 x_BYX_x_gdT (by decide)
  have x_BYM_y_gdT := BYM.over hF9 x_BYM_y_gdT (by decide)
  have x_WKX_x := WKX.over hF9 x_WKX_x (by decide)
  have x_GWX_x_gdq := GWX.over hF9 x_GWX_x_gdq (by decide)
  have x_GQ_gdq_gdg := GQ.over hF9 x_GQ_gdq_gdg (by decide)
  have x_HE_gdq_gdg_gdo_gdA_gdB_false_false := HE.over hF9 x_HE_gdq_gdg_gdo_gdA_gdB_false_false (by decide)
  have x_FLP_gdq_gda_gdb := FLP.over hF9 x_FLP_gdq_gda_gdb (by decide)
  have x_HD_y_gdR := AX.over hF9 x_HD_y_gdR (by decide)
  have x_KP_y_gdU_gdV := AX.over hF9 x_KP_y_gdU_gdV (by decide)
  have x_ISA_y_gda_gdb := AX.over hF9 x_ISA_y_gda_gdb (by decide)
  have x_NAM_y_gdL := AXL.over hF9 x_NAM_y_gdL (by decide)
  have x_KNM_y_gdLU_gdLV := AXL.over hF9 x_KNM_y_gdLU_gdLV (by decide)
  have x_LF_x_gdf := FLD.over hF9 x_LF_x_gdf (by decide)
  have x_MF_y_gdf := FLD.over hF9 x_MF_y_gdf (by decide)
  have r_v_2 : RI v_2 (-2147483648) 2147483647 := hp_v_2.1
  have x_REF_v_2_gdf := hp_v_2.2.2.2.1.1
  refine lv_icmp_eq (tgt := 1335) hx hb dL_law_339 (by decide) (fun c_339 => ?_) (fun c_339 => ?_)
  · refine W.widen (k := C + 6) (n := S + 125) (by omega) (by omega) ?_
    exact kx (gh) gdT gdq gdg gdo gdA gdB gda gdb gdR gdU gdV gdN gdNU gdNV gdL gdLU gdLV gdf _ ws _ _ ls hw h_x h_y h_o x_TLX_x_gh x_TLM_y_gh x_BYX_x_gdT x_BYM_y_gdT x_WKX_x x_GWX_x_gdq x_GQ_gdq_gdg x_HE_gdq_gdg_gdo_gdA_gdB_false_false x_FLP_gdq_gda_gdb x_HD_y_gdR x_KP_y_gdU_gdV x_ISA_y_gda_gdb x_NAM_y_gdL x_KNM_y_gdLU_gdLV x_PDF_gdo_gdR_gdN x_NLP_gdR_gdN_gdL x_LKP_gda_gdA_gdU_gdNU_gdLU x_LKP_gdb_gdB_gdV_gdNV_gdLV x_LF_x_gdf x_MF_y_gdf (lv_sub hl [0, 1, 2, 3, 4] rfl)
  · first | exact absurd (x_REF_v_1_gdf.trans x_REF_v_2_gdf.symm) c_339 | exact absurd (x_REF_v_1_gdf.trans x_REF_v_2_gdf.symm).symm c_339
set_option maxHeartbeats 4000000 in
set_option maxRecDepth 100000 in
theorem op4 {p : Program} {e : Env} {s : State} {m : MethodId} {below : List Frame} {meth : Method} {c : Code} (l : Launch) (hl0 : l.stackTraces = false) {b L : Nat} {xs : Nat → Int32} (hx : p.tables.exec = Jvm.exec) (hb : c.code = code) (hml : c.maxLocals = 7) (hown : s.vm.findClass RL = some m.cls) (hts : ∀ w ∈ gT, w.before #[Value.ref b] s = true) (hX : va_X b L xs s s.heap) (hbl : b < s.heap.size) (D : va_G) (cy : Nat → ClassId) (z : Nat → Nat) (hK : va_K D classes (TY cy) s) (hSD : SD z (fun q : Nat => s.heap.size ≤ q) s) (hSE : SE z (fun q : Nat => s.heap.size ≤ q) s) {Ps : PSI} {ws : va_W} {H : Heap} {locs : List Loc} {x y o : Nat} (hw : WD D cy GG (fun q : Nat => s.heap.size ≤ q) s wrL waL [] [] Ps ws H locs) (h_x : (x, 33) ∈ Ps) (h_y : (y, 55) ∈ Ps) (h_o : (o, 56) ∈ Ps) {gh : Int} {gdT : Nat → Nat} {gdq : Nat → Nat} {gdg : Nat → Nat} {gdo : OS} {gdA : OS} {gdB : OS} {gda : Int32} {gdb : Int32} {gdR : Nat → Int32} {gdU : Nat → Int32} {gdV : Nat → Int32} {gdN : Nat → Nat} {gdNU : Nat → Nat} {gdNV : Nat → Nat} {gdL : Nat → Int64} {gdLU : Nat → Int64} {gdLV : Nat → Int64} {gdf : Int32} (x_TLX_x_gh : TLX ws x (gh)) (x_TLM_y_gh : TLM ws y (gh)) (x_BYX_x_gdT : BYX Ps ws x gdT) (x_BYM_y_gdT : BYM Ps ws y gdT) (x_WKX_x : WKX Ps ws x) (x_GWX_x_gdq : GWX ws x gdq) (x_GQ_gdq_gdg : GQ Ps ws gdq gdg) (x_HE_gdq_gdg_gdo_gdA_gdB_false_false : HE Ps ws gdq gdg gdo gdA gdB false false) (x_FLP_gdq_gda_gdb : FLP ws gdq gda gdb) (x_HD_y_gdR : AX 14 34 (HDp gdR) Ps ws y) (x_KP_y_gdU_gdV : AX 16 36 (KPp gdU gdV) Ps ws y) (x_ISA_y_gda_gdb : AX 23 44 (ISp gda gdb) Ps ws y) (x_NAM_y_gdL : AXL 20 41 (NMp gdL) Ps ws y) (x_KNM_y_gdLU_gdLV : AXL 22 43 (KNp gdLU gdLV) Ps ws y) (x_PDF_gdo_gdR_gdN : (PDO gdo gdR gdN)) (x_NLP_gdR_gdN_gdL : (NLC gdR gdN gdL)) (x_LKP_gda_gdA_gdU_gdNU_gdLU : (LKP gda gdA gdU gdNU gdLU)) (x_LKP_gdb_gdB_gdV_gdNV_gdLV : (LKP gdb gdB gdV gdNV gdLV)) (x_LF_x_gdf : FLD ws x 9 11 (.int gdf)) (x_MF_y_gdf : FLD ws y 10 10 (.int gdf)) {i : Int32} (r_i : RI i 0 3066) (hiL : i.toInt + 6 ≤ L) {C S : Nat} (hC : C + 6 ≤ 601024) (hSl : S + 125 ≤ 7293034) {ls : Array Slot} (hl : lv_has ls 7 [(4, .int i), (3, .ref o), (2, .ref y), (1, .ref x), (0, .ref b)]) {Q : State → Prop} (kx : ∀ (gh : Int) (gdT : Nat → Nat) (gdq : Nat → Nat) (gdg : Nat → Nat) (gdo : OS) (gdA : OS) (gdB : OS) (gda : Int32) (gdb : Int32) (gdR : Nat → Int32) (gdU : Nat → Int32) (gdV : Nat → Int32) (gdN : Nat → Nat) (gdNU : Nat → Nat) (gdNV : Nat → Nat) (gdL : Nat → Int64) (gdLU : Nat → Int64) (gdLV : Nat → Int64) (gdf : Int32) (Ps : PSI) (ws : va_W) (H : Heap) (locs : List Loc) (ls : Array Slot), WD D cy GG (fun q : Nat => s.heap.size ≤ q) s wrL waL [] [] Ps ws H locs → (x, 33) ∈ Ps → (y, 55) ∈ Ps → (o, 56) ∈ Ps → TLX ws x (gh) → TLM ws y (gh) → BYX Ps ws x gdT → BYM Ps ws y gdT → WKX Ps ws x → GWX ws x gdq → GQ Ps ws gdq gdg → HE Ps ws gdq gdg gdo gdA gdB false false → FLP ws gdq gda gdb → AX 14 34 (HDp gdR) Ps ws y → AX 16 36 (KPp gdU gdV) Ps ws y → AX 23 44 (ISp gda gdb) Ps ws y → AXL 20 41 (NMp gdL) Ps ws y → AXL 22 43 (KNp gdLU gdLV) Ps ws y → (PDO gdo gdR gdN) → (NLC gdR gdN gdL) → (LKP gda gdA gdU gdNU gdLU) → (LKP gdb gdB gdV gdNV gdLV) → FLD ws x 9 11 (.int gdf) → FLD ws y 10 10 (.int gdf) → lv_has ls 7 [(4, .int i), (3, .ref o), (2, .ref y), (1, .ref x), (0, .ref b)] → W p l e room_1 s m #[Value.ref b] below meth c H locs (C + 6) (S + 125) Q (F0 m 1335 ls [])) : W p l e room_1 s m #[Value.ref b] below meth c H locs C S Q (F0 m 344 ls []) := by
  have hA : ∀ q : Nat, s.heap.size ≤ q → (fun q : Nat => s.heap.size ≤ q) q := fun _ h => h
  have hbA : ¬ (fun q : Nat => s.heap.size ≤ q) b := Nat.not_le.mpr hbl
  refine lv_aload_n hx hb dL_law_344 rfl (lv_at hl 3 rfl) ?_
  refine lv_aload_n hx hb dL_law_345 rfl (lv_at hl 4 rfl) ?_
  refine lv_iload hx hb dL_law_346 (lv_at hl 0 rfl) ?_
  refine lv_iconst (v := 1) hx hb dL_law_348 (by decide) ?_
  refine lv_iadd hx hb dL_law_349 (lv_topi (fun v_1 e_v_1 => ?_))
  obtain ⟨t_v_1, r_v_1⟩ := tq_add (lo := 1) (hi := 3067) r_i rl_1 (by decide +kernel) e_v_1
  have t_v_1 : v_1.toInt = i.toInt + 1 := t_v_1
  refine va_sld hx hb hX hbl hbA hw.2.2.2.1 (i := v_1) (vp_in_iff.mpr ⟨by have k1 := r_v_1.1; omega, by have k1 := r_v_1.2; omega⟩) dL_law_350 ?_
  obtain ⟨v_2, e_v_2⟩ : ∃ q9 : Int32, xs (Int32.toNatClampNeg v_1) = q9 := ⟨_, rfl⟩
  refine tI e_v_2 ?_
  have r_v_2 := ri_any v_2
  refine lv_aload_n hx hb dL_law_351 rfl (lv_at hl 4 rfl) ?_
  refine lv_iload hx hb dL_law_352 (lv_at hl 0 rfl) ?_
  refine lv_iconst (v := 2) hx hb dL_law_354 (by decide) ?_
  refine lv_iadd hx hb dL_law_355 (lv_topi (fun v_3 e_v_3 => ?_))
  obtain ⟨t_v_3, r_v_3⟩ := tq_add (lo := 2) (hi := 3068) r_i rl_2 (by decide +kernel) e_v_3
  have t_v_3 : v_3.toInt = i.toInt + 2 := t_v_3
  refine va_sld hx hb hX hbl hbA hw.2.2.2.1 (i := v_3) (vp_in_iff.mpr ⟨by have k1 := r_v_3.1; omega, by have k1 := r_v_3.2; omega⟩) dL_law_356 ?_
  obtain ⟨v_4, e_v_4⟩ : ∃ q9 : Int32, xs (Int32.toNatClampNeg v_3) = q9 := ⟨_, rfl⟩
  refine tI e_v_4 ?_
  have r_v_4 := ri_any v_4
  refine tk_ir (va_runV (As := [.int v_2, .int v_4]) (rest := []) ⟨hx, hb, hml, hown, hts⟩ (c_X9_much l D cy z H.size Ps ws hw.1 x v_2 v_4 h_x r_v_2 r_v_4) (cwV 2 hts (gV tw_536 tw_537 tw_538 tw_1 tw_539) rfl rfl rfl (by decide +kernel) ⟨Nat.le_of_ble_eq_true rfl, Nat.le_of_ble_eq_true rfl⟩) (tg_preV hw hK hSD hA (ci := 9) (q := (RX9, TX9, 15)) rfl h_x rfl) rfl rfl hl.1 rfl (lv_room (Nat.le_of_ble_eq_true rfl)) dL_law_357 ⟨by show _ ≤ 601024; omega, by show _ ≤ 7293034; omega⟩) hw hA (fun v_5  H locs hp_v_5 hw => ?_)
  have r_v_5 : RI v_5 (-2147483648) 2147483647 := hp_v_5.1
  refine lv_pop hx hb dL_law_360 rfl ?_
  refine lv_aload_n hx hb dL_law_361 rfl (lv_at hl 2 rfl) ?_
  refine lv_aload_n hx hb dL_law_362 rfl (lv_at hl 4 rfl) ?_
  refine lv_iload hx hb dL_law_363 (lv_at hl 0 rfl) ?_
  refine lv_iconst (v := 1) hx hb dL_law_365 (by decide) ?_
  refine lv_iadd hx hb dL_law_366 (lv_topi (fun v_6 e_v_6 => ?_))
  obtain ⟨t_v_6, r_v_6⟩ := tq_add (lo := 1) (hi := 3067) r_i rl_1 (by decide +kernel) e_v_6
  have t_v_6 : v_6.toInt = i.toInt + 1 := t_v_6
  refine va_sld hx hb hX hbl hbA hw.2.2.2.1 (i := v_6) (vp_in_iff.mpr ⟨by have k1 := r_v_6.1; omega, by have k1 := r_v_6.2; omega⟩) dL_law_367 ?_
  refine tI (y := v_2) (by rw [e_v_6, ← e_v_1]; exact e_v_2) ?_
  refine lv_aload_n hx hb dL_law_368 rfl (lv_at hl 4 rfl) ?_
  refine lv_iload hx hb dL_law_369 (lv_at hl 0 rfl) ?_
  refine lv_iconst (v := 2) hx hb dL_law_371 (by decide) ?_
  refine lv_iadd hx hb dL_law_372 (lv_topi (fun v_8 e_v_8 => ?_))
  obtain ⟨t_v_8, r_v_8⟩ := tq_add (lo := 2) (hi := 3068) r_i rl_2 (by decide +kernel) e_v_8
  have t_v_8 : v_8.toInt = i.toInt + 2 := t_v_8
  refine va_sld hx hb hX hbl hbA hw.2.2.2.1 (i := v_8) (vp_in_iff.mpr ⟨by have k1 := r_v_8.1; omega, by have k1 := r_v_8.2; omega⟩) dL_law_373 ?_
  refine tI (y := v_4) (by rw [e_v_8, ← e_v_3]; exact e_v_4) ?_
  refine tk_i (va_runV (As := [.int v_2, .int v_4]) (rest := []) ⟨hx, hb, hml, hown, hts⟩ (c_X10_much l D cy z H.size Ps ws hw.1 y v_2 v_4 h_y r_v_2 r_v_4) (cwV 2 hts (gV tw_1425 tw_1426 tw_1427 tw_15 tw_1428) rfl rfl rfl (by decide +kernel) ⟨Nat.le_of_ble_eq_true rfl, Nat.le_of_ble_eq_true rfl⟩) (tg_preV hw hK hSD hA (ci := 10) (q := (RX10, TX10, 49)) rfl h_y rfl) rfl rfl hl.1 rfl (lv_room (Nat.le_of_ble_eq_true rfl)) dL_law_374 ⟨by show _ ≤ 601024; omega, by show _ ≤ 7293034; omega⟩) hw hA ⟨by decide, by decide⟩ (fun v_10 ws H locs hp_v_10 hw hF9 => ?_)
  have x_TLX_x_gh := TLX.over hF9 x_TLX_x_gh (by decide)
  have x_TLM_y_gh := TLM.over hF9 x_TLM_y_gh (by decide)
  have x_BYX_x_gdT := BYX.over hF9 x_BYX_x_gdT (by decide)
  have x_BYM_y_gdT := BYM.over hF9 x_BYM_y_gdT (by decide)
  have x_WKX_x := WKX.over hF9 x_WKX_x (by decide)
  have x_GWX_x_gdq := GWX.over hF9 x_GWX_x_gdq (by decide)
  have x_GQ_gdq_gdg := GQ.over hF9 x_GQ_gdq_gdg (by decide)
  have x_HE_gdq_gdg_gdo_gdA_gdB_false_false := HE.over hF9 x_HE_gdq_gdg_gdo_gdA_gdB_false_false (by decide)
  have x_FLP_gdq_gda_gdb := FLP.over hF9 x_FLP_gdq_gda_gdb (by decide)
  have x_HD_y_gdR := AX.over hF9 x_HD_y_gdR (by decide)
  have x_KP_y_gdU_gdV := AX.over hF9 x_KP_y_gdU_gdV (by decide)
  have x_ISA_y_gda_gdb := AX.over hF9 x_ISA_y_gda_gdb (by decide)
  have x_NAM_y_gdL := AXL.over hF9 x_NAM_y_gdL (by decide)
  have x_KNM_y_gdLU_gdLV := AXL.over hF9 x_KNM_y_gdLU_gdLV (by decide)
  have x_LF_x_gdf := FLD.over hF9 x_LF_x_gdf (by decide)
  have x_MF_y_gdf := FLD.over hF9 x_MF_y_gdf (by decide)
  have r_v_10 : RI v_10 (-2147483648) 2147483647 := hp_v_10.1
  refine lv_pop hx hb dL_law_377 rfl ?_
  refine lv_goto (tgt := 1335) hx hb dL_law_378 (by decide) ?_
  refine W.widen (k := C + 6) (n := S + 125) (by omega) (by omega) ?_
  exact kx (gh) gdT gdq gdg gdo gdA gdB gda gdb gdR gdU gdV gdN gdNU gdNV gdL gdLU gdLV gdf _ ws _ _ ls hw h_x h_y h_o x_TLX_x_gh x_TLM_y_gh x_BYX_x_gdT x_BYM_y_gdT x_WKX_x x_GWX_x_gdq x_GQ_gdq_gdg x_HE_gdq_gdg_gdo_gdA_gdB_false_false x_FLP_gdq_gda_gdb x_HD_y_gdR x_KP_y_gdU_gdV x_ISA_y_gda_gdb x_NAM_y_gdL x_KNM_y_gdLU_gdLV x_PDF_gdo_gdR_gdN x_NLP_gdR_gdN_gdL x_LKP_gda_gdA_gdU_gdNU_gdLU x_LKP_gdb_gdB_gdV_gdNV_gdLV x_LF_x_gdf x_MF_y_gdf (lv_sub hl [0, 1, 2, 3, 4] rfl)
set_option maxHeartbeats 4000000 in
set_option maxRecDepth 100000 in
theorem op5 {p : Program} {e : Env} {s : State} {m : MethodId} {below : List Frame} {meth : Method} {c : Code} (l : Launch) (hl0 : l.stackTraces = false) {b L : Nat} {xs : Nat → Int32} (hx : p.tables.exec = Jvm.exec) (hb : c.code = code) (hml : c.maxLocals = 7) (hown : s.vm.findClass RL = some m.cls) (hts : ∀ w ∈ gT, w.before #[Value.ref b] s = true) (hX : va_X b L xs s s.heap) (hbl : b < s.heap.size) (D : va_G) (cy : Nat → ClassId) (z : Nat → Nat) (hK : va_K D classes (TY cy) s) (hSD : SD z (fun q : Nat => s.heap.size ≤ q) s) (hSE : SE z (fun q : Nat => s.heap.size ≤ q) s) {Ps : PSI} {ws : va_W} {H : Heap} {locs : List Loc} {x y o : Nat} (hw : WD D cy GG (fun q : Nat => s.heap.size ≤ q) s wrL waL [] [] Ps ws H locs) (h_x : (x, 33) ∈ Ps) (h_y : (y, 55) ∈ Ps) (h_o : (o, 56) ∈ Ps) {gh : Int} {gdT : Nat → Nat} {gdq : Nat → Nat} {gdg : Nat → Nat} {gdo : OS} {gdA : OS} {gdB : OS} {gda : Int32} {gdb : Int32} {gdR : Nat → Int32} {gdU : Nat → Int32} {gdV : Nat → Int32} {gdN : Nat → Nat} {gdNU : Nat → Nat} {gdNV : Nat → Nat} {gdL : Nat → Int64} {gdLU : Nat → Int64} {gdLV : Nat → Int64} {gdf : Int32} (x_TLX_x_gh : TLX ws x (gh)) (x_TLM_y_gh : TLM ws y (gh)) (x_BYX_x_gdT : BYX Ps ws x gdT) (x_BYM_y_gdT : BYM Ps ws y gdT) (x_WKX_x : WKX Ps ws x) (x_GWX_x_gdq : GWX ws x gdq) (x_GQ_gdq_gdg : GQ Ps ws gdq gdg) (x_HE_gdq_gdg_gdo_gdA_gdB_false_false : HE Ps ws gdq gdg gdo gdA gdB false false) (x_FLP_gdq_gda_gdb : FLP ws gdq gda gdb) (x_HD_y_gdR : AX 14 34 (HDp gdR) Ps ws y) (x_KP_y_gdU_gdV : AX 16 36 (KPp gdU gdV) Ps ws y) (x_ISA_y_gda_gdb : AX 23 44 (ISp gda gdb) Ps ws y) (x_NAM_y_gdL : AXL 20 41 (NMp gdL) Ps ws y) (x_KNM_y_gdLU_gdLV : AXL 22 43 (KNp gdLU gdLV) Ps ws y) (x_PDF_gdo_gdR_gdN : (PDO gdo gdR gdN)) (x_NLP_gdR_gdN_gdL : (NLC gdR gdN gdL)) (x_LKP_gda_gdA_gdU_gdNU_gdLU : (LKP gda gdA gdU gdNU gdLU)) (x_LKP_gdb_gdB_gdV_gdNV_gdLV : (LKP gdb gdB gdV gdNV gdLV)) (x_LF_x_gdf : FLD ws x 9 11 (.int gdf)) (x_MF_y_gdf : FLD ws y 10 10 (.int gdf)) {i : Int32} (r_i : RI i 0 3066) (hiL : i.toInt + 6 ≤ L) {C S : Nat} (hC : C + 6 ≤ 601024) (hSl : S + 125 ≤ 7293034) {ls : Array Slot} (hl : lv_has ls 7 [(4, .int i), (3, .ref o), (2, .ref y), (1, .ref x), (0, .ref b)]) {Q : State → Prop} (kx : ∀ (gh : Int) (gdT : Nat → Nat) (gdq : Nat → Nat) (gdg : Nat → Nat) (gdo : OS) (gdA : OS) (gdB : OS) (gda : Int32) (gdb : Int32) (gdR : Nat → Int32) (gdU : Nat → Int32) (gdV : Nat → Int32) (gdN : Nat → Nat) (gdNU : Nat → Nat) (gdNV : Nat → Nat) (gdL : Nat → Int64) (gdLU : Nat → Int64) (gdLV : Nat → Int64) (gdf : Int32) (Ps : PSI) (ws : va_W) (H : Heap) (locs : List Loc) (ls : Array Slot), WD D cy GG (fun q : Nat => s.heap.size ≤ q) s wrL waL [] [] Ps ws H locs → (x, 33) ∈ Ps → (y, 55) ∈ Ps → (o, 56) ∈ Ps → TLX ws x (gh) → TLM ws y (gh) → BYX Ps ws x gdT → BYM Ps ws y gdT → WKX Ps ws x → GWX ws x gdq → GQ Ps ws gdq gdg → HE Ps ws gdq gdg gdo gdA gdB false false → FLP ws gdq gda gdb → AX 14 34 (HDp gdR) Ps ws y → AX 16 36 (KPp gdU gdV) Ps ws y → AX 23 44 (ISp gda gdb) Ps ws y → AXL 20 41 (NMp gdL) Ps ws y → AXL 22 43 (KNp gdLU gdLV) Ps ws y → (PDO gdo gdR gdN) → (NLC gdR gdN gdL) → (LKP gda gdA gdU gdNU gdLU) → (LKP gdb gdB gdV gdNV gdLV) → FLD ws x 9 11 (.int gdf) → FLD ws y 10 10 (.int gdf) → lv_has ls 7 [(4, .int i), (3, .ref o), (2, .ref y), (1, .ref x), (0, .ref b)] → W p l e room_1 s m #[Value.ref b] below meth c H locs (C + 6) (S + 125) Q (F0 m 1335 ls [])) : W p l e room_1 s m #[Value.ref b] below meth c H locs C S Q (F0 m 381 ls []) := by
  have hA : ∀ q : Nat, s.heap.size ≤ q → (fun q : Nat => s.heap.size ≤ q) q := fun _ h => h
  have hbA : ¬ (fun q : Nat => s.heap.size ≤ q) b := Nat.not_le.mpr hbl
  refine lv_aload_n hx hb dL_law_381 rfl (lv_at hl 3 rfl) ?_
  refine lv_aload_n hx hb dL_law_382 rfl (lv_at hl 4 rfl) ?_
  refine lv_iload hx hb dL_law_383 (lv_at hl 0 rfl) ?_
  refine lv_iconst (v := 1) hx hb dL_law_385 (by decide) ?_
  refine lv_iadd hx hb dL_law_386 (lv_topi (fun v_1 e_v_1 => ?_))
  obtain ⟨t_v_1, r_v_1⟩ := tq_add (lo := 1) (hi := 3067) r_i rl_1 (by decide +kernel) e_v_1
  have t_v_1 : v_1.toInt = i.toInt + 1 := t_v_1
  refine va_sld hx hb hX hbl hbA hw.2.2.2.1 (i := v_1) (vp_in_iff.mpr ⟨by have k1 := r_v_1.1; omega, by have k1 := r_v_1.2; omega⟩) dL_law_387 ?_
  obtain ⟨v_2, e_v_2⟩ : ∃ q9 : Int32, xs (Int32.toNatClampNeg v_1) = q9 := ⟨_, rfl⟩
  refine tI e_v_2 ?_
  have r_v_2 := ri_any v_2
  refine lv_aload_n hx hb dL_law_388 rfl (lv_at hl 4 rfl) ?_
  refine lv_iload hx hb dL_law_389 (lv_at hl 0 rfl) ?_
  refine lv_iconst (v := 2) hx hb dL_law_391 (by decide) ?_
  refine lv_iadd hx hb dL_law_392 (lv_topi (fun v_3 e_v_3 => ?_))
  obtain ⟨t_v_3, r_v_3⟩ := tq_add (lo := 2) (hi := 3068) r_i rl_2 (by decide +kernel) e_v_3
  have t_v_3 : v_3.toInt = i.toInt + 2 := t_v_3
  refine va_sld hx hb hX hbl hbA hw.2.2.2.1 (i := v_3) (vp_in_iff.mpr ⟨by have k1 := r_v_3.1; omega, by have k1 := r_v_3.2; omega⟩) dL_law_393 ?_
  obtain ⟨v_4, e_v_4⟩ : ∃ q9 : Int32, xs (Int32.toNatClampNeg v_3) = q9 := ⟨_, rfl⟩
  refine tI e_v_4 ?_
  have r_v_4 := ri_any v_4
  refine lv_aload_n hx hb dL_law_394 rfl (lv_at hl 1 rfl) ?_
  have hFc := tg_free hw hA
  refine vx_calli (vx_runSX (hh := [(0, 10, 13, 13)]) (As := [.ref x, .int v_2, .int v_4, .ref o]) (rest := []) ⟨hx, hb, hml, hown, hts⟩ (c_Z_parcel l hl0 D cy z H.size Ps ws hw.1 x v_2 v_4 o h_x h_o) (vx_cwSW 4 hts (gSW tw_1035 tw_1036 tw_0 cwL_parcel) rfl rfl rfl (by decide +kernel) ⟨Nat.le_of_ble_eq_true rfl, Nat.le_of_ble_eq_true rfl⟩) (tg_preSE hw hK hSD hSE hA) rfl rfl hl.1 rfl (lv_room (Nat.le_of_ble_eq_true rfl)) dL_law_395 ⟨by show _ ≤ 601024; omega, by show _ ≤ 7293034; omega⟩) hw.2.2.2.1 (fun q _ h => hFc q h) hFc (fun q _ h => hFc q h) (fun E ce q9 u t H1 locs1 ht ha hp hBX hz1 hk1 hS1 hcell hcv hcl => hp.elim) (fun r ws1 t H1 locs1 ht ha hp hB hz1 hk1 hS1 => ?_)
  obtain ⟨hP1, -, hD1⟩ := hB
  rw [ht] at hP1
  have hw : WD D cy GG (fun q : Nat => s.heap.size ≤ q) s wrL waL [] [] Ps ws1 H1 locs1 := ⟨hp.2.1, hP1, ⟨hD1.1, fun k q hk => hFc _ (hD1.2 k q hk)⟩, hS1, FR.nil, rfl, Ps, rfl⟩
  have x_TLX_x_gh := TLX.over hp.2.2 x_TLX_x_gh (by decide)
  have x_TLM_y_gh := TLM.over hp.2.2 x_TLM_y_gh (by decide)
  have x_BYX_x_gdT := BYX.over hp.2.2 x_BYX_x_gdT (by decide)
  have x_BYM_y_gdT := BYM.over hp.2.2 x_BYM_y_gdT (by decide)
  have x_WKX_x := WKX.over hp.2.2 x_WKX_x (by decide)
  have x_GWX_x_gdq := GWX.over hp.2.2 x_GWX_x_gdq (by decide)
  have x_GQ_gdq_gdg := GQ.over hp.2.2 x_GQ_gdq_gdg (by decide)
  have x_HE_gdq_gdg_gdo_gdA_gdB_false_false := HE.over hp.2.2 x_HE_gdq_gdg_gdo_gdA_gdB_false_false (by decide)
  have x_FLP_gdq_gda_gdb := FLP.over hp.2.2 x_FLP_gdq_gda_gdb (by decide)
  have x_HD_y_gdR := AX.over hp.2.2 x_HD_y_gdR (by decide)
  have x_KP_y_gdU_gdV := AX.over hp.2.2 x_KP_y_gdU_gdV (by decide)
  have x_ISA_y_gda_gdb := AX.over hp.2.2 x_ISA_y_gda_gdb (by decide)
  have x_NAM_y_gdL := AXL.over hp.2.2 x_NAM_y_gdL (by decide)
  have x_KNM_y_gdLU_gdLV := AXL.over hp.2.2 x_KNM_y_gdLU_gdLV (by decide)
  have x_LF_x_gdf := FLD.over hp.2.2 x_LF_x_gdf (by decide)
  have x_MF_y_gdf := FLD.over hp.2.2 x_MF_y_gdf (by decide)
  generalize ws1 = ws at hw x_TLX_x_gh x_TLM_y_gh x_BYX_x_gdT x_BYM_y_gdT x_WKX_x x_GWX_x_gdq x_GQ_gdq_gdg x_HE_gdq_gdg_gdo_gdA_gdB_false_false x_FLP_gdq_gda_gdb x_HD_y_gdR x_KP_y_gdU_gdV x_ISA_y_gda_gdb x_NAM_y_gdL x_KNM_y_gdLU_gdLV x_LF_x_gdf x_MF_y_gdf ⊢
  generalize H1 = H at hw ⊢
  generalize locs1 = locs at hw ⊢
  have r_vr := ri_any r
  refine lv_istore (lv' := [(5, .int r), (4, .int i), (3, .ref o), (2, .ref y), (1, .ref x), (0, .ref b)]) hx hb dL_law_398 hl (by decide) rfl (fun ls hl => ?_)
  refine lv_aload_n hx hb dL_law_400 rfl (lv_at hl 3 rfl) ?_
  refine lv_aload_n hx hb dL_law_401 rfl (lv_at hl 5 rfl) ?_
  refine lv_iload hx hb dL_law_402 (lv_at hl 1 rfl) ?_
  refine lv_iconst (v := 1) hx hb dL_law_404 (by decide) ?_
  refine lv_iadd hx hb dL_law_405 (lv_topi (fun v_5 e_v_5 => ?_))
  obtain ⟨t_v_5, r_v_5⟩ := tq_add (lo := 1) (hi := 3067) r_i rl_1 (by decide +kernel) e_v_5
  have t_v_5 : v_5.toInt = i.toInt + 1 := t_v_5
  refine va_sld hx hb hX hbl hbA hw.2.2.2.1 (i := v_5) (vp_in_iff.mpr ⟨by have k1 := r_v_5.1; omega, by have k1 := r_v_5.2; omega⟩) dL_law_406 ?_
  refine tI (y := v_2) (by rw [e_v_5, ← e_v_1]; exact e_v_2) ?_
  refine lv_aload_n hx hb dL_law_407 rfl (lv_at hl 5 rfl) ?_
  refine lv_iload hx hb dL_law_408 (lv_at hl 1 rfl) ?_
  refine lv_iconst (v := 2) hx hb dL_law_410 (by decide) ?_
  refine lv_iadd hx hb dL_law_411 (lv_topi (fun v_7 e_v_7 => ?_))
  obtain ⟨t_v_7, r_v_7⟩ := tq_add (lo := 2) (hi := 3068) r_i rl_2 (by decide +kernel) e_v_7
  have t_v_7 : v_7.toInt = i.toInt + 2 := t_v_7
  refine va_sld hx hb hX hbl hbA hw.2.2.2.1 (i := v_7) (vp_in_iff.mpr ⟨by have k1 := r_v_7.1; omega, by have k1 := r_v_7.2; omega⟩) dL_law_412 ?_
  refine tI (y := v_4) (by rw [e_v_7, ← e_v_3]; exact e_v_4) ?_
  refine tk_i (va_runV (As := [.int v_2, .int v_4]) (rest := []) ⟨hx, hb, hml, hown, hts⟩ (c_X10_parcel l D cy z H.size Ps ws hw.1 y v_2 v_4 h_y r_v_2 r_v_4) (cwV 2 hts (gV tw_1441 tw_1442 tw_1443 tw_15 tw_1444) rfl rfl rfl (by decide +kernel) ⟨Nat.le_of_ble_eq_true rfl, Nat.le_of_ble_eq_true rfl⟩) (tg_preV hw hK hSD hA (ci := 10) (q := (RX10, TX10, 49)) rfl h_y rfl) rfl rfl hl.1 rfl (lv_room (Nat.le_of_ble_eq_true rfl)) dL_law_413 ⟨by show _ ≤ 601024; omega, by show _ ≤ 7293034; omega⟩) hw hA ⟨by decide, by decide⟩ (fun v_9 ws H locs hp_v_9 hw hF9 => ?_)
  have x_TLX_x_gh := TLX.over hF9 x_TLX_x_gh (by decide)
  have x_TLM_y_gh := TLM.over hF9 x_TLM_y_gh (by decide)
  have x_BYX_x_gdT := BYX.over hF9 x_BYX_x_gdT (by decide)
  have x_BYM_y_gdT := BYM.over hF9 x_BYM_y_gdT (by decide)
  have x_WKX_x := WKX.over hF9 x_WKX_x (by decide)
  have x_GWX_x_gdq := GWX.over hF9 x_GWX_x_gdq (by decide)
  have x_GQ_gdq_gdg := GQ.over hF9 x_GQ_gdq_gdg (by decide)
  have x_HE_gdq_gdg_gdo_gdA_gdB_false_false := HE.over hF9 x_HE_gdq_gdg_gdo_gdA_gdB_false_false (by decide)
  have x_FLP_gdq_gda_gdb := FLP.over hF9 x_FLP_gdq_gda_gdb (by decide)
  have x_HD_y_gdR := AX.over hF9 x_HD_y_gdR (by decide)
  have x_KP_y_gdU_gdV := AX.over hF9 x_KP_y_gdU_gdV (by decide)
  have x_ISA_y_gda_gdb := AX.over hF9 x_ISA_y_gda_gdb (by decide)
  have x_NAM_y_gdL := AXL.over hF9 x_NAM_y_gdL (by decide)
  have x_KNM_y_gdLU_gdLV := AXL.over hF9 x_KNM_y_gdLU_gdLV (by decide)
  have x_LF_x_gdf := FLD.over hF9 x_LF_x_gdf (by decide)
  have x_MF_y_gdf := FLD.over hF9 x_MF_y_gdf (by decide)
  have r_v_9 : RI v_9 (-2147483648) 2147483647 := hp_v_9.1
  refine lv_istore (lv' := [(6, .int v_9), (5, .int r), (4, .int i), (3, .ref o), (2, .ref y), (1, .ref x), (0, .ref b)]) hx hb dL_law_416 hl (by decide) rfl (fun ls hl => ?_)
  refine lv_goto (tgt := 1335) hx hb dL_law_418 (by decide) ?_
  refine W.widen (k := C + 6) (n := S + 125) (by omega) (by omega) ?_
  exact kx (gh) gdT gdq gdg gdo gdA gdB gda gdb gdR gdU gdV gdN gdNU gdNV gdL gdLU gdLV gdf _ ws _ _ ls hw h_x h_y h_o x_TLX_x_gh x_TLM_y_gh x_BYX_x_gdT x_BYM_y_gdT x_WKX_x x_GWX_x_gdq x_GQ_gdq_gdg x_HE_gdq_gdg_gdo_gdA_gdB_false_false x_FLP_gdq_gda_gdb x_HD_y_gdR x_KP_y_gdU_gdV x_ISA_y_gda_gdb x_NAM_y_gdL x_KNM_y_gdLU_gdLV x_PDF_gdo_gdR_gdN x_NLP_gdR_gdN_gdL x_LKP_gda_gdA_gdU_gdNU_gdLU x_LKP_gdb_gdB_gdV_gdNV_gdLV x_LF_x_gdf x_MF_y_gdf (lv_sub hl [2, 3, 4, 5, 6] rfl)
set_option maxHeartbeats 4000000 in
set_option maxRecDepth 100000 in
theorem op6 {p : Program} {e : Env} {s : State} {m : MethodId} {below : List Frame} {meth : Method} {c : Code} (l : Launch) (hl0 : l.stackTraces = false) {b L : Nat} {xs : Nat → Int32} (hx : p.tables.exec = Jvm.exec) (hb : c.code = code) (hml : c.maxLocals = 7) (hown : s.vm.findClass RL = some m.cls) (hts : ∀ w ∈ gT, w.before #[Value.ref b] s = true) (hX : va_X b L xs s s.heap) (hbl : b < s.heap.size) (D : va_G) (cy : Nat → ClassId) (z : Nat → Nat) (hK : va_K D classes (TY cy) s) (hSD : SD z (fun q : Nat => s.heap.size ≤ q) s) (hSE : SE z (fun q : Nat => s.heap.size ≤ q) s) {Ps : PSI} {ws : va_W} {H : Heap} {locs : List Loc} {x y o : Nat} (hw : WD D cy GG (fun q : Nat => s.heap.size ≤ q) s wrL waL [] [] Ps ws H locs) (h_x : (x, 33) ∈ Ps) (h_y : (y, 55) ∈ Ps) (h_o : (o, 56) ∈ Ps) {gh : Int} {gdT : Nat → Nat} {gdq : Nat → Nat} {gdg : Nat → Nat} {gdo : OS} {gdA : OS} {gdB : OS} {gda : Int32} {gdb : Int32} {gdR : Nat → Int32} {gdU : Nat → Int32} {gdV : Nat → Int32} {gdN : Nat → Nat} {gdNU : Nat → Nat} {gdNV : Nat → Nat} {gdL : Nat → Int64} {gdLU : Nat → Int64} {gdLV : Nat → Int64} {gdf : Int32} (x_TLX_x_gh : TLX ws x (gh)) (x_TLM_y_gh : TLM ws y (gh)) (x_BYX_x_gdT : BYX Ps ws x gdT) (x_BYM_y_gdT : BYM Ps ws y gdT) (x_WKX_x : WKX Ps ws x) (x_GWX_x_gdq : GWX ws x gdq) (x_GQ_gdq_gdg : GQ Ps ws gdq gdg) (x_HE_gdq_gdg_gdo_gdA_gdB_false_false : HE Ps ws gdq gdg gdo gdA gdB false false) (x_FLP_gdq_gda_gdb : FLP ws gdq gda gdb) (x_HD_y_gdR : AX 14 34 (HDp gdR) Ps ws y) (x_KP_y_gdU_gdV : AX 16 36 (KPp gdU gdV) Ps ws y) (x_ISA_y_gda_gdb : AX 23 44 (ISp gda gdb) Ps ws y) (x_NAM_y_gdL : AXL 20 41 (NMp gdL) Ps ws y) (x_KNM_y_gdLU_gdLV : AXL 22 43 (KNp gdLU gdLV) Ps ws y) (x_PDF_gdo_gdR_gdN : (PDO gdo gdR gdN)) (x_NLP_gdR_gdN_gdL : (NLC gdR gdN gdL)) (x_LKP_gda_gdA_gdU_gdNU_gdLU : (LKP gda gdA gdU gdNU gdLU)) (x_LKP_gdb_gdB_gdV_gdNV_gdLV : (LKP gdb gdB gdV gdNV gdLV)) (x_LF_x_gdf : FLD ws x 9 11 (.int gdf)) (x_MF_y_gdf : FLD ws y 10 10 (.int gdf)) {i : Int32} (r_i : RI i 0 3066) (hiL : i.toInt + 6 ≤ L) {C S : Nat} (hC : C + 6 ≤ 601024) (hSl : S + 125 ≤ 7293034) {ls : Array Slot} (hl : lv_has ls 7 [(4, .int i), (3, .ref o), (2, .ref y), (1, .ref x), (0, .ref b)]) {Q : State → Prop} (kx : ∀ (gh : Int) (gdT : Nat → Nat) (gdq : Nat → Nat) (gdg : Nat → Nat) (gdo : OS) (gdA : OS) (gdB : OS) (gda : Int32) (gdb : Int32) (gdR : Nat → Int32) (gdU : Nat → Int32) (gdV : Nat → Int32) (gdN : Nat → Nat) (gdNU : Nat → Nat) (gdNV : Nat → Nat) (gdL : Nat → Int64) (gdLU : Nat → Int64) (gdLV : Nat → Int64) (gdf : Int32) (Ps : PSI) (ws : va_W) (H : Heap) (locs : List Loc) (ls : Array Slot), WD D cy GG (fun q : Nat => s.heap.size ≤ q) s wrL waL [] [] Ps ws H locs → (x, 33) ∈ Ps → (y, 55) ∈ Ps → (o, 56) ∈ Ps → TLX ws x (gh) → TLM ws y (gh) → BYX Ps ws x gdT → BYM Ps ws y gdT → WKX Ps ws x → GWX ws x gdq → GQ Ps ws gdq gdg → HE Ps ws gdq gdg gdo gdA gdB false false → FLP ws gdq gda gdb → AX 14 34 (HDp gdR) Ps ws y → AX 16 36 (KPp gdU gdV) Ps ws y → AX 23 44 (ISp gda gdb) Ps ws y → AXL 20 41 (NMp gdL) Ps ws y → AXL 22 43 (KNp gdLU gdLV) Ps ws y → (PDO gdo gdR gdN) → (NLC gdR gdN gdL) → (LKP gda gdA gdU gdNU gdLU) → (LKP gdb gdB gdV gdNV gdLV) → FLD ws x 9 11 (.int gdf) → FLD ws y 10 10 (.int gdf) → lv_has ls 7 [(4, .int i), (3, .ref o), (2, .ref y), (1, .ref x), (0, .ref b)] → W p l e room_1 s m #[Value.ref b] below meth c H locs (C + 6) (S + 125) Q (F0 m 1335 ls [])) : W p l e room_1 s m #[Value.ref b] below meth c H locs C S Q (F0 m 421 ls []) := by
  have hA : ∀ q : Nat, s.heap.size ≤ q → (fun q : Nat => s.heap.size ≤ q) q := fun _ h => h
  have hbA : ¬ (fun q : Nat => s.heap.size ≤ q) b := Nat.not_le.mpr hbl
  refine lv_aload_n hx hb dL_law_421 rfl (lv_at hl 3 rfl) ?_
  refine lv_aload_n hx hb dL_law_422 rfl (lv_at hl 4 rfl) ?_
  refine lv_iload hx hb dL_law_423 (lv_at hl 0 rfl) ?_
  refine lv_iconst (v := 1) hx hb dL_law_425 (by decide) ?_
  refine lv_iadd hx hb dL_law_426 (lv_topi (fun v_1 e_v_1 => ?_))
  obtain ⟨t_v_1, r_v_1⟩ := tq_add (lo := 1) (hi := 3067) r_i rl_1 (by decide +kernel) e_v_1
  have t_v_1 : v_1.toInt = i.toInt + 1 := t_v_1
  refine va_sld hx hb hX hbl hbA hw.2.2.2.1 (i := v_1) (vp_in_iff.mpr ⟨by have k1 := r_v_1.1; omega, by have k1 := r_v_1.2; omega⟩) dL_law_427 ?_
  obtain ⟨v_2, e_v_2⟩ : ∃ q9 : Int32, xs (Int32.toNatClampNeg v_1) = q9 := ⟨_, rfl⟩
  refine tI e_v_2 ?_
  have r_v_2 := ri_any v_2
  refine lv_aload_n hx hb dL_law_428 rfl (lv_at hl 4 rfl) ?_
  refine lv_iload hx hb dL_law_429 (lv_at hl 0 rfl) ?_
  refine lv_iconst (v := 2) hx hb dL_law_431 (by decide) ?_
  refine lv_iadd hx hb dL_law_432 (lv_topi (fun v_3 e_v_3 => ?_))
  obtain ⟨t_v_3, r_v_3⟩ := tq_add (lo := 2) (hi := 3068) r_i rl_2 (by decide +kernel) e_v_3
  have t_v_3 : v_3.toInt = i.toInt + 2 := t_v_3
  refine va_sld hx hb hX hbl hbA hw.2.2.2.1 (i := v_3) (vp_in_iff.mpr ⟨by have k1 := r_v_3.1; omega, by have k1 := r_v_3.2; omega⟩) dL_law_433 ?_
  obtain ⟨v_4, e_v_4⟩ : ∃ q9 : Int32, xs (Int32.toNatClampNeg v_3) = q9 := ⟨_, rfl⟩
  refine tI e_v_4 ?_
  have r_v_4 := ri_any v_4
  refine lv_aload_n hx hb dL_law_434 rfl (lv_at hl 1 rfl) ?_
  have hFc := tg_free hw hA
  refine vx_calli (vx_runSX (hh := [(0, 10, 13, 13)]) (As := [.ref x, .int v_2, .int v_4, .ref o]) (rest := []) ⟨hx, hb, hml, hown, hts⟩ (c_Z_person l hl0 D cy z H.size Ps ws hw.1 x v_2 v_4 o h_x h_o) (vx_cwSW 4 hts (gSW tw_1110 tw_1111 tw_0 cwL_person) rfl rfl rfl (by decide +kernel) ⟨Nat.le_of_ble_eq_true rfl, Nat.le_of_ble_eq_true rfl⟩) (tg_preSE hw hK hSD hSE hA) rfl rfl hl.1 rfl (lv_room (Nat.le_of_ble_eq_true rfl)) dL_law_435 ⟨by show _ ≤ 601024; omega, by show _ ≤ 7293034; omega⟩) hw.2.2.2.1 (fun q _ h => hFc q h) hFc (fun q _ h => hFc q h) (fun E ce q9 u t H1 locs1 ht ha hp hBX hz1 hk1 hS1 hcell hcv hcl => hp.elim) (fun r ws1 t H1 locs1 ht ha hp hB hz1 hk1 hS1 => ?_)
  obtain ⟨hP1, -, hD1⟩ := hB
  rw [ht] at hP1
  have hw : WD D cy GG (fun q : Nat => s.heap.size ≤ q) s wrL waL [] [] Ps ws1 H1 locs1 := ⟨hp.2.1, hP1, ⟨hD1.1, fun k q hk => hFc _ (hD1.2 k q hk)⟩, hS1, FR.nil, rfl, Ps, rfl⟩
  have x_TLX_x_gh := TLX.over hp.2.2 x_TLX_x_gh (by decide)
  have x_TLM_y_gh := TLM.over hp.2.2 x_TLM_y_gh (by decide)
  have x_BYX_x_gdT := BYX.over hp.2.2 x_BYX_x_gdT (by decide)
  have x_BYM_y_gdT := BYM.over hp.2.2 x_BYM_y_gdT (by decide)
  have x_WKX_x := WKX.over hp.2.2 x_WKX_x (by decide)
  have x_GWX_x_gdq := GWX.over hp.2.2 x_GWX_x_gdq (by decide)
  have x_GQ_gdq_gdg := GQ.over hp.2.2 x_GQ_gdq_gdg (by decide)
  have x_HE_gdq_gdg_gdo_gdA_gdB_false_false := HE.over hp.2.2 x_HE_gdq_gdg_gdo_gdA_gdB_false_false (by decide)
  have x_FLP_gdq_gda_gdb := FLP.over hp.2.2 x_FLP_gdq_gda_gdb (by decide)
  have x_HD_y_gdR := AX.over hp.2.2 x_HD_y_gdR (by decide)
  have x_KP_y_gdU_gdV := AX.over hp.2.2 x_KP_y_gdU_gdV (by decide)
  have x_ISA_y_gda_gdb := AX.over hp.2.2 x_ISA_y_gda_gdb (by decide)
  have x_NAM_y_gdL := AXL.over hp.2.2 x_NAM_y_gdL (by decide)
  have x_KNM_y_gdLU_gdLV := AXL.over hp.2.2 x_KNM_y_gdLU_gdLV (by decide)
  have x_LF_x_gdf := FLD.over hp.2.2 x_LF_x_gdf (by decide)
  have x_MF_y_gdf := FLD.over hp.2.2 x_MF_y_gdf (by decide)
  generalize ws1 = ws at hw x_TLX_x_gh x_TLM_y_gh x_BYX_x_gdT x_BYM_y_gdT x_WKX_x x_GWX_x_gdq x_GQ_gdq_gdg x_HE_gdq_gdg_gdo_gdA_gdB_false_false x_FLP_gdq_gda_gdb x_HD_y_gdR x_KP_y_gdU_gdV x_ISA_y_gda_gdb x_NAM_y_gdL x_KNM_y_gdLU_gdLV x_LF_x_gdf x_MF_y_gdf ⊢
  generalize H1 = H at hw ⊢
  generalize locs1 = locs at hw ⊢
  have r_vr := ri_any r
  refine lv_istore (lv' := [(5, .int r), (4, .int i), (3, .ref o), (2, .ref y), (1, .ref x), (0, .ref b)]) hx hb dL_law_438 hl (by decide) rfl (fun ls hl => ?_)
  refine lv_aload_n hx hb dL_law_440 rfl (lv_at hl 3 rfl) ?_
  refine lv_aload_n hx hb dL_law_441 rfl (lv_at hl 5 rfl) ?_
  refine lv_iload hx hb dL_law_442 (lv_at hl 1 rfl) ?_
  refine lv_iconst (v := 1) hx hb dL_law_444 (by decide) ?_
  refine lv_iadd hx hb dL_law_445 (lv_topi (fun v_5 e_v_5 => ?_))
  obtain ⟨t_v_5, r_v_5⟩ := tq_add (lo := 1) (hi := 3067) r_i rl_1 (by decide +kernel) e_v_5
  have t_v_5 : v_5.toInt = i.toInt + 1 := t_v_5
  refine va_sld hx hb hX hbl hbA hw.2.2.2.1 (i := v_5) (vp_in_iff.mpr ⟨by have k1 := r_v_5.1; omega, by have k1 := r_v_5.2; omega⟩) dL_law_446 ?_
  refine tI (y := v_2) (by rw [e_v_5, ← e_v_1]; exact e_v_2) ?_
  refine lv_aload_n hx hb dL_law_447 rfl (lv_at hl 5 rfl) ?_
  refine lv_iload hx hb dL_law_448 (lv_at hl 1 rfl) ?_
  refine lv_iconst (v := 2) hx hb dL_law_450 (by decide) ?_
  refine lv_iadd hx hb dL_law_451 (lv_topi (fun v_7 e_v_7 => ?_))
  obtain ⟨t_v_7, r_v_7⟩ := tq_add (lo := 2) (hi := 3068) r_i rl_2 (by decide +kernel) e_v_7
  have t_v_7 : v_7.toInt = i.toInt + 2 := t_v_7
  refine va_sld hx hb hX hbl hbA hw.2.2.2.1 (i := v_7) (vp_in_iff.mpr ⟨by have k1 := r_v_7.1; omega, by have k1 := r_v_7.2; omega⟩) dL_law_452 ?_
  refine tI (y := v_4) (by rw [e_v_7, ← e_v_3]; exact e_v_4) ?_
  refine tk_i (va_runV (As := [.int v_2, .int v_4]) (rest := []) ⟨hx, hb, hml, hown, hts⟩ (c_X10_person l D cy z H.size Ps ws hw.1 y v_2 v_4 h_y r_v_2 r_v_4) (cwV 2 hts (gV tw_1465 tw_1466 tw_1467 tw_15 tw_1468) rfl rfl rfl (by decide +kernel) ⟨Nat.le_of_ble_eq_true rfl, Nat.le_of_ble_eq_true rfl⟩) (tg_preV hw hK hSD hA (ci := 10) (q := (RX10, TX10, 49)) rfl h_y rfl) rfl rfl hl.1 rfl (lv_room (Nat.le_of_ble_eq_true rfl)) dL_law_453 ⟨by show _ ≤ 601024; omega, by show _ ≤ 7293034; omega⟩) hw hA ⟨by decide, by decide⟩ (fun v_9 ws H locs hp_v_9 hw hF9 => ?_)
  have x_TLX_x_gh := TLX.over hF9 x_TLX_x_gh (by decide)
  have x_TLM_y_gh := TLM.over hF9 x_TLM_y_gh (by decide)
  have x_BYX_x_gdT := BYX.over hF9 x_BYX_x_gdT (by decide)
  have x_BYM_y_gdT := BYM.over hF9 x_BYM_y_gdT (by decide)
  have x_WKX_x := WKX.over hF9 x_WKX_x (by decide)
  have x_GWX_x_gdq := GWX.over hF9 x_GWX_x_gdq (by decide)
  have x_GQ_gdq_gdg := GQ.over hF9 x_GQ_gdq_gdg (by decide)
  have x_HE_gdq_gdg_gdo_gdA_gdB_false_false := HE.over hF9 x_HE_gdq_gdg_gdo_gdA_gdB_false_false (by decide)
  have x_FLP_gdq_gda_gdb := FLP.over hF9 x_FLP_gdq_gda_gdb (by decide)
  have x_HD_y_gdR := AX.over hF9 x_HD_y_gdR (by decide)
  have x_KP_y_gdU_gdV := AX.over hF9 x_KP_y_gdU_gdV (by decide)
  have x_ISA_y_gda_gdb := AX.over hF9 x_ISA_y_gda_gdb (by decide)
  have x_NAM_y_gdL := AXL.over hF9 x_NAM_y_gdL (by decide)
  have x_KNM_y_gdLU_gdLV := AXL.over hF9 x_KNM_y_gdLU_gdLV (by decide)
  have x_LF_x_gdf := FLD.over hF9 x_LF_x_gdf (by decide)
  have x_MF_y_gdf := FLD.over hF9 x_MF_y_gdf (by decide)
  have r_v_9 : RI v_9 (-2147483648) 2147483647 := hp_v_9.1
  refine lv_istore (lv' := [(6, .int v_9), (5, .int r), (4, .int i), (3, .ref o), (2, .ref y), (1, .ref x), (0, .ref b)]) hx hb dL_law_456 hl (by decide) rfl (fun ls hl => ?_)
  refine lv_goto (tgt := 1335) hx hb dL_law_458 (by decide) ?_
  refine W.widen (k := C + 6) (n := S + 125) (by omega) (by omega) ?_
  exact kx (gh) gdT gdq gdg gdo gdA gdB gda gdb gdR gdU gdV gdN gdNU gdNV gdL gdLU gdLV gdf _ ws _ _ ls hw h_x h_y h_o x_TLX_x_gh x_TLM_y_gh x_BYX_x_gdT x_BYM_y_gdT x_WKX_x x_GWX_x_gdq x_GQ_gdq_gdg x_HE_gdq_gdg_gdo_gdA_gdB_false_false x_FLP_gdq_gda_gdb x_HD_y_gdR x_KP_y_gdU_gdV x_ISA_y_gda_gdb x_NAM_y_gdL x_KNM_y_gdLU_gdLV x_PDF_gdo_gdR_gdN x_NLP_gdR_gdN_gdL x_LKP_gda_gdA_gdU_gdNU_gdLU x_LKP_gdb_gdB_gdV_gdNV_gdLV x_LF_x_gdf x_MF_y_gdf (lv_sub hl [2, 3, 4, 5, 6] rfl)
set_option maxHeartbeats 4000000 in
set_option maxRecDepth 100000 in
theorem op7 {p : Program} {e : Env} {s : State} {m : MethodId} {below : List Frame} {meth : Method} {c : Code} (l : Launch) (hl0 : l.stackTraces = false) {b L : Nat} {xs : Nat → Int32} (hx : p.tables.exec = Jvm.exec) (hb : c.code = code) (hml : c.maxLocals = 7) (hown : s.vm.findClass RL = some m.cls) (hts : ∀ w ∈ gT, w.before #[Value.ref b] s = true) (hX : va_X b L xs s s.heap) (hbl : b < s.heap.size) (D : va_G) (cy : Nat → ClassId) (z : Nat → Nat) (hK : va_K D classes (TY cy) s) (hSD : SD z (fun q : Nat => s.heap.size ≤ q) s) (hSE : SE z (fun q : Nat => s.heap.size ≤ q) s) {Ps : PSI} {ws : va_W} {H : Heap} {locs : List Loc} {x y o : Nat} (hw : WD D cy GG (fun q : Nat => s.heap.size ≤ q) s wrL waL [] [] Ps ws H locs) (h_x : (x, 33) ∈ Ps) (h_y : (y, 55) ∈ Ps) (h_o : (o, 56) ∈ Ps) {gh : Int} {gdT : Nat → Nat} {gdq : Nat → Nat} {gdg : Nat → Nat} {gdo : OS} {gdA : OS} {gdB : OS} {gda : Int32} {gdb : Int32} {gdR : Nat → Int32} {gdU : Nat → Int32} {gdV : Nat → Int32} {gdN : Nat → Nat} {gdNU : Nat → Nat} {gdNV : Nat → Nat} {gdL : Nat → Int64} {gdLU : Nat → Int64} {gdLV : Nat → Int64} {gdf : Int32} (x_TLX_x_gh : TLX ws x (gh)) (x_TLM_y_gh : TLM ws y (gh)) (x_BYX_x_gdT : BYX Ps ws x gdT) (x_BYM_y_gdT : BYM Ps ws y gdT) (x_WKX_x : WKX Ps ws x) (x_GWX_x_gdq : GWX ws x gdq) (x_GQ_gdq_gdg : GQ Ps ws gdq gdg) (x_HE_gdq_gdg_gdo_gdA_gdB_false_false : HE Ps ws gdq gdg gdo gdA gdB false false) (x_FLP_gdq_gda_gdb : FLP ws gdq gda gdb) (x_HD_y_gdR : AX 14 34 (HDp gdR) Ps ws y) (x_KP_y_gdU_gdV : AX 16 36 (KPp gdU gdV) Ps ws y) (x_ISA_y_gda_gdb : AX 23 44 (ISp gda gdb) Ps ws y) (x_NAM_y_gdL : AXL 20 41 (NMp gdL) Ps ws y) (x_KNM_y_gdLU_gdLV : AXL 22 43 (KNp gdLU gdLV) Ps ws y) (x_PDF_gdo_gdR_gdN : (PDO gdo gdR gdN)) (x_NLP_gdR_gdN_gdL : (NLC gdR gdN gdL)) (x_LKP_gda_gdA_gdU_gdNU_gdLU : (LKP gda gdA gdU gdNU gdLU)) (x_LKP_gdb_gdB_gdV_gdNV_gdLV : (LKP gdb gdB gdV gdNV gdLV)) (x_LF_x_gdf : FLD ws x 9 11 (.int gdf)) (x_MF_y_gdf : FLD ws y 10 10 (.int gdf)) {i : Int32} (r_i : RI i 0 3066) (hiL : i.toInt + 6 ≤ L) {C S : Nat} (hC : C + 6 ≤ 601024) (hSl : S + 125 ≤ 7293034) {ls : Array Slot} (hl : lv_has ls 7 [(4, .int i), (3, .ref o), (2, .ref y), (1, .ref x), (0, .ref b)]) {Q : State → Prop} (kx : ∀ (gh : Int) (gdT : Nat → Nat) (gdq : Nat → Nat) (gdg : Nat → Nat) (gdo : OS) (gdA : OS) (gdB : OS) (gda : Int32) (gdb : Int32) (gdR : Nat → Int32) (gdU : Nat → Int32) (gdV : Nat → Int32) (gdN : Nat → Nat) (gdNU : Nat → Nat) (gdNV : Nat → Nat) (gdL : Nat → Int64) (gdLU : Nat → Int64) (gdLV : Nat → Int64) (gdf : Int32) (Ps : PSI) (ws : va_W) (H : Heap) (locs : List Loc) (ls : Array Slot), WD D cy GG (fun q : Nat => s.heap.size ≤ q) s wrL waL [] [] Ps ws H locs → (x, 33) ∈ Ps → (y, 55) ∈ Ps → (o, 56) ∈ Ps → TLX ws x (gh) → TLM ws y (gh) → BYX Ps ws x gdT → BYM Ps ws y gdT → WKX Ps ws x → GWX ws x gdq → GQ Ps ws gdq gdg → HE Ps ws gdq gdg gdo gdA gdB false false → FLP ws gdq gda gdb → AX 14 34 (HDp gdR) Ps ws y → AX 16 36 (KPp gdU gdV) Ps ws y → AX 23 44 (ISp gda gdb) Ps ws y → AXL 20 41 (NMp gdL) Ps ws y → AXL 22 43 (KNp gdLU gdLV) Ps ws y → (PDO gdo gdR gdN) → (NLC gdR gdN gdL) → (LKP gda gdA gdU gdNU gdLU) → (LKP gdb gdB gdV gdNV gdLV) → FLD ws x 9 11 (.int gdf) → FLD ws y 10 10 (.int gdf) → lv_has ls 7 [(4, .int i), (3, .ref o), (2, .ref y), (1, .ref x), (0, .ref b)] → W p l e room_1 s m #[Value.ref b] below meth c H locs (C + 6) (S + 125) Q (F0 m 1335 ls [])) : W p l e room_1 s m #[Value.ref b] below meth c H locs C S Q (F0 m 461 ls []) := by
  have hA : ∀ q : Nat, s.heap.size ≤ q → (fun q : Nat => s.heap.size ≤ q) q := fun _ h => h
  have hbA : ¬ (fun q : Nat => s.heap.size ≤ q) b := Nat.not_le.mpr hbl
  refine lv_aload_n hx hb dL_law_461 rfl (lv_at hl 3 rfl) ?_
  refine lv_aload_n hx hb dL_law_462 rfl (lv_at hl 4 rfl) ?_
  refine lv_iload hx hb dL_law_463 (lv_at hl 0 rfl) ?_
  refine lv_iconst (v := 1) hx hb dL_law_465 (by decide) ?_
  refine lv_iadd hx hb dL_law_466 (lv_topi (fun v_1 e_v_1 => ?_))
  obtain ⟨t_v_1, r_v_1⟩ := tq_add (lo := 1) (hi := 3067) r_i rl_1 (by decide +kernel) e_v_1
  have t_v_1 : v_1.toInt = i.toInt + 1 := t_v_1
  refine va_sld hx hb hX hbl hbA hw.2.2.2.1 (i := v_1) (vp_in_iff.mpr ⟨by have k1 := r_v_1.1; omega, by have k1 := r_v_1.2; omega⟩) dL_law_467 ?_
  obtain ⟨v_2, e_v_2⟩ : ∃ q9 : Int32, xs (Int32.toNatClampNeg v_1) = q9 := ⟨_, rfl⟩
  refine tI e_v_2 ?_
  have r_v_2 := ri_any v_2
  refine tk_ir (va_runV (As := [.int v_2]) (rest := []) ⟨hx, hb, hml, hown, hts⟩ (c_X9_need__1 l D cy z H.size Ps ws hw.1 x v_2 (gdq) (gdg) (gdo) (gdA) (gdB) h_x r_v_2 x_GWX_x_gdq x_HE_gdq_gdg_gdo_gdA_gdB_false_false) (cwV 1 hts (gV tw_545 tw_546 tw_547 tw_1 tw_548) rfl rfl rfl (by decide +kernel) ⟨Nat.le_of_ble_eq_true rfl, Nat.le_of_ble_eq_true rfl⟩) (tg_preV hw hK hSD hA (ci := 9) (q := (RX9, TX9, 15)) rfl h_x rfl) rfl rfl hl.1 rfl (lv_room (Nat.le_of_ble_eq_true rfl)) dL_law_468 ⟨by show _ ≤ 601024; omega, by show _ ≤ 7293034; omega⟩) hw hA (fun v_3  H locs hp_v_3 hw => ?_)
  have r_v_3 : RI v_3 (-2147483648) 2147483647 := hp_v_3.1
  have x_NDX_v_3_v_2_gdo_2 := hp_v_3.2.2.2.1.1
  refine lv_pop hx hb dL_law_471 rfl ?_
  refine lv_aload_n hx hb dL_law_472 rfl (lv_at hl 2 rfl) ?_
  refine lv_aload_n hx hb dL_law_473 rfl (lv_at hl 4 rfl) ?_
  refine lv_iload hx hb dL_law_474 (lv_at hl 0 rfl) ?_
  refine lv_iconst (v := 1) hx hb dL_law_476 (by decide) ?_
  refine lv_iadd hx hb dL_law_477 (lv_topi (fun v_4 e_v_4 => ?_))
  obtain ⟨t_v_4, r_v_4⟩ := tq_add (lo := 1) (hi := 3067) r_i rl_1 (by decide +kernel) e_v_4
  have t_v_4 : v_4.toInt = i.toInt + 1 := t_v_4
  refine va_sld hx hb hX hbl hbA hw.2.2.2.1 (i := v_4) (vp_in_iff.mpr ⟨by have k1 := r_v_4.1; omega, by have k1 := r_v_4.2; omega⟩) dL_law_478 ?_
  refine tI (y := v_2) (by rw [e_v_4, ← e_v_1]; exact e_v_2) ?_
  refine tk_i (va_runV (As := [.int v_2]) (rest := []) ⟨hx, hb, hml, hown, hts⟩ (c_X10_need__1 l D cy z H.size Ps ws hw.1 y v_2 (gdR) h_y r_v_2 x_HD_y_gdR) (cwV 1 hts (gV tw_1473 tw_1474 tw_1475 tw_15 tw_1476) rfl rfl rfl (by decide +kernel) ⟨Nat.le_of_ble_eq_true rfl, Nat.le_of_ble_eq_true rfl⟩) (tg_preV hw hK hSD hA (ci := 10) (q := (RX10, TX10, 49)) rfl h_y rfl) rfl rfl hl.1 rfl (lv_room (Nat.le_of_ble_eq_true rfl)) dL_law_479 ⟨by show _ ≤ 601024; omega, by show _ ≤ 7293034; omega⟩) hw hA ⟨by decide, by decide⟩ (fun v_6 ws H locs hp_v_6 hw hF9 => ?_)
  have x_TLX_x_gh := TLX.over hF9 x_TLX_x_gh (by decide)
  have x_TLM_y_gh := TLM.over hF9 x_TLM_y_gh (by decide)
  have x_BYX_x_gdT := BYX.over hF9 x_BYX_x_gdT (by decide)
  have x_BYM_y_gdT := BYM.over hF9 x_BYM_y_gdT (by decide)
  have x_WKX_x := WKX.over hF9 x_WKX_x (by decide)
  have x_GWX_x_gdq := GWX.over hF9 x_GWX_x_gdq (by decide)
  have x_GQ_gdq_gdg := GQ.over hF9 x_GQ_gdq_gdg (by decide)
  have x_HE_gdq_gdg_gdo_gdA_gdB_false_false := HE.over hF9 x_HE_gdq_gdg_gdo_gdA_gdB_false_false (by decide)
  have x_FLP_gdq_gda_gdb := FLP.over hF9 x_FLP_gdq_gda_gdb (by decide)
  have x_HD_y_gdR := AX.over hF9 x_HD_y_gdR (by decide)
  have x_KP_y_gdU_gdV := AX.over hF9 x_KP_y_gdU_gdV (by decide)
  have x_ISA_y_gda_gdb := AX.over hF9 x_ISA_y_gda_gdb (by decide)
  have x_NAM_y_gdL := AXL.over hF9 x_NAM_y_gdL (by decide)
  have x_KNM_y_gdLU_gdLV := AXL.over hF9 x_KNM_y_gdLU_gdLV (by decide)
  have x_LF_x_gdf := FLD.over hF9 x_LF_x_gdf (by decide)
  have x_MF_y_gdf := FLD.over hF9 x_MF_y_gdf (by decide)
  have r_v_6 : RI v_6 (-2147483648) 2147483647 := hp_v_6.1
  have x_NDM_v_6_v_2_gdR_6 := hp_v_6.2.2.2.1.1
  refine lv_pop hx hb dL_law_482 rfl ?_
  refine lv_goto (tgt := 1335) hx hb dL_law_483 (by decide) ?_
  refine W.widen (k := C + 6) (n := S + 125) (by omega) (by omega) ?_
  exact kx (gh) gdT gdq gdg gdo gdA gdB gda gdb gdR gdU gdV gdN gdNU gdNV gdL gdLU gdLV gdf _ ws _ _ ls hw h_x h_y h_o x_TLX_x_gh x_TLM_y_gh x_BYX_x_gdT x_BYM_y_gdT x_WKX_x x_GWX_x_gdq x_GQ_gdq_gdg x_HE_gdq_gdg_gdo_gdA_gdB_false_false x_FLP_gdq_gda_gdb x_HD_y_gdR x_KP_y_gdU_gdV x_ISA_y_gda_gdb x_NAM_y_gdL x_KNM_y_gdLU_gdLV x_PDF_gdo_gdR_gdN x_NLP_gdR_gdN_gdL x_LKP_gda_gdA_gdU_gdNU_gdLU x_LKP_gdb_gdB_gdV_gdNV_gdLV x_LF_x_gdf x_MF_y_gdf (lv_sub hl [0, 1, 2, 3, 4] rfl)
set_option maxHeartbeats 4000000 in
set_option maxRecDepth 100000 in
theorem op8 {p : Program} {e : Env} {s : State} {m : MethodId} {below : List Frame} {meth : Method} {c : Code} (l : Launch) (hl0 : l.stackTraces = false) {b L : Nat} {xs : Nat → Int32} (hx : p.tables.exec = Jvm.exec) (hb : c.code = code) (hml : c.maxLocals = 7) (hown : s.vm.findClass RL = some m.cls) (hts : ∀ w ∈ gT, w.before #[Value.ref b] s = true) (hX : va_X b L xs s s.heap) (hbl : b < s.heap.size) (D : va_G) (cy : Nat → ClassId) (z : Nat → Nat) (hK : va_K D classes (TY cy) s) (hSD : SD z (fun q : Nat => s.heap.size ≤ q) s) (hSE : SE z (fun q : Nat => s.heap.size ≤ q) s) {Ps : PSI} {ws : va_W} {H : Heap} {locs : List Loc} {x y o : Nat} (hw : WD D cy GG (fun q : Nat => s.heap.size ≤ q) s wrL waL [] [] Ps ws H locs) (h_x : (x, 33) ∈ Ps) (h_y : (y, 55) ∈ Ps) (h_o : (o, 56) ∈ Ps) {gh : Int} {gdT : Nat → Nat} {gdq : Nat → Nat} {gdg : Nat → Nat} {gdo : OS} {gdA : OS} {gdB : OS} {gda : Int32} {gdb : Int32} {gdR : Nat → Int32} {gdU : Nat → Int32} {gdV : Nat → Int32} {gdN : Nat → Nat} {gdNU : Nat → Nat} {gdNV : Nat → Nat} {gdL : Nat → Int64} {gdLU : Nat → Int64} {gdLV : Nat → Int64} {gdf : Int32} (x_TLX_x_gh : TLX ws x (gh)) (x_TLM_y_gh : TLM ws y (gh)) (x_BYX_x_gdT : BYX Ps ws x gdT) (x_BYM_y_gdT : BYM Ps ws y gdT) (x_WKX_x : WKX Ps ws x) (x_GWX_x_gdq : GWX ws x gdq) (x_GQ_gdq_gdg : GQ Ps ws gdq gdg) (x_HE_gdq_gdg_gdo_gdA_gdB_false_false : HE Ps ws gdq gdg gdo gdA gdB false false) (x_FLP_gdq_gda_gdb : FLP ws gdq gda gdb) (x_HD_y_gdR : AX 14 34 (HDp gdR) Ps ws y) (x_KP_y_gdU_gdV : AX 16 36 (KPp gdU gdV) Ps ws y) (x_ISA_y_gda_gdb : AX 23 44 (ISp gda gdb) Ps ws y) (x_NAM_y_gdL : AXL 20 41 (NMp gdL) Ps ws y) (x_KNM_y_gdLU_gdLV : AXL 22 43 (KNp gdLU gdLV) Ps ws y) (x_PDF_gdo_gdR_gdN : (PDO gdo gdR gdN)) (x_NLP_gdR_gdN_gdL : (NLC gdR gdN gdL)) (x_LKP_gda_gdA_gdU_gdNU_gdLU : (LKP gda gdA gdU gdNU gdLU)) (x_LKP_gdb_gdB_gdV_gdNV_gdLV : (LKP gdb gdB gdV gdNV gdLV)) (x_LF_x_gdf : FLD ws x 9 11 (.int gdf)) (x_MF_y_gdf : FLD ws y 10 10 (.int gdf)) {i : Int32} (r_i : RI i 0 3066) (hiL : i.toInt + 6 ≤ L) {C S : Nat} (hC : C + 6 ≤ 601024) (hSl : S + 125 ≤ 7293034) {ls : Array Slot} (hl : lv_has ls 7 [(4, .int i), (3, .ref o), (2, .ref y), (1, .ref x), (0, .ref b)]) {Q : State → Prop} (kx : ∀ (gh : Int) (gdT : Nat → Nat) (gdq : Nat → Nat) (gdg : Nat → Nat) (gdo : OS) (gdA : OS) (gdB : OS) (gda : Int32) (gdb : Int32) (gdR : Nat → Int32) (gdU : Nat → Int32) (gdV : Nat → Int32) (gdN : Nat → Nat) (gdNU : Nat → Nat) (gdNV : Nat → Nat) (gdL : Nat → Int64) (gdLU : Nat → Int64) (gdLV : Nat → Int64) (gdf : Int32) (Ps : PSI) (ws : va_W) (H : Heap) (locs : List Loc) (ls : Array Slot), WD D cy GG (fun q : Nat => s.heap.size ≤ q) s wrL waL [] [] Ps ws H locs → (x, 33) ∈ Ps → (y, 55) ∈ Ps → (o, 56) ∈ Ps → TLX ws x (gh) → TLM ws y (gh) → BYX Ps ws x gdT → BYM Ps ws y gdT → WKX Ps ws x → GWX ws x gdq → GQ Ps ws gdq gdg → HE Ps ws gdq gdg gdo gdA gdB false false → FLP ws gdq gda gdb → AX 14 34 (HDp gdR) Ps ws y → AX 16 36 (KPp gdU gdV) Ps ws y → AX 23 44 (ISp gda gdb) Ps ws y → AXL 20 41 (NMp gdL) Ps ws y → AXL 22 43 (KNp gdLU gdLV) Ps ws y → (PDO gdo gdR gdN) → (NLC gdR gdN gdL) → (LKP gda gdA gdU gdNU gdLU) → (LKP gdb gdB gdV gdNV gdLV) → FLD ws x 9 11 (.int gdf) → FLD ws y 10 10 (.int gdf) → lv_has ls 7 [(4, .int i), (3, .ref o), (2, .ref y), (1, .ref x), (0, .ref b)] → W p l e room_1 s m #[Value.ref b] below meth c H locs (C + 6) (S + 125) Q (F0 m 1335 ls [])) : W p l e room_1 s m #[Value.ref b] below meth c H locs C S Q (F0 m 486 ls []) := by
  have hA : ∀ q : Nat, s.heap.size ≤ q → (fun q : Nat => s.heap.size ≤ q) q := fun _ h => h
  have hbA : ¬ (fun q : Nat => s.heap.size ≤ q) b := Nat.not_le.mpr hbl
  refine lv_aload_n hx hb dL_law_486 rfl (lv_at hl 3 rfl) ?_
  refine lv_aload_n hx hb dL_law_487 rfl (lv_at hl 4 rfl) ?_
  refine lv_iload hx hb dL_law_488 (lv_at hl 0 rfl) ?_
  refine lv_iconst (v := 1) hx hb dL_law_490 (by decide) ?_
  refine lv_iadd hx hb dL_law_491 (lv_topi (fun v_1 e_v_1 => ?_))
  obtain ⟨t_v_1, r_v_1⟩ := tq_add (lo := 1) (hi := 3067) r_i rl_1 (by decide +kernel) e_v_1
  have t_v_1 : v_1.toInt = i.toInt + 1 := t_v_1
  refine va_sld hx hb hX hbl hbA hw.2.2.2.1 (i := v_1) (vp_in_iff.mpr ⟨by have k1 := r_v_1.1; omega, by have k1 := r_v_1.2; omega⟩) dL_law_492 ?_
  obtain ⟨v_2, e_v_2⟩ : ∃ q9 : Int32, xs (Int32.toNatClampNeg v_1) = q9 := ⟨_, rfl⟩
  refine tI e_v_2 ?_
  have r_v_2 := ri_any v_2
  refine tk_ir (va_runV (As := [.int v_2]) (rest := []) ⟨hx, hb, hml, hown, hts⟩ (c_X9_quarrels__1 l D cy z H.size Ps ws hw.1 x v_2 (gdq) (gdg) (gdo) (gdA) (gdB) h_x r_v_2 x_GWX_x_gdq x_HE_gdq_gdg_gdo_gdA_gdB_false_false) (cwV 1 hts (gV tw_549 tw_550 tw_551 tw_1 tw_552) rfl rfl rfl (by decide +kernel) ⟨Nat.le_of_ble_eq_true rfl, Nat.le_of_ble_eq_true rfl⟩) (tg_preV hw hK hSD hA (ci := 9) (q := (RX9, TX9, 15)) rfl h_x rfl) rfl rfl hl.1 rfl (lv_room (Nat.le_of_ble_eq_true rfl)) dL_law_493 ⟨by show _ ≤ 601024; omega, by show _ ≤ 7293034; omega⟩) hw hA (fun v_3  H locs hp_v_3 hw => ?_)
  have r_v_3 : RI v_3 (-2147483648) 2147483647 := hp_v_3.1
  have x_NDX_v_3_v_2_gdo_3 := hp_v_3.2.2.2.1.1
  refine lv_pop hx hb dL_law_496 rfl ?_
  refine lv_aload_n hx hb dL_law_497 rfl (lv_at hl 2 rfl) ?_
  refine lv_aload_n hx hb dL_law_498 rfl (lv_at hl 4 rfl) ?_
  refine lv_iload hx hb dL_law_499 (lv_at hl 0 rfl) ?_
  refine lv_iconst (v := 1) hx hb dL_law_501 (by decide) ?_
  refine lv_iadd hx hb dL_law_502 (lv_topi (fun v_4 e_v_4 => ?_))
  obtain ⟨t_v_4, r_v_4⟩ := tq_add (lo := 1) (hi := 3067) r_i rl_1 (by decide +kernel) e_v_4
  have t_v_4 : v_4.toInt = i.toInt + 1 := t_v_4
  refine va_sld hx hb hX hbl hbA hw.2.2.2.1 (i := v_4) (vp_in_iff.mpr ⟨by have k1 := r_v_4.1; omega, by have k1 := r_v_4.2; omega⟩) dL_law_503 ?_
  refine tI (y := v_2) (by rw [e_v_4, ← e_v_1]; exact e_v_2) ?_
  refine tk_i (va_runV (As := [.int v_2]) (rest := []) ⟨hx, hb, hml, hown, hts⟩ (c_X10_quarrels__1 l D cy z H.size Ps ws hw.1 y v_2 (gdR) h_y r_v_2 x_HD_y_gdR) (cwV 1 hts (gV tw_1477 tw_1478 tw_1479 tw_15 tw_1480) rfl rfl rfl (by decide +kernel) ⟨Nat.le_of_ble_eq_true rfl, Nat.le_of_ble_eq_true rfl⟩) (tg_preV hw hK hSD hA (ci := 10) (q := (RX10, TX10, 49)) rfl h_y rfl) rfl rfl hl.1 rfl (lv_room (Nat.le_of_ble_eq_true rfl)) dL_law_504 ⟨by show _ ≤ 601024; omega, by show _ ≤ 7293034; omega⟩) hw hA ⟨by decide, by decide⟩ (fun v_6 ws H locs hp_v_6 hw hF9 => ?_)
  have x_TLX_x_gh := TLX.over hF9 x_TLX_x_gh (by decide)
  have x_TLM_y_gh := TLM.over hF9 x_TLM_y_gh (by decide)
  have x_BYX_x_gdT := BYX.over hF9 x_BYX_x_gdT (by decide)
  have x_BYM_y_gdT := BYM.over hF9 x_BYM_y_gdT (by decide)
  have x_WKX_x := WKX.over hF9 x_WKX_x (by decide)
  have x_GWX_x_gdq := GWX.over hF9 x_GWX_x_gdq (by decide)
  have x_GQ_gdq_gdg := GQ.over hF9 x_GQ_gdq_gdg (by decide)
  have x_HE_gdq_gdg_gdo_gdA_gdB_false_false := HE.over hF9 x_HE_gdq_gdg_gdo_gdA_gdB_false_false (by decide)
  have x_FLP_gdq_gda_gdb := FLP.over hF9 x_FLP_gdq_gda_gdb (by decide)
  have x_HD_y_gdR := AX.over hF9 x_HD_y_gdR (by decide)
  have x_KP_y_gdU_gdV := AX.over hF9 x_KP_y_gdU_gdV (by decide)
  have x_ISA_y_gda_gdb := AX.over hF9 x_ISA_y_gda_gdb (by decide)
  have x_NAM_y_gdL := AXL.over hF9 x_NAM_y_gdL (by decide)
  have x_KNM_y_gdLU_gdLV := AXL.over hF9 x_KNM_y_gdLU_gdLV (by decide)
  have x_LF_x_gdf := FLD.over hF9 x_LF_x_gdf (by decide)
  have x_MF_y_gdf := FLD.over hF9 x_MF_y_gdf (by decide)
  have r_v_6 : RI v_6 (-2147483648) 2147483647 := hp_v_6.1
  have x_NDM_v_6_v_2_gdR_12 := hp_v_6.2.2.2.1.1
  refine lv_pop hx hb dL_law_507 rfl ?_
  refine lv_goto (tgt := 1335) hx hb dL_law_508 (by decide) ?_
  refine W.widen (k := C + 6) (n := S + 125) (by omega) (by omega) ?_
  exact kx (gh) gdT gdq gdg gdo gdA gdB gda gdb gdR gdU gdV gdN gdNU gdNV gdL gdLU gdLV gdf _ ws _ _ ls hw h_x h_y h_o x_TLX_x_gh x_TLM_y_gh x_BYX_x_gdT x_BYM_y_gdT x_WKX_x x_GWX_x_gdq x_GQ_gdq_gdg x_HE_gdq_gdg_gdo_gdA_gdB_false_false x_FLP_gdq_gda_gdb x_HD_y_gdR x_KP_y_gdU_gdV x_ISA_y_gda_gdb x_NAM_y_gdL x_KNM_y_gdLU_gdLV x_PDF_gdo_gdR_gdN x_NLP_gdR_gdN_gdL x_LKP_gda_gdA_gdU_gdNU_gdLU x_LKP_gdb_gdB_gdV_gdNV_gdLV x_LF_x_gdf x_MF_y_gdf (lv_sub hl [0, 1, 2, 3, 4] rfl)
set_option maxHeartbeats 4000000 in
set_option maxRecDepth 100000 in
theorem op9 {p : Program} {e : Env} {s : State} {m : MethodId} {below : List Frame} {meth : Method} {c : Code} (l : Launch) (hl0 : l.stackTraces = false) {b L : Nat} {xs : Nat → Int32} (hx : p.tables.exec = Jvm.exec) (hb : c.code = code) (hml : c.maxLocals = 7) (hown : s.vm.findClass RL = some m.cls) (hts : ∀ w ∈ gT, w.before #[Value.ref b] s = true) (hX : va_X b L xs s s.heap) (hbl : b < s.heap.size) (D : va_G) (cy : Nat → ClassId) (z : Nat → Nat) (hK : va_K D classes (TY cy) s) (hSD : SD z (fun q : Nat => s.heap.size ≤ q) s) (hSE : SE z (fun q : Nat => s.heap.size ≤ q) s) {Ps : PSI} {ws : va_W} {H : Heap} {locs : List Loc} {x y o : Nat} (hw : WD D cy GG (fun q : Nat => s.heap.size ≤ q) s wrL waL [] [] Ps ws H locs) (h_x : (x, 33) ∈ Ps) (h_y : (y, 55) ∈ Ps) (h_o : (o, 56) ∈ Ps) {gh : Int} {gdT : Nat → Nat} {gdq : Nat → Nat} {gdg : Nat → Nat} {gdo : OS} {gdA : OS} {gdB : OS} {gda : Int32} {gdb : Int32} {gdR : Nat → Int32} {gdU : Nat → Int32} {gdV : Nat → Int32} {gdN : Nat → Nat} {gdNU : Nat → Nat} {gdNV : Nat → Nat} {gdL : Nat → Int64} {gdLU : Nat → Int64} {gdLV : Nat → Int64} {gdf : Int32} (x_TLX_x_gh : TLX ws x (gh)) (x_TLM_y_gh : TLM ws y (gh)) (x_BYX_x_gdT : BYX Ps ws x gdT) (x_BYM_y_gdT : BYM Ps ws y gdT) (x_WKX_x : WKX Ps ws x) (x_GWX_x_gdq : GWX ws x gdq) (x_GQ_gdq_gdg : GQ Ps ws gdq gdg) (x_HE_gdq_gdg_gdo_gdA_gdB_false_false : HE Ps ws gdq gdg gdo gdA gdB false false) (x_FLP_gdq_gda_gdb : FLP ws gdq gda gdb) (x_HD_y_gdR : AX 14 34 (HDp gdR) Ps ws y) (x_KP_y_gdU_gdV : AX 16 36 (KPp gdU gdV) Ps ws y) (x_ISA_y_gda_gdb : AX 23 44 (ISp gda gdb) Ps ws y) (x_NAM_y_gdL : AXL 20 41 (NMp gdL) Ps ws y) (x_KNM_y_gdLU_gdLV : AXL 22 43 (KNp gdLU gdLV) Ps ws y) (x_PDF_gdo_gdR_gdN : (PDO gdo gdR gdN)) (x_NLP_gdR_gdN_gdL : (NLC gdR gdN gdL)) (x_LKP_gda_gdA_gdU_gdNU_gdLU : (LKP gda gdA gdU gdNU gdLU)) (x_LKP_gdb_gdB_gdV_gdNV_gdLV : (LKP gdb gdB gdV gdNV gdLV)) (x_LF_x_gdf : FLD ws x 9 11 (.int gdf)) (x_MF_y_gdf : FLD ws y 10 10 (.int gdf)) {i : Int32} (r_i : RI i 0 3066) (hiL : i.toInt + 6 ≤ L) {C S : Nat} (hC : C + 6 ≤ 601024) (hSl : S + 125 ≤ 7293034) {ls : Array Slot} (hl : lv_has ls 7 [(4, .int i), (3, .ref o), (2, .ref y), (1, .ref x), (0, .ref b)]) {Q : State → Prop} (kx : ∀ (gh : Int) (gdT : Nat → Nat) (gdq : Nat → Nat) (gdg : Nat → Nat) (gdo : OS) (gdA : OS) (gdB : OS) (gda : Int32) (gdb : Int32) (gdR : Nat → Int32) (gdU : Nat → Int32) (gdV : Nat → Int32) (gdN : Nat → Nat) (gdNU : Nat → Nat) (gdNV : Nat → Nat) (gdL : Nat → Int64) (gdLU : Nat → Int64) (gdLV : Nat → Int64) (gdf : Int32) (Ps : PSI) (ws : va_W) (H : Heap) (locs : List Loc) (ls : Array Slot), WD D cy GG (fun q : Nat => s.heap.size ≤ q) s wrL waL [] [] Ps ws H locs → (x, 33) ∈ Ps → (y, 55) ∈ Ps → (o, 56) ∈ Ps → TLX ws x (gh) → TLM ws y (gh) → BYX Ps ws x gdT → BYM Ps ws y gdT → WKX Ps ws x → GWX ws x gdq → GQ Ps ws gdq gdg → HE Ps ws gdq gdg gdo gdA gdB false false → FLP ws gdq gda gdb → AX 14 34 (HDp gdR) Ps ws y → AX 16 36 (KPp gdU gdV) Ps ws y → AX 23 44 (ISp gda gdb) Ps ws y → AXL 20 41 (NMp gdL) Ps ws y → AXL 22 43 (KNp gdLU gdLV) Ps ws y → (PDO gdo gdR gdN) → (NLC gdR gdN gdL) → (LKP gda gdA gdU gdNU gdLU) → (LKP gdb gdB gdV gdNV gdLV) → FLD ws x 9 11 (.int gdf) → FLD ws y 10 10 (.int gdf) → lv_has ls 7 [(4, .int i), (3, .ref o), (2, .ref y), (1, .ref x), (0, .ref b)] → W p l e room_1 s m #[Value.ref b] below meth c H locs (C + 6) (S + 125) Q (F0 m 1335 ls [])) : W p l e room_1 s m #[Value.ref b] below meth c H locs C S Q (F0 m 511 ls []) := by
  have hA : ∀ q : Nat, s.heap.size ≤ q → (fun q : Nat => s.heap.size ≤ q) q := fun _ h => h
  have hbA : ¬ (fun q : Nat => s.heap.size ≤ q) b := Nat.not_le.mpr hbl
  refine lv_aload_n hx hb dL_law_511 rfl (lv_at hl 3 rfl) ?_
  refine lv_aload_n hx hb dL_law_512 rfl (lv_at hl 4 rfl) ?_
  refine lv_iload hx hb dL_law_513 (lv_at hl 0 rfl) ?_
  refine lv_iconst (v := 1) hx hb dL_law_515 (by decide) ?_
  refine lv_iadd hx hb dL_law_516 (lv_topi (fun v_1 e_v_1 => ?_))
  obtain ⟨t_v_1, r_v_1⟩ := tq_add (lo := 1) (hi := 3067) r_i rl_1 (by decide +kernel) e_v_1
  have t_v_1 : v_1.toInt = i.toInt + 1 := t_v_1
  refine va_sld hx hb hX hbl hbA hw.2.2.2.1 (i := v_1) (vp_in_iff.mpr ⟨by have k1 := r_v_1.1; omega, by have k1 := r_v_1.2; omega⟩) dL_law_517 ?_
  obtain ⟨v_2, e_v_2⟩ : ∃ q9 : Int32, xs (Int32.toNatClampNeg v_1) = q9 := ⟨_, rfl⟩
  refine tI e_v_2 ?_
  have r_v_2 := ri_any v_2
  refine tk_ir (va_runV (As := [.int v_2]) (rest := []) ⟨hx, hb, hml, hown, hts⟩ (c_X9_now l D cy z H.size Ps ws hw.1 x v_2 h_x r_v_2) (cwV 1 hts (gV tw_553 tw_554 tw_555 tw_1 tw_556) rfl rfl rfl (by decide +kernel) ⟨Nat.le_of_ble_eq_true rfl, Nat.le_of_ble_eq_true rfl⟩) (tg_preV hw hK hSD hA (ci := 9) (q := (RX9, TX9, 15)) rfl h_x rfl) rfl rfl hl.1 rfl (lv_room (Nat.le_of_ble_eq_true rfl)) dL_law_518 ⟨by show _ ≤ 601024; omega, by show _ ≤ 7293034; omega⟩) hw hA (fun v_3  H locs hp_v_3 hw => ?_)
  have r_v_3 : RI v_3 (-2147483648) 2147483647 := hp_v_3.1
  refine lv_pop hx hb dL_law_521 rfl ?_
  refine lv_aload_n hx hb dL_law_522 rfl (lv_at hl 2 rfl) ?_
  refine lv_aload_n hx hb dL_law_523 rfl (lv_at hl 4 rfl) ?_
  refine lv_iload hx hb dL_law_524 (lv_at hl 0 rfl) ?_
  refine lv_iconst (v := 1) hx hb dL_law_526 (by decide) ?_
  refine lv_iadd hx hb dL_law_527 (lv_topi (fun v_4 e_v_4 => ?_))
  obtain ⟨t_v_4, r_v_4⟩ := tq_add (lo := 1) (hi := 3067) r_i rl_1 (by decide +kernel) e_v_4
  have t_v_4 : v_4.toInt = i.toInt + 1 := t_v_4
  refine va_sld hx hb hX hbl hbA hw.2.2.2.1 (i := v_4) (vp_in_iff.mpr ⟨by have k1 := r_v_4.1; omega, by have k1 := r_v_4.2; omega⟩) dL_law_528 ?_
  refine tI (y := v_2) (by rw [e_v_4, ← e_v_1]; exact e_v_2) ?_
  refine tk_i (va_runV (As := [.int v_2]) (rest := []) ⟨hx, hb, hml, hown, hts⟩ (c_X10_now l D cy z H.size Ps ws hw.1 y v_2 h_y r_v_2) (cwV 1 hts (gV tw_1481 tw_1482 tw_1483 tw_15 tw_1484) rfl rfl rfl (by decide +kernel) ⟨Nat.le_of_ble_eq_true rfl, Nat.le_of_ble_eq_true rfl⟩) (tg_preV hw hK hSD hA (ci := 10) (q := (RX10, TX10, 49)) rfl h_y rfl) rfl rfl hl.1 rfl (lv_room (Nat.le_of_ble_eq_true rfl)) dL_law_529 ⟨by show _ ≤ 601024; omega, by show _ ≤ 7293034; omega⟩) hw hA ⟨by decide, by decide⟩ (fun v_6 ws H locs hp_v_6 hw hF9 => ?_)
  have x_TLX_x_gh := TLX.over hF9 x_TLX_x_gh (by decide)
  have x_TLM_y_gh := TLM.over hF9 x_TLM_y_gh (by decide)
  have x_BYX_x_gdT := BYX.over hF9 x_BYX_x_gdT (by decide)
  have x_BYM_y_gdT := BYM.over hF9 x_BYM_y_gdT (by decide)
  have x_WKX_x := WKX.over hF9 x_WKX_x (by decide)
  have x_GWX_x_gdq := GWX.over hF9 x_GWX_x_gdq (by decide)
  have x_GQ_gdq_gdg := GQ.over hF9 x_GQ_gdq_gdg (by decide)
  have x_HE_gdq_gdg_gdo_gdA_gdB_false_false := HE.over hF9 x_HE_gdq_gdg_gdo_gdA_gdB_false_false (by decide)
  have x_FLP_gdq_gda_gdb := FLP.over hF9 x_FLP_gdq_gda_gdb (by decide)
  have x_HD_y_gdR := AX.over hF9 x_HD_y_gdR (by decide)
  have x_KP_y_gdU_gdV := AX.over hF9 x_KP_y_gdU_gdV (by decide)
  have x_ISA_y_gda_gdb := AX.over hF9 x_ISA_y_gda_gdb (by decide)
  have x_NAM_y_gdL := AXL.over hF9 x_NAM_y_gdL (by decide)
  have x_KNM_y_gdLU_gdLV := AXL.over hF9 x_KNM_y_gdLU_gdLV (by decide)
  have x_LF_x_gdf := FLD.over hF9 x_LF_x_gdf (by decide)
  have x_MF_y_gdf := FLD.over hF9 x_MF_y_gdf (by decide)
  have r_v_6 : RI v_6 (-2147483648) 2147483647 := hp_v_6.1
  refine lv_pop hx hb dL_law_532 rfl ?_
  refine lv_goto (tgt := 1335) hx hb dL_law_533 (by decide) ?_
  refine W.widen (k := C + 6) (n := S + 125) (by omega) (by omega) ?_
  exact kx (gh) gdT gdq gdg gdo gdA gdB gda gdb gdR gdU gdV gdN gdNU gdNV gdL gdLU gdLV gdf _ ws _ _ ls hw h_x h_y h_o x_TLX_x_gh x_TLM_y_gh x_BYX_x_gdT x_BYM_y_gdT x_WKX_x x_GWX_x_gdq x_GQ_gdq_gdg x_HE_gdq_gdg_gdo_gdA_gdB_false_false x_FLP_gdq_gda_gdb x_HD_y_gdR x_KP_y_gdU_gdV x_ISA_y_gda_gdb x_NAM_y_gdL x_KNM_y_gdLU_gdLV x_PDF_gdo_gdR_gdN x_NLP_gdR_gdN_gdL x_LKP_gda_gdA_gdU_gdNU_gdLU x_LKP_gdb_gdB_gdV_gdNV_gdLV x_LF_x_gdf x_MF_y_gdf (lv_sub hl [0, 1, 2, 3, 4] rfl)
set_option maxHeartbeats 4000000 in
set_option maxRecDepth 100000 in
theorem op10 {p : Program} {e : Env} {s : State} {m : MethodId} {below : List Frame} {meth : Method} {c : Code} (l : Launch) (hl0 : l.stackTraces = false) {b L : Nat} {xs : Nat → Int32} (hx : p.tables.exec = Jvm.exec) (hb : c.code = code) (hml : c.maxLocals = 7) (hown : s.vm.findClass RL = some m.cls) (hts : ∀ w ∈ gT, w.before #[Value.ref b] s = true) (hX : va_X b L xs s s.heap) (hbl : b < s.heap.size) (D : va_G) (cy : Nat → ClassId) (z : Nat → Nat) (hK : va_K D classes (TY cy) s) (hSD : SD z (fun q : Nat => s.heap.size ≤ q) s) (hSE : SE z (fun q : Nat => s.heap.size ≤ q) s) {Ps : PSI} {ws : va_W} {H : Heap} {locs : List Loc} {x y o : Nat} (hw : WD D cy GG (fun q : Nat => s.heap.size ≤ q) s wrL waL [] [] Ps ws H locs) (h_x : (x, 33) ∈ Ps) (h_y : (y, 55) ∈ Ps) (h_o : (o, 56) ∈ Ps) {gh : Int} {gdT : Nat → Nat} {gdq : Nat → Nat} {gdg : Nat → Nat} {gdo : OS} {gdA : OS} {gdB : OS} {gda : Int32} {gdb : Int32} {gdR : Nat → Int32} {gdU : Nat → Int32} {gdV : Nat → Int32} {gdN : Nat → Nat} {gdNU : Nat → Nat} {gdNV : Nat → Nat} {gdL : Nat → Int64} {gdLU : Nat → Int64} {gdLV : Nat → Int64} {gdf : Int32} (x_TLX_x_gh : TLX ws x (gh)) (x_TLM_y_gh : TLM ws y (gh)) (x_BYX_x_gdT : BYX Ps ws x gdT) (x_BYM_y_gdT : BYM Ps ws y gdT) (x_WKX_x : WKX Ps ws x) (x_GWX_x_gdq : GWX ws x gdq) (x_GQ_gdq_gdg : GQ Ps ws gdq gdg) (x_HE_gdq_gdg_gdo_gdA_gdB_false_false : HE Ps ws gdq gdg gdo gdA gdB false false) (x_FLP_gdq_gda_gdb : FLP ws gdq gda gdb) (x_HD_y_gdR : AX 14 34 (HDp gdR) Ps ws y) (x_KP_y_gdU_gdV : AX 16 36 (KPp gdU gdV) Ps ws y) (x_ISA_y_gda_gdb : AX 23 44 (ISp gda gdb) Ps ws y) (x_NAM_y_gdL : AXL 20 41 (NMp gdL) Ps ws y) (x_KNM_y_gdLU_gdLV : AXL 22 43 (KNp gdLU gdLV) Ps ws y) (x_PDF_gdo_gdR_gdN : (PDO gdo gdR gdN)) (x_NLP_gdR_gdN_gdL : (NLC gdR gdN gdL)) (x_LKP_gda_gdA_gdU_gdNU_gdLU : (LKP gda gdA gdU gdNU gdLU)) (x_LKP_gdb_gdB_gdV_gdNV_gdLV : (LKP gdb gdB gdV gdNV gdLV)) (x_LF_x_gdf : FLD ws x 9 11 (.int gdf)) (x_MF_y_gdf : FLD ws y 10 10 (.int gdf)) {i : Int32} (r_i : RI i 0 3066) (hiL : i.toInt + 6 ≤ L) {C S : Nat} (hC : C + 6 ≤ 601024) (hSl : S + 125 ≤ 7293034) {ls : Array Slot} (hl : lv_has ls 7 [(4, .int i), (3, .ref o), (2, .ref y), (1, .ref x), (0, .ref b)]) {Q : State → Prop} (kx : ∀ (gh : Int) (gdT : Nat → Nat) (gdq : Nat → Nat) (gdg : Nat → Nat) (gdo : OS) (gdA : OS) (gdB : OS) (gda : Int32) (gdb : Int32) (gdR : Nat → Int32) (gdU : Nat → Int32) (gdV : Nat → Int32) (gdN : Nat → Nat) (gdNU : Nat → Nat) (gdNV : Nat → Nat) (gdL : Nat → Int64) (gdLU : Nat → Int64) (gdLV : Nat → Int64) (gdf : Int32) (Ps : PSI) (ws : va_W) (H : Heap) (locs : List Loc) (ls : Array Slot), WD D cy GG (fun q : Nat => s.heap.size ≤ q) s wrL waL [] [] Ps ws H locs → (x, 33) ∈ Ps → (y, 55) ∈ Ps → (o, 56) ∈ Ps → TLX ws x (gh) → TLM ws y (gh) → BYX Ps ws x gdT → BYM Ps ws y gdT → WKX Ps ws x → GWX ws x gdq → GQ Ps ws gdq gdg → HE Ps ws gdq gdg gdo gdA gdB false false → FLP ws gdq gda gdb → AX 14 34 (HDp gdR) Ps ws y → AX 16 36 (KPp gdU gdV) Ps ws y → AX 23 44 (ISp gda gdb) Ps ws y → AXL 20 41 (NMp gdL) Ps ws y → AXL 22 43 (KNp gdLU gdLV) Ps ws y → (PDO gdo gdR gdN) → (NLC gdR gdN gdL) → (LKP gda gdA gdU gdNU gdLU) → (LKP gdb gdB gdV gdNV gdLV) → FLD ws x 9 11 (.int gdf) → FLD ws y 10 10 (.int gdf) → lv_has ls 7 [(4, .int i), (3, .ref o), (2, .ref y), (1, .ref x), (0, .ref b)] → W p l e room_1 s m #[Value.ref b] below meth c H locs (C + 6) (S + 125) Q (F0 m 1335 ls [])) : W p l e room_1 s m #[Value.ref b] below meth c H locs C S Q (F0 m 536 ls []) := by
  have hA : ∀ q : Nat, s.heap.size ≤ q → (fun q : Nat => s.heap.size ≤ q) q := fun _ h => h
  have hbA : ¬ (fun q : Nat => s.heap.size ≤ q) b := Nat.not_le.mpr hbl
  refine lv_aload_n hx hb dL_law_536 rfl (lv_at hl 3 rfl) ?_
  refine lv_aload_n hx hb dL_law_537 rfl (lv_at hl 4 rfl) ?_
  refine lv_iload hx hb dL_law_538 (lv_at hl 0 rfl) ?_
  refine lv_iconst (v := 1) hx hb dL_law_540 (by decide) ?_
  refine lv_iadd hx hb dL_law_541 (lv_topi (fun v_1 e_v_1 => ?_))
  obtain ⟨t_v_1, r_v_1⟩ := tq_add (lo := 1) (hi := 3067) r_i rl_1 (by decide +kernel) e_v_1
  have t_v_1 : v_1.toInt = i.toInt + 1 := t_v_1
  refine va_sld hx hb hX hbl hbA hw.2.2.2.1 (i := v_1) (vp_in_iff.mpr ⟨by have k1 := r_v_1.1; omega, by have k1 := r_v_1.2; omega⟩) dL_law_542 ?_
  obtain ⟨v_2, e_v_2⟩ : ∃ q9 : Int32, xs (Int32.toNatClampNeg v_1) = q9 := ⟨_, rfl⟩
  refine tI e_v_2 ?_
  have r_v_2 := ri_any v_2
  refine lv_aload_n hx hb dL_law_543 rfl (lv_at hl 4 rfl) ?_
  refine lv_iload hx hb dL_law_544 (lv_at hl 0 rfl) ?_
  refine lv_iconst (v := 2) hx hb dL_law_546 (by decide) ?_
  refine lv_iadd hx hb dL_law_547 (lv_topi (fun v_3 e_v_3 => ?_))
  obtain ⟨t_v_3, r_v_3⟩ := tq_add (lo := 2) (hi := 3068) r_i rl_2 (by decide +kernel) e_v_3
  have t_v_3 : v_3.toInt = i.toInt + 2 := t_v_3
  refine va_sld hx hb hX hbl hbA hw.2.2.2.1 (i := v_3) (vp_in_iff.mpr ⟨by have k1 := r_v_3.1; omega, by have k1 := r_v_3.2; omega⟩) dL_law_548 ?_
  obtain ⟨v_4, e_v_4⟩ : ∃ q9 : Int32, xs (Int32.toNatClampNeg v_3) = q9 := ⟨_, rfl⟩
  refine tI e_v_4 ?_
  have r_v_4 := ri_any v_4
  refine tk_i (va_runV (As := [.int v_2, .int v_4]) (rest := []) ⟨hx, hb, hml, hown, hts⟩ (c_X9_sit__1 l D cy z H.size Ps ws hw.1 x v_2 v_4 (gdq) (gdg) (gdo) (gdA) (gdB) h_x r_v_2 r_v_4 x_GWX_x_gdq x_GQ_gdq_gdg x_HE_gdq_gdg_gdo_gdA_gdB_false_false) (cwV 2 hts (gV tw_602 tw_603 tw_604 tw_1 tw_605) rfl rfl rfl (by decide +kernel) ⟨Nat.le_of_ble_eq_true rfl, Nat.le_of_ble_eq_true rfl⟩) (tg_preV hw hK hSD hA (ci := 9) (q := (RX9, TX9, 15)) rfl h_x rfl) rfl rfl hl.1 rfl (lv_room (Nat.le_of_ble_eq_true rfl)) dL_law_549 ⟨by show _ ≤ 601024; omega, by show _ ≤ 7293034; omega⟩) hw hA ⟨by decide, by decide⟩ (fun v_5 ws H locs hp_v_5 hw hF9 => ?_)
  have x_TLX_x_gh := TLX.over hF9 x_TLX_x_gh (by decide)
  have x_TLM_y_gh := TLM.over hF9 x_TLM_y_gh (by decide)
  have x_BYX_x_gdT := BYX.over hF9 x_BYX_x_gdT (by decide)
  have x_BYM_y_gdT := BYM.over hF9 x_BYM_y_gdT (by decide)
  have x_WKX_x := WKX.over hF9 x_WKX_x (by decide)
  have x_GWX_x_gdq := GWX.over hF9 x_GWX_x_gdq (by decide)
  have x_GQ_gdq_gdg := GQ.over hF9 x_GQ_gdq_gdg (by decide)
  have x_FLP_gdq_gda_gdb := FLP.over hF9 x_FLP_gdq_gda_gdb (by decide)
  have x_HD_y_gdR := AX.over hF9 x_HD_y_gdR (by decide)
  have x_KP_y_gdU_gdV := AX.over hF9 x_KP_y_gdU_gdV (by decide)
  have x_ISA_y_gda_gdb := AX.over hF9 x_ISA_y_gda_gdb (by decide)
  have x_NAM_y_gdL := AXL.over hF9 x_NAM_y_gdL (by decide)
  have x_KNM_y_gdLU_gdLV := AXL.over hF9 x_KNM_y_gdLU_gdLV (by decide)
  have x_LF_x_gdf := FLD.over hF9 x_LF_x_gdf (by decide)
  have x_MF_y_gdf := FLD.over hF9 x_MF_y_gdf (by decide)
  have r_v_5 : RI v_5 (-2147483648) 2147483647 := hp_v_5.1
  have x_HE_gdq_gdg_gdo_gdA_gdB_false_false := hp_v_5.2.2.2.1.1
  refine lv_pop hx hb dL_law_552 rfl ?_
  refine lv_aload_n hx hb dL_law_553 rfl (lv_at hl 2 rfl) ?_
  refine lv_aload_n hx hb dL_law_554 rfl (lv_at hl 4 rfl) ?_
  refine lv_iload hx hb dL_law_555 (lv_at hl 0 rfl) ?_
  refine lv_iconst (v := 1) hx hb dL_law_557 (by decide) ?_
  refine lv_iadd hx hb dL_law_558 (lv_topi (fun v_6 e_v_6 => ?_))
  obtain ⟨t_v_6, r_v_6⟩ := tq_add (lo := 1) (hi := 3067) r_i rl_1 (by decide +kernel) e_v_6
  have t_v_6 : v_6.toInt = i.toInt + 1 := t_v_6
  refine va_sld hx hb hX hbl hbA hw.2.2.2.1 (i := v_6) (vp_in_iff.mpr ⟨by have k1 := r_v_6.1; omega, by have k1 := r_v_6.2; omega⟩) dL_law_559 ?_
  refine tI (y := v_2) (by rw [e_v_6, ← e_v_1]; exact e_v_2) ?_
  refine lv_aload_n hx hb dL_law_560 rfl (lv_at hl 4 rfl) ?_
  refine lv_iload hx hb dL_law_561 (lv_at hl 0 rfl) ?_
  refine lv_iconst (v := 2) hx hb dL_law_563 (by decide) ?_
  refine lv_iadd hx hb dL_law_564 (lv_topi (fun v_8 e_v_8 => ?_))
  obtain ⟨t_v_8, r_v_8⟩ := tq_add (lo := 2) (hi := 3068) r_i rl_2 (by decide +kernel) e_v_8
  have t_v_8 : v_8.toInt = i.toInt + 2 := t_v_8
  refine va_sld hx hb hX hbl hbA hw.2.2.2.1 (i := v_8) (vp_in_iff.mpr ⟨by have k1 := r_v_8.1; omega, by have k1 := r_v_8.2; omega⟩) dL_law_565 ?_
  refine tI (y := v_4) (by rw [e_v_8, ← e_v_3]; exact e_v_4) ?_
  refine tk_i (va_runV (As := [.int v_2, .int v_4]) (rest := []) ⟨hx, hb, hml, hown, hts⟩ (c_X10_sit__1 l D cy z H.size Ps ws hw.1 y v_2 v_4 (gdR) h_y r_v_2 r_v_4 x_HD_y_gdR) (cwV 2 hts (gV tw_1493 tw_1494 tw_1495 tw_15 tw_1496) rfl rfl rfl (by decide +kernel) ⟨Nat.le_of_ble_eq_true rfl, Nat.le_of_ble_eq_true rfl⟩) (tg_preV hw hK hSD hA (ci := 10) (q := (RX10, TX10, 49)) rfl h_y rfl) rfl rfl hl.1 rfl (lv_room (Nat.le_of_ble_eq_true rfl)) dL_law_566 ⟨by show _ ≤ 601024; omega, by show _ ≤ 7293034; omega⟩) hw hA ⟨by decide, by decide⟩ (fun v_10 ws H locs hp_v_10 hw hF9 => ?_)
  have x_TLX_x_gh := TLX.over hF9 x_TLX_x_gh (by decide)
  have x_TLM_y_gh := TLM.over hF9 x_TLM_y_gh (by decide)
  have x_BYX_x_gdT := BYX.over hF9 x_BYX_x_gdT (by decide)
  have x_BYM_y_gdT := BYM.over hF9 x_BYM_y_gdT (by decide)
  have x_WKX_x := WKX.over hF9 x_WKX_x (by decide)
  have x_GWX_x_gdq := GWX.over hF9 x_GWX_x_gdq (by decide)
  have x_GQ_gdq_gdg := GQ.over hF9 x_GQ_gdq_gdg (by decide)
  have x_FLP_gdq_gda_gdb := FLP.over hF9 x_FLP_gdq_gda_gdb (by decide)
  have x_KP_y_gdU_gdV := AX.over hF9 x_KP_y_gdU_gdV (by decide)
  have x_ISA_y_gda_gdb := AX.over hF9 x_ISA_y_gda_gdb (by decide)
  have x_NAM_y_gdL := AXL.over hF9 x_NAM_y_gdL (by decide)
  have x_KNM_y_gdLU_gdLV := AXL.over hF9 x_KNM_y_gdLU_gdLV (by decide)
  have x_LF_x_gdf := FLD.over hF9 x_LF_x_gdf (by decide)
  have x_MF_y_gdf := FLD.over hF9 x_MF_y_gdf (by decide)
  have x_HE_gdq_gdg_gdo_gdA_gdB_false_false := HE.over hF9 x_HE_gdq_gdg_gdo_gdA_gdB_false_false (by decide)
  obtain ⟨x_HD_y_gdR, hp_v_10⟩ := hp_v_10
  have r_v_10 : RI v_10 (-1) 1 := hp_v_10.1
  refine lv_pop hx hb dL_law_569 rfl ?_
  refine lv_goto (tgt := 1335) hx hb dL_law_570 (by decide) ?_
  refine W.widen (k := C + 6) (n := S + 125) (by omega) (by omega) ?_
  exact kx (gh) gdT gdq gdg gdo gdA gdB gda gdb gdR gdU gdV gdN gdNU gdNV gdL gdLU gdLV gdf _ ws _ _ ls hw h_x h_y h_o x_TLX_x_gh x_TLM_y_gh x_BYX_x_gdT x_BYM_y_gdT x_WKX_x x_GWX_x_gdq x_GQ_gdq_gdg x_HE_gdq_gdg_gdo_gdA_gdB_false_false x_FLP_gdq_gda_gdb x_HD_y_gdR x_KP_y_gdU_gdV x_ISA_y_gda_gdb x_NAM_y_gdL x_KNM_y_gdLU_gdLV x_PDF_gdo_gdR_gdN x_NLP_gdR_gdN_gdL x_LKP_gda_gdA_gdU_gdNU_gdLU x_LKP_gdb_gdB_gdV_gdNV_gdLV x_LF_x_gdf x_MF_y_gdf (lv_sub hl [0, 1, 2, 3, 4] rfl)
set_option maxHeartbeats 4000000 in
set_option maxRecDepth 100000 in
theorem op11 {p : Program} {e : Env} {s : State} {m : MethodId} {below : List Frame} {meth : Method} {c : Code} (l : Launch) (hl0 : l.stackTraces = false) {b L : Nat} {xs : Nat → Int32} (hx : p.tables.exec = Jvm.exec) (hb : c.code = code) (hml : c.maxLocals = 7) (hown : s.vm.findClass RL = some m.cls) (hts : ∀ w ∈ gT, w.before #[Value.ref b] s = true) (hX : va_X b L xs s s.heap) (hbl : b < s.heap.size) (D : va_G) (cy : Nat → ClassId) (z : Nat → Nat) (hK : va_K D classes (TY cy) s) (hSD : SD z (fun q : Nat => s.heap.size ≤ q) s) (hSE : SE z (fun q : Nat => s.heap.size ≤ q) s) {Ps : PSI} {ws : va_W} {H : Heap} {locs : List Loc} {x y o : Nat} (hw : WD D cy GG (fun q : Nat => s.heap.size ≤ q) s wrL waL [] [] Ps ws H locs) (h_x : (x, 33) ∈ Ps) (h_y : (y, 55) ∈ Ps) (h_o : (o, 56) ∈ Ps) {gh : Int} {gdT : Nat → Nat} {gdq : Nat → Nat} {gdg : Nat → Nat} {gdo : OS} {gdA : OS} {gdB : OS} {gda : Int32} {gdb : Int32} {gdR : Nat → Int32} {gdU : Nat → Int32} {gdV : Nat → Int32} {gdN : Nat → Nat} {gdNU : Nat → Nat} {gdNV : Nat → Nat} {gdL : Nat → Int64} {gdLU : Nat → Int64} {gdLV : Nat → Int64} {gdf : Int32} (x_TLX_x_gh : TLX ws x (gh)) (x_TLM_y_gh : TLM ws y (gh)) (x_BYX_x_gdT : BYX Ps ws x gdT) (x_BYM_y_gdT : BYM Ps ws y gdT) (x_WKX_x : WKX Ps ws x) (x_GWX_x_gdq : GWX ws x gdq) (x_GQ_gdq_gdg : GQ Ps ws gdq gdg) (x_HE_gdq_gdg_gdo_gdA_gdB_false_false : HE Ps ws gdq gdg gdo gdA gdB false false) (x_FLP_gdq_gda_gdb : FLP ws gdq gda gdb) (x_HD_y_gdR : AX 14 34 (HDp gdR) Ps ws y) (x_KP_y_gdU_gdV : AX 16 36 (KPp gdU gdV) Ps ws y) (x_ISA_y_gda_gdb : AX 23 44 (ISp gda gdb) Ps ws y) (x_NAM_y_gdL : AXL 20 41 (NMp gdL) Ps ws y) (x_KNM_y_gdLU_gdLV : AXL 22 43 (KNp gdLU gdLV) Ps ws y) (x_PDF_gdo_gdR_gdN : (PDO gdo gdR gdN)) (x_NLP_gdR_gdN_gdL : (NLC gdR gdN gdL)) (x_LKP_gda_gdA_gdU_gdNU_gdLU : (LKP gda gdA gdU gdNU gdLU)) (x_LKP_gdb_gdB_gdV_gdNV_gdLV : (LKP gdb gdB gdV gdNV gdLV)) (x_LF_x_gdf : FLD ws x 9 11 (.int gdf)) (x_MF_y_gdf : FLD ws y 10 10 (.int gdf)) {i : Int32} (r_i : RI i 0 3066) (hiL : i.toInt + 6 ≤ L) {C S : Nat} (hC : C + 6 ≤ 601024) (hSl : S + 125 ≤ 7293034) {ls : Array Slot} (hl : lv_has ls 7 [(4, .int i), (3, .ref o), (2, .ref y), (1, .ref x), (0, .ref b)]) {Q : State → Prop} (kx : ∀ (gh : Int) (gdT : Nat → Nat) (gdq : Nat → Nat) (gdg : Nat → Nat) (gdo : OS) (gdA : OS) (gdB : OS) (gda : Int32) (gdb : Int32) (gdR : Nat → Int32) (gdU : Nat → Int32) (gdV : Nat → Int32) (gdN : Nat → Nat) (gdNU : Nat → Nat) (gdNV : Nat → Nat) (gdL : Nat → Int64) (gdLU : Nat → Int64) (gdLV : Nat → Int64) (gdf : Int32) (Ps : PSI) (ws : va_W) (H : Heap) (locs : List Loc) (ls : Array Slot), WD D cy GG (fun q : Nat => s.heap.size ≤ q) s wrL waL [] [] Ps ws H locs → (x, 33) ∈ Ps → (y, 55) ∈ Ps → (o, 56) ∈ Ps → TLX ws x (gh) → TLM ws y (gh) → BYX Ps ws x gdT → BYM Ps ws y gdT → WKX Ps ws x → GWX ws x gdq → GQ Ps ws gdq gdg → HE Ps ws gdq gdg gdo gdA gdB false false → FLP ws gdq gda gdb → AX 14 34 (HDp gdR) Ps ws y → AX 16 36 (KPp gdU gdV) Ps ws y → AX 23 44 (ISp gda gdb) Ps ws y → AXL 20 41 (NMp gdL) Ps ws y → AXL 22 43 (KNp gdLU gdLV) Ps ws y → (PDO gdo gdR gdN) → (NLC gdR gdN gdL) → (LKP gda gdA gdU gdNU gdLU) → (LKP gdb gdB gdV gdNV gdLV) → FLD ws x 9 11 (.int gdf) → FLD ws y 10 10 (.int gdf) → lv_has ls 7 [(4, .int i), (3, .ref o), (2, .ref y), (1, .ref x), (0, .ref b)] → W p l e room_1 s m #[Value.ref b] below meth c H locs (C + 6) (S + 125) Q (F0 m 1335 ls [])) : W p l e room_1 s m #[Value.ref b] below meth c H locs C S Q (F0 m 573 ls []) := by
  have hA : ∀ q : Nat, s.heap.size ≤ q → (fun q : Nat => s.heap.size ≤ q) q := fun _ h => h
  have hbA : ¬ (fun q : Nat => s.heap.size ≤ q) b := Nat.not_le.mpr hbl
  refine lv_aload_n hx hb dL_law_573 rfl (lv_at hl 3 rfl) ?_
  refine lv_aload_n hx hb dL_law_574 rfl (lv_at hl 4 rfl) ?_
  refine lv_iload hx hb dL_law_575 (lv_at hl 0 rfl) ?_
  refine lv_iconst (v := 1) hx hb dL_law_577 (by decide) ?_
  refine lv_iadd hx hb dL_law_578 (lv_topi (fun v_1 e_v_1 => ?_))
  obtain ⟨t_v_1, r_v_1⟩ := tq_add (lo := 1) (hi := 3067) r_i rl_1 (by decide +kernel) e_v_1
  have t_v_1 : v_1.toInt = i.toInt + 1 := t_v_1
  refine va_sld hx hb hX hbl hbA hw.2.2.2.1 (i := v_1) (vp_in_iff.mpr ⟨by have k1 := r_v_1.1; omega, by have k1 := r_v_1.2; omega⟩) dL_law_579 ?_
  obtain ⟨v_2, e_v_2⟩ : ∃ q9 : Int32, xs (Int32.toNatClampNeg v_1) = q9 := ⟨_, rfl⟩
  refine tI e_v_2 ?_
  have r_v_2 := ri_any v_2
  refine tk_i (va_runV (As := [.int v_2]) (rest := []) ⟨hx, hb, hml, hown, hts⟩ (c_X9_stand__1 l D cy z H.size Ps ws hw.1 x v_2 (gdq) (gdg) (gdo) (gdA) (gdB) h_x r_v_2 x_GWX_x_gdq x_GQ_gdq_gdg x_HE_gdq_gdg_gdo_gdA_gdB_false_false) (cwV 1 hts (gV tw_624 tw_625 tw_626 tw_1 tw_627) rfl rfl rfl (by decide +kernel) ⟨Nat.le_of_ble_eq_true rfl, Nat.le_of_ble_eq_true rfl⟩) (tg_preV hw hK hSD hA (ci := 9) (q := (RX9, TX9, 15)) rfl h_x rfl) rfl rfl hl.1 rfl (lv_room (Nat.le_of_ble_eq_true rfl)) dL_law_580 ⟨by show _ ≤ 601024; omega, by show _ ≤ 7293034; omega⟩) hw hA ⟨by decide, by decide⟩ (fun v_3 ws H locs hp_v_3 hw hF9 => ?_)
  have x_TLX_x_gh := TLX.over hF9 x_TLX_x_gh (by decide)
  have x_TLM_y_gh := TLM.over hF9 x_TLM_y_gh (by decide)
  have x_BYX_x_gdT := BYX.over hF9 x_BYX_x_gdT (by decide)
  have x_BYM_y_gdT := BYM.over hF9 x_BYM_y_gdT (by decide)
  have x_WKX_x := WKX.over hF9 x_WKX_x (by decide)
  have x_GWX_x_gdq := GWX.over hF9 x_GWX_x_gdq (by decide)
  have x_GQ_gdq_gdg := GQ.over hF9 x_GQ_gdq_gdg (by decide)
  have x_FLP_gdq_gda_gdb := FLP.over hF9 x_FLP_gdq_gda_gdb (by decide)
  have x_HD_y_gdR := AX.over hF9 x_HD_y_gdR (by decide)
  have x_KP_y_gdU_gdV := AX.over hF9 x_KP_y_gdU_gdV (by decide)
  have x_ISA_y_gda_gdb := AX.over hF9 x_ISA_y_gda_gdb (by decide)
  have x_NAM_y_gdL := AXL.over hF9 x_NAM_y_gdL (by decide)
  have x_KNM_y_gdLU_gdLV := AXL.over hF9 x_KNM_y_gdLU_gdLV (by decide)
  have x_LF_x_gdf := FLD.over hF9 x_LF_x_gdf (by decide)
  have x_MF_y_gdf := FLD.over hF9 x_MF_y_gdf (by decide)
  have r_v_3 : RI v_3 (-2147483648) 2147483647 := hp_v_3.1
  have x_HE_gdq_gdg_gdo_gdA_gdB_false_false := hp_v_3.2.2.2.1.1
  refine lv_pop hx hb dL_law_583 rfl ?_
  refine lv_aload_n hx hb dL_law_584 rfl (lv_at hl 2 rfl) ?_
  refine lv_aload_n hx hb dL_law_585 rfl (lv_at hl 4 rfl) ?_
  refine lv_iload hx hb dL_law_586 (lv_at hl 0 rfl) ?_
  refine lv_iconst (v := 1) hx hb dL_law_588 (by decide) ?_
  refine lv_iadd hx hb dL_law_589 (lv_topi (fun v_4 e_v_4 => ?_))
  obtain ⟨t_v_4, r_v_4⟩ := tq_add (lo := 1) (hi := 3067) r_i rl_1 (by decide +kernel) e_v_4
  have t_v_4 : v_4.toInt = i.toInt + 1 := t_v_4
  refine va_sld hx hb hX hbl hbA hw.2.2.2.1 (i := v_4) (vp_in_iff.mpr ⟨by have k1 := r_v_4.1; omega, by have k1 := r_v_4.2; omega⟩) dL_law_590 ?_
  refine tI (y := v_2) (by rw [e_v_4, ← e_v_1]; exact e_v_2) ?_
  refine tk_i (va_runV (As := [.int v_2]) (rest := []) ⟨hx, hb, hml, hown, hts⟩ (c_X10_stand__1 l D cy z H.size Ps ws hw.1 y v_2 (gdR) h_y r_v_2 x_HD_y_gdR) (cwV 1 hts (gV tw_1528 tw_1529 tw_1530 tw_15 tw_1531) rfl rfl rfl (by decide +kernel) ⟨Nat.le_of_ble_eq_true rfl, Nat.le_of_ble_eq_true rfl⟩) (tg_preV hw hK hSD hA (ci := 10) (q := (RX10, TX10, 49)) rfl h_y rfl) rfl rfl hl.1 rfl (lv_room (Nat.le_of_ble_eq_true rfl)) dL_law_591 ⟨by show _ ≤ 601024; omega, by show _ ≤ 7293034; omega⟩) hw hA ⟨by decide, by decide⟩ (fun v_6 ws H locs hp_v_6 hw hF9 => ?_)
  have x_TLX_x_gh := TLX.over hF9 x_TLX_x_gh (by decide)
  have x_TLM_y_gh := TLM.over hF9 x_TLM_y_gh (by decide)
  have x_BYX_x_gdT := BYX.over hF9 x_BYX_x_gdT (by decide)
  have x_BYM_y_gdT := BYM.over hF9 x_BYM_y_gdT (by decide)
  have x_WKX_x := WKX.over hF9 x_WKX_x (by decide)
  have x_GWX_x_gdq := GWX.over hF9 x_GWX_x_gdq (by decide)
  have x_GQ_gdq_gdg := GQ.over hF9 x_GQ_gdq_gdg (by decide)
  have x_FLP_gdq_gda_gdb := FLP.over hF9 x_FLP_gdq_gda_gdb (by decide)
  have x_KP_y_gdU_gdV := AX.over hF9 x_KP_y_gdU_gdV (by decide)
  have x_ISA_y_gda_gdb := AX.over hF9 x_ISA_y_gda_gdb (by decide)
  have x_NAM_y_gdL := AXL.over hF9 x_NAM_y_gdL (by decide)
  have x_KNM_y_gdLU_gdLV := AXL.over hF9 x_KNM_y_gdLU_gdLV (by decide)
  have x_LF_x_gdf := FLD.over hF9 x_LF_x_gdf (by decide)
  have x_MF_y_gdf := FLD.over hF9 x_MF_y_gdf (by decide)
  have x_HE_gdq_gdg_gdo_gdA_gdB_false_false := HE.over hF9 x_HE_gdq_gdg_gdo_gdA_gdB_false_false (by decide)
  obtain ⟨x_HD_y_gdR, hp_v_6⟩ := hp_v_6
  have r_v_6 : RI v_6 (-1) 1 := hp_v_6.1
  refine lv_pop hx hb dL_law_594 rfl ?_
  refine lv_goto (tgt := 1335) hx hb dL_law_595 (by decide) ?_
  refine W.widen (k := C + 6) (n := S + 125) (by omega) (by omega) ?_
  exact kx (gh) gdT gdq gdg gdo gdA gdB gda gdb gdR gdU gdV gdN gdNU gdNV gdL gdLU gdLV gdf _ ws _ _ ls hw h_x h_y h_o x_TLX_x_gh x_TLM_y_gh x_BYX_x_gdT x_BYM_y_gdT x_WKX_x x_GWX_x_gdq x_GQ_gdq_gdg x_HE_gdq_gdg_gdo_gdA_gdB_false_false x_FLP_gdq_gda_gdb x_HD_y_gdR x_KP_y_gdU_gdV x_ISA_y_gda_gdb x_NAM_y_gdL x_KNM_y_gdLU_gdLV x_PDF_gdo_gdR_gdN x_NLP_gdR_gdN_gdL x_LKP_gda_gdA_gdU_gdNU_gdLU x_LKP_gdb_gdB_gdV_gdNV_gdLV x_LF_x_gdf x_MF_y_gdf (lv_sub hl [0, 1, 2, 3, 4] rfl)
set_option maxHeartbeats 4000000 in
set_option maxRecDepth 100000 in
theorem op12 {p : Program} {e : Env} {s : State} {m : MethodId} {below : List Frame} {meth : Method} {c : Code} (l : Launch) (hl0 : l.stackTraces = false) {b L : Nat} {xs : Nat → Int32} (hx : p.tables.exec = Jvm.exec) (hb : c.code = code) (hml : c.maxLocals = 7) (hown : s.vm.findClass RL = some m.cls) (hts : ∀ w ∈ gT, w.before #[Value.ref b] s = true) (hX : va_X b L xs s s.heap) (hbl : b < s.heap.size) (D : va_G) (cy : Nat → ClassId) (z : Nat → Nat) (hK : va_K D classes (TY cy) s) (hSD : SD z (fun q : Nat => s.heap.size ≤ q) s) (hSE : SE z (fun q : Nat => s.heap.size ≤ q) s) {Ps : PSI} {ws : va_W} {H : Heap} {locs : List Loc} {x y o : Nat} (hw : WD D cy GG (fun q : Nat => s.heap.size ≤ q) s wrL waL [] [] Ps ws H locs) (h_x : (x, 33) ∈ Ps) (h_y : (y, 55) ∈ Ps) (h_o : (o, 56) ∈ Ps) {gh : Int} {gdT : Nat → Nat} {gdq : Nat → Nat} {gdg : Nat → Nat} {gdo : OS} {gdA : OS} {gdB : OS} {gda : Int32} {gdb : Int32} {gdR : Nat → Int32} {gdU : Nat → Int32} {gdV : Nat → Int32} {gdN : Nat → Nat} {gdNU : Nat → Nat} {gdNV : Nat → Nat} {gdL : Nat → Int64} {gdLU : Nat → Int64} {gdLV : Nat → Int64} {gdf : Int32} (x_TLX_x_gh : TLX ws x (gh)) (x_TLM_y_gh : TLM ws y (gh)) (x_BYX_x_gdT : BYX Ps ws x gdT) (x_BYM_y_gdT : BYM Ps ws y gdT) (x_WKX_x : WKX Ps ws x) (x_GWX_x_gdq : GWX ws x gdq) (x_GQ_gdq_gdg : GQ Ps ws gdq gdg) (x_HE_gdq_gdg_gdo_gdA_gdB_false_false : HE Ps ws gdq gdg gdo gdA gdB false false) (x_FLP_gdq_gda_gdb : FLP ws gdq gda gdb) (x_HD_y_gdR : AX 14 34 (HDp gdR) Ps ws y) (x_KP_y_gdU_gdV : AX 16 36 (KPp gdU gdV) Ps ws y) (x_ISA_y_gda_gdb : AX 23 44 (ISp gda gdb) Ps ws y) (x_NAM_y_gdL : AXL 20 41 (NMp gdL) Ps ws y) (x_KNM_y_gdLU_gdLV : AXL 22 43 (KNp gdLU gdLV) Ps ws y) (x_PDF_gdo_gdR_gdN : (PDO gdo gdR gdN)) (x_NLP_gdR_gdN_gdL : (NLC gdR gdN gdL)) (x_LKP_gda_gdA_gdU_gdNU_gdLU : (LKP gda gdA gdU gdNU gdLU)) (x_LKP_gdb_gdB_gdV_gdNV_gdLV : (LKP gdb gdB gdV gdNV gdLV)) (x_LF_x_gdf : FLD ws x 9 11 (.int gdf)) (x_MF_y_gdf : FLD ws y 10 10 (.int gdf)) {i : Int32} (r_i : RI i 0 3066) (hiL : i.toInt + 6 ≤ L) {C S : Nat} (hC : C + 6 ≤ 601024) (hSl : S + 125 ≤ 7293034) {ls : Array Slot} (hl : lv_has ls 7 [(4, .int i), (3, .ref o), (2, .ref y), (1, .ref x), (0, .ref b)]) {Q : State → Prop} (kx : ∀ (gh : Int) (gdT : Nat → Nat) (gdq : Nat → Nat) (gdg : Nat → Nat) (gdo : OS) (gdA : OS) (gdB : OS) (gda : Int32) (gdb : Int32) (gdR : Nat → Int32) (gdU : Nat → Int32) (gdV : Nat → Int32) (gdN : Nat → Nat) (gdNU : Nat → Nat) (gdNV : Nat → Nat) (gdL : Nat → Int64) (gdLU : Nat → Int64) (gdLV : Nat → Int64) (gdf : Int32) (Ps : PSI) (ws : va_W) (H : Heap) (locs : List Loc) (ls : Array Slot), WD D cy GG (fun q : Nat => s.heap.size ≤ q) s wrL waL [] [] Ps ws H locs → (x, 33) ∈ Ps → (y, 55) ∈ Ps → (o, 56) ∈ Ps → TLX ws x (gh) → TLM ws y (gh) → BYX Ps ws x gdT → BYM Ps ws y gdT → WKX Ps ws x → GWX ws x gdq → GQ Ps ws gdq gdg → HE Ps ws gdq gdg gdo gdA gdB false false → FLP ws gdq gda gdb → AX 14 34 (HDp gdR) Ps ws y → AX 16 36 (KPp gdU gdV) Ps ws y → AX 23 44 (ISp gda gdb) Ps ws y → AXL 20 41 (NMp gdL) Ps ws y → AXL 22 43 (KNp gdLU gdLV) Ps ws y → (PDO gdo gdR gdN) → (NLC gdR gdN gdL) → (LKP gda gdA gdU gdNU gdLU) → (LKP gdb gdB gdV gdNV gdLV) → FLD ws x 9 11 (.int gdf) → FLD ws y 10 10 (.int gdf) → lv_has ls 7 [(4, .int i), (3, .ref o), (2, .ref y), (1, .ref x), (0, .ref b)] → W p l e room_1 s m #[Value.ref b] below meth c H locs (C + 6) (S + 125) Q (F0 m 1335 ls [])) : W p l e room_1 s m #[Value.ref b] below meth c H locs C S Q (F0 m 598 ls []) := by
  have hA : ∀ q : Nat, s.heap.size ≤ q → (fun q : Nat => s.heap.size ≤ q) q := fun _ h => h
  have hbA : ¬ (fun q : Nat => s.heap.size ≤ q) b := Nat.not_le.mpr hbl
  refine lv_aload_n hx hb dL_law_598 rfl (lv_at hl 3 rfl) ?_
  refine lv_aload_n hx hb dL_law_599 rfl (lv_at hl 4 rfl) ?_
  refine lv_iload hx hb dL_law_600 (lv_at hl 0 rfl) ?_
  refine lv_iconst (v := 1) hx hb dL_law_602 (by decide) ?_
  refine lv_iadd hx hb dL_law_603 (lv_topi (fun v_1 e_v_1 => ?_))
  obtain ⟨t_v_1, r_v_1⟩ := tq_add (lo := 1) (hi := 3067) r_i rl_1 (by decide +kernel) e_v_1
  have t_v_1 : v_1.toInt = i.toInt + 1 := t_v_1
  refine va_sld hx hb hX hbl hbA hw.2.2.2.1 (i := v_1) (vp_in_iff.mpr ⟨by have k1 := r_v_1.1; omega, by have k1 := r_v_1.2; omega⟩) dL_law_604 ?_
  obtain ⟨v_2, e_v_2⟩ : ∃ q9 : Int32, xs (Int32.toNatClampNeg v_1) = q9 := ⟨_, rfl⟩
  refine tI e_v_2 ?_
  have r_v_2 := ri_any v_2
  refine lv_aload_n hx hb dL_law_605 rfl (lv_at hl 4 rfl) ?_
  refine lv_iload hx hb dL_law_606 (lv_at hl 0 rfl) ?_
  refine lv_iconst (v := 2) hx hb dL_law_608 (by decide) ?_
  refine lv_iadd hx hb dL_law_609 (lv_topi (fun v_3 e_v_3 => ?_))
  obtain ⟨t_v_3, r_v_3⟩ := tq_add (lo := 2) (hi := 3068) r_i rl_2 (by decide +kernel) e_v_3
  have t_v_3 : v_3.toInt = i.toInt + 2 := t_v_3
  refine va_sld hx hb hX hbl hbA hw.2.2.2.1 (i := v_3) (vp_in_iff.mpr ⟨by have k1 := r_v_3.1; omega, by have k1 := r_v_3.2; omega⟩) dL_law_610 ?_
  obtain ⟨v_4, e_v_4⟩ : ∃ q9 : Int32, xs (Int32.toNatClampNeg v_3) = q9 := ⟨_, rfl⟩
  refine tI e_v_4 ?_
  have r_v_4 := ri_any v_4
  refine tk_i (va_runV (As := [.int v_2, .int v_4]) (rest := []) ⟨hx, hb, hml, hown, hts⟩ (c_X9_wish__1 l D cy z H.size Ps ws hw.1 x v_2 v_4 (gdq) (gdg) (gdo) (gdA) (gdB) h_x r_v_2 r_v_4 x_GWX_x_gdq x_GQ_gdq_gdg x_HE_gdq_gdg_gdo_gdA_gdB_false_false) (cwV 2 hts (gV tw_632 tw_633 tw_634 tw_1 tw_635) rfl rfl rfl (by decide +kernel) ⟨Nat.le_of_ble_eq_true rfl, Nat.le_of_ble_eq_true rfl⟩) (tg_preV hw hK hSD hA (ci := 9) (q := (RX9, TX9, 15)) rfl h_x rfl) rfl rfl hl.1 rfl (lv_room (Nat.le_of_ble_eq_true rfl)) dL_law_611 ⟨by show _ ≤ 601024; omega, by show _ ≤ 7293034; omega⟩) hw hA ⟨by decide, by decide⟩ (fun v_5 ws H locs hp_v_5 hw hF9 => ?_)
  have x_TLX_x_gh := TLX.over hF9 x_TLX_x_gh (by decide)
  have x_TLM_y_gh := TLM.over hF9 x_TLM_y_gh (by decide)
  have x_BYX_x_gdT := BYX.over hF9 x_BYX_x_gdT (by decide)
  have x_BYM_y_gdT := BYM.over hF9 x_BYM_y_gdT (by decide)
  have x_WKX_x := WKX.over hF9 x_WKX_x (by decide)
  have x_GWX_x_gdq := GWX.over hF9 x_GWX_x_gdq (by decide)
  have x_GQ_gdq_gdg := GQ.over hF9 x_GQ_gdq_gdg (by decide)
  have x_FLP_gdq_gda_gdb := FLP.over hF9 x_FLP_gdq_gda_gdb (by decide)
  have x_HD_y_gdR := AX.over hF9 x_HD_y_gdR (by decide)
  have x_KP_y_gdU_gdV := AX.over hF9 x_KP_y_gdU_gdV (by decide)
  have x_ISA_y_gda_gdb := AX.over hF9 x_ISA_y_gda_gdb (by decide)
  have x_NAM_y_gdL := AXL.over hF9 x_NAM_y_gdL (by decide)
  have x_KNM_y_gdLU_gdLV := AXL.over hF9 x_KNM_y_gdLU_gdLV (by decide)
  have x_LF_x_gdf := FLD.over hF9 x_LF_x_gdf (by decide)
  have x_MF_y_gdf := FLD.over hF9 x_MF_y_gdf (by decide)
  have r_v_5 : RI v_5 (-2147483648) 2147483647 := hp_v_5.1
  have x_HE_gdq_gdg_gdo_gdA_gdB_false_false := hp_v_5.2.2.2.1.1
  refine lv_pop hx hb dL_law_614 rfl ?_
  refine lv_aload_n hx hb dL_law_615 rfl (lv_at hl 2 rfl) ?_
  refine lv_aload_n hx hb dL_law_616 rfl (lv_at hl 4 rfl) ?_
  refine lv_iload hx hb dL_law_617 (lv_at hl 0 rfl) ?_
  refine lv_iconst (v := 1) hx hb dL_law_619 (by decide) ?_
  refine lv_iadd hx hb dL_law_620 (lv_topi (fun v_6 e_v_6 => ?_))
  obtain ⟨t_v_6, r_v_6⟩ := tq_add (lo := 1) (hi := 3067) r_i rl_1 (by decide +kernel) e_v_6
  have t_v_6 : v_6.toInt = i.toInt + 1 := t_v_6
  refine va_sld hx hb hX hbl hbA hw.2.2.2.1 (i := v_6) (vp_in_iff.mpr ⟨by have k1 := r_v_6.1; omega, by have k1 := r_v_6.2; omega⟩) dL_law_621 ?_
  refine tI (y := v_2) (by rw [e_v_6, ← e_v_1]; exact e_v_2) ?_
  refine lv_aload_n hx hb dL_law_622 rfl (lv_at hl 4 rfl) ?_
  refine lv_iload hx hb dL_law_623 (lv_at hl 0 rfl) ?_
  refine lv_iconst (v := 2) hx hb dL_law_625 (by decide) ?_
  refine lv_iadd hx hb dL_law_626 (lv_topi (fun v_8 e_v_8 => ?_))
  obtain ⟨t_v_8, r_v_8⟩ := tq_add (lo := 2) (hi := 3068) r_i rl_2 (by decide +kernel) e_v_8
  have t_v_8 : v_8.toInt = i.toInt + 2 := t_v_8
  refine va_sld hx hb hX hbl hbA hw.2.2.2.1 (i := v_8) (vp_in_iff.mpr ⟨by have k1 := r_v_8.1; omega, by have k1 := r_v_8.2; omega⟩) dL_law_627 ?_
  refine tI (y := v_4) (by rw [e_v_8, ← e_v_3]; exact e_v_4) ?_
  refine tk_i (va_runV (As := [.int v_2, .int v_4]) (rest := []) ⟨hx, hb, hml, hown, hts⟩ (c_X10_wish__1 l D cy z H.size Ps ws hw.1 y v_2 v_4 (gdR) h_y r_v_2 r_v_4 x_HD_y_gdR) (cwV 2 hts (gV tw_1532 tw_1533 tw_1534 tw_15 tw_1535) rfl rfl rfl (by decide +kernel) ⟨Nat.le_of_ble_eq_true rfl, Nat.le_of_ble_eq_true rfl⟩) (tg_preV hw hK hSD hA (ci := 10) (q := (RX10, TX10, 49)) rfl h_y rfl) rfl rfl hl.1 rfl (lv_room (Nat.le_of_ble_eq_true rfl)) dL_law_628 ⟨by show _ ≤ 601024; omega, by show _ ≤ 7293034; omega⟩) hw hA ⟨by decide, by decide⟩ (fun v_10 ws H locs hp_v_10 hw hF9 => ?_)
  have x_TLX_x_gh := TLX.over hF9 x_TLX_x_gh (by decide)
  have x_TLM_y_gh := TLM.over hF9 x_TLM_y_gh (by decide)
  have x_BYX_x_gdT := BYX.over hF9 x_BYX_x_gdT (by decide)
  have x_BYM_y_gdT := BYM.over hF9 x_BYM_y_gdT (by decide)
  have x_WKX_x := WKX.over hF9 x_WKX_x (by decide)
  have x_GWX_x_gdq := GWX.over hF9 x_GWX_x_gdq (by decide)
  have x_GQ_gdq_gdg := GQ.over hF9 x_GQ_gdq_gdg (by decide)
  have x_FLP_gdq_gda_gdb := FLP.over hF9 x_FLP_gdq_gda_gdb (by decide)
  have x_KP_y_gdU_gdV := AX.over hF9 x_KP_y_gdU_gdV (by decide)
  have x_ISA_y_gda_gdb := AX.over hF9 x_ISA_y_gda_gdb (by decide)
  have x_NAM_y_gdL := AXL.over hF9 x_NAM_y_gdL (by decide)
  have x_KNM_y_gdLU_gdLV := AXL.over hF9 x_KNM_y_gdLU_gdLV (by decide)
  have x_LF_x_gdf := FLD.over hF9 x_LF_x_gdf (by decide)
  have x_MF_y_gdf := FLD.over hF9 x_MF_y_gdf (by decide)
  have x_HE_gdq_gdg_gdo_gdA_gdB_false_false := HE.over hF9 x_HE_gdq_gdg_gdo_gdA_gdB_false_false (by decide)
  obtain ⟨x_HD_y_gdR, hp_v_10⟩ := hp_v_10
  have r_v_10 : RI v_10 (-1) 1 := hp_v_10.1
  refine lv_pop hx hb dL_law_631 rfl ?_
  refine lv_goto (tgt := 1335) hx hb dL_law_632 (by decide) ?_
  refine W.widen (k := C + 6) (n := S + 125) (by omega) (by omega) ?_
  exact kx (gh) gdT gdq gdg gdo gdA gdB gda gdb gdR gdU gdV gdN gdNU gdNV gdL gdLU gdLV gdf _ ws _ _ ls hw h_x h_y h_o x_TLX_x_gh x_TLM_y_gh x_BYX_x_gdT x_BYM_y_gdT x_WKX_x x_GWX_x_gdq x_GQ_gdq_gdg x_HE_gdq_gdg_gdo_gdA_gdB_false_false x_FLP_gdq_gda_gdb x_HD_y_gdR x_KP_y_gdU_gdV x_ISA_y_gda_gdb x_NAM_y_gdL x_KNM_y_gdLU_gdLV x_PDF_gdo_gdR_gdN x_NLP_gdR_gdN_gdL x_LKP_gda_gdA_gdU_gdNU_gdLU x_LKP_gdb_gdB_gdV_gdNV_gdLV x_LF_x_gdf x_MF_y_gdf (lv_sub hl [0, 1, 2, 3, 4] rfl)
set_option maxHeartbeats 4000000 in
set_option maxRecDepth 100000 in
theorem op13 {p : Program} {e : Env} {s : State} {m : MethodId} {below : List Frame} {meth : Method} {c : Code} (l : Launch) (hl0 : l.stackTraces = false) {b L : Nat} {xs : Nat → Int32} (hx : p.tables.exec = Jvm.exec) (hb : c.code = code) (hml : c.maxLocals = 7) (hown : s.vm.findClass RL = some m.cls) (hts : ∀ w ∈ gT, w.before #[Value.ref b] s = true) (hX : va_X b L xs s s.heap) (hbl : b < s.heap.size) (D : va_G) (cy : Nat → ClassId) (z : Nat → Nat) (hK : va_K D classes (TY cy) s) (hSD : SD z (fun q : Nat => s.heap.size ≤ q) s) (hSE : SE z (fun q : Nat => s.heap.size ≤ q) s) {Ps : PSI} {ws : va_W} {H : Heap} {locs : List Loc} {x y o : Nat} (hw : WD D cy GG (fun q : Nat => s.heap.size ≤ q) s wrL waL [] [] Ps ws H locs) (h_x : (x, 33) ∈ Ps) (h_y : (y, 55) ∈ Ps) (h_o : (o, 56) ∈ Ps) {gh : Int} {gdT : Nat → Nat} {gdq : Nat → Nat} {gdg : Nat → Nat} {gdo : OS} {gdA : OS} {gdB : OS} {gda : Int32} {gdb : Int32} {gdR : Nat → Int32} {gdU : Nat → Int32} {gdV : Nat → Int32} {gdN : Nat → Nat} {gdNU : Nat → Nat} {gdNV : Nat → Nat} {gdL : Nat → Int64} {gdLU : Nat → Int64} {gdLV : Nat → Int64} {gdf : Int32} (x_TLX_x_gh : TLX ws x (gh)) (x_TLM_y_gh : TLM ws y (gh)) (x_BYX_x_gdT : BYX Ps ws x gdT) (x_BYM_y_gdT : BYM Ps ws y gdT) (x_WKX_x : WKX Ps ws x) (x_GWX_x_gdq : GWX ws x gdq) (x_GQ_gdq_gdg : GQ Ps ws gdq gdg) (x_HE_gdq_gdg_gdo_gdA_gdB_false_false : HE Ps ws gdq gdg gdo gdA gdB false false) (x_FLP_gdq_gda_gdb : FLP ws gdq gda gdb) (x_HD_y_gdR : AX 14 34 (HDp gdR) Ps ws y) (x_KP_y_gdU_gdV : AX 16 36 (KPp gdU gdV) Ps ws y) (x_ISA_y_gda_gdb : AX 23 44 (ISp gda gdb) Ps ws y) (x_NAM_y_gdL : AXL 20 41 (NMp gdL) Ps ws y) (x_KNM_y_gdLU_gdLV : AXL 22 43 (KNp gdLU gdLV) Ps ws y) (x_PDF_gdo_gdR_gdN : (PDO gdo gdR gdN)) (x_NLP_gdR_gdN_gdL : (NLC gdR gdN gdL)) (x_LKP_gda_gdA_gdU_gdNU_gdLU : (LKP gda gdA gdU gdNU gdLU)) (x_LKP_gdb_gdB_gdV_gdNV_gdLV : (LKP gdb gdB gdV gdNV gdLV)) (x_LF_x_gdf : FLD ws x 9 11 (.int gdf)) (x_MF_y_gdf : FLD ws y 10 10 (.int gdf)) {i : Int32} (r_i : RI i 0 3066) (hiL : i.toInt + 6 ≤ L) {C S : Nat} (hC : C + 6 ≤ 601024) (hSl : S + 125 ≤ 7293034) {ls : Array Slot} (hl : lv_has ls 7 [(4, .int i), (3, .ref o), (2, .ref y), (1, .ref x), (0, .ref b)]) {Q : State → Prop} (kx : ∀ (gh : Int) (gdT : Nat → Nat) (gdq : Nat → Nat) (gdg : Nat → Nat) (gdo : OS) (gdA : OS) (gdB : OS) (gda : Int32) (gdb : Int32) (gdR : Nat → Int32) (gdU : Nat → Int32) (gdV : Nat → Int32) (gdN : Nat → Nat) (gdNU : Nat → Nat) (gdNV : Nat → Nat) (gdL : Nat → Int64) (gdLU : Nat → Int64) (gdLV : Nat → Int64) (gdf : Int32) (Ps : PSI) (ws : va_W) (H : Heap) (locs : List Loc) (ls : Array Slot), WD D cy GG (fun q : Nat => s.heap.size ≤ q) s wrL waL [] [] Ps ws H locs → (x, 33) ∈ Ps → (y, 55) ∈ Ps → (o, 56) ∈ Ps → TLX ws x (gh) → TLM ws y (gh) → BYX Ps ws x gdT → BYM Ps ws y gdT → WKX Ps ws x → GWX ws x gdq → GQ Ps ws gdq gdg → HE Ps ws gdq gdg gdo gdA gdB false false → FLP ws gdq gda gdb → AX 14 34 (HDp gdR) Ps ws y → AX 16 36 (KPp gdU gdV) Ps ws y → AX 23 44 (ISp gda gdb) Ps ws y → AXL 20 41 (NMp gdL) Ps ws y → AXL 22 43 (KNp gdLU gdLV) Ps ws y → (PDO gdo gdR gdN) → (NLC gdR gdN gdL) → (LKP gda gdA gdU gdNU gdLU) → (LKP gdb gdB gdV gdNV gdLV) → FLD ws x 9 11 (.int gdf) → FLD ws y 10 10 (.int gdf) → lv_has ls 7 [(4, .int i), (3, .ref o), (2, .ref y), (1, .ref x), (0, .ref b)] → W p l e room_1 s m #[Value.ref b] below meth c H locs (C + 6) (S + 125) Q (F0 m 1335 ls [])) : W p l e room_1 s m #[Value.ref b] below meth c H locs C S Q (F0 m 635 ls []) := by
  have hA : ∀ q : Nat, s.heap.size ≤ q → (fun q : Nat => s.heap.size ≤ q) q := fun _ h => h
  have hbA : ¬ (fun q : Nat => s.heap.size ≤ q) b := Nat.not_le.mpr hbl
  refine lv_aload_n hx hb dL_law_635 rfl (lv_at hl 3 rfl) ?_
  refine lv_aload_n hx hb dL_law_636 rfl (lv_at hl 4 rfl) ?_
  refine lv_iload hx hb dL_law_637 (lv_at hl 0 rfl) ?_
  refine lv_iconst (v := 1) hx hb dL_law_639 (by decide) ?_
  refine lv_iadd hx hb dL_law_640 (lv_topi (fun v_1 e_v_1 => ?_))
  obtain ⟨t_v_1, r_v_1⟩ := tq_add (lo := 1) (hi := 3067) r_i rl_1 (by decide +kernel) e_v_1
  have t_v_1 : v_1.toInt = i.toInt + 1 := t_v_1
  refine va_sld hx hb hX hbl hbA hw.2.2.2.1 (i := v_1) (vp_in_iff.mpr ⟨by have k1 := r_v_1.1; omega, by have k1 := r_v_1.2; omega⟩) dL_law_641 ?_
  obtain ⟨v_2, e_v_2⟩ : ∃ q9 : Int32, xs (Int32.toNatClampNeg v_1) = q9 := ⟨_, rfl⟩
  refine tI e_v_2 ?_
  have r_v_2 := ri_any v_2
  refine lv_aload_n hx hb dL_law_642 rfl (lv_at hl 4 rfl) ?_
  refine lv_iload hx hb dL_law_643 (lv_at hl 0 rfl) ?_
  refine lv_iconst (v := 2) hx hb dL_law_645 (by decide) ?_
  refine lv_iadd hx hb dL_law_646 (lv_topi (fun v_3 e_v_3 => ?_))
  obtain ⟨t_v_3, r_v_3⟩ := tq_add (lo := 2) (hi := 3068) r_i rl_2 (by decide +kernel) e_v_3
  have t_v_3 : v_3.toInt = i.toInt + 2 := t_v_3
  refine va_sld hx hb hX hbl hbA hw.2.2.2.1 (i := v_3) (vp_in_iff.mpr ⟨by have k1 := r_v_3.1; omega, by have k1 := r_v_3.2; omega⟩) dL_law_647 ?_
  obtain ⟨v_4, e_v_4⟩ : ∃ q9 : Int32, xs (Int32.toNatClampNeg v_3) = q9 := ⟨_, rfl⟩
  refine tI e_v_4 ?_
  have r_v_4 := ri_any v_4
  refine tk_i (va_runV (As := [.int v_2, .int v_4]) (rest := []) ⟨hx, hb, hml, hown, hts⟩ (c_X9_guess__1 l D cy z H.size Ps ws hw.1 x v_2 v_4 (gdq) (gdg) (gdo) (gdA) (gdB) h_x r_v_2 r_v_4 x_GWX_x_gdq x_GQ_gdq_gdg x_HE_gdq_gdg_gdo_gdA_gdB_false_false) (cwV 2 hts (gV tw_640 tw_641 tw_642 tw_1 tw_643) rfl rfl rfl (by decide +kernel) ⟨Nat.le_of_ble_eq_true rfl, Nat.le_of_ble_eq_true rfl⟩) (tg_preV hw hK hSD hA (ci := 9) (q := (RX9, TX9, 15)) rfl h_x rfl) rfl rfl hl.1 rfl (lv_room (Nat.le_of_ble_eq_true rfl)) dL_law_648 ⟨by show _ ≤ 601024; omega, by show _ ≤ 7293034; omega⟩) hw hA ⟨by decide, by decide⟩ (fun v_5 ws H locs hp_v_5 hw hF9 => ?_)
  have x_TLX_x_gh := TLX.over hF9 x_TLX_x_gh (by decide)
  have x_TLM_y_gh := TLM.over hF9 x_TLM_y_gh (by decide)
  have x_BYX_x_gdT := BYX.over hF9 x_BYX_x_gdT (by decide)
  have x_BYM_y_gdT := BYM.over hF9 x_BYM_y_gdT (by decide)
  have x_WKX_x := WKX.over hF9 x_WKX_x (by decide)
  have x_GWX_x_gdq := GWX.over hF9 x_GWX_x_gdq (by decide)
  have x_GQ_gdq_gdg := GQ.over hF9 x_GQ_gdq_gdg (by decide)
  have x_FLP_gdq_gda_gdb := FLP.over hF9 x_FLP_gdq_gda_gdb (by decide)
  have x_HD_y_gdR := AX.over hF9 x_HD_y_gdR (by decide)
  have x_KP_y_gdU_gdV := AX.over hF9 x_KP_y_gdU_gdV (by decide)
  have x_ISA_y_gda_gdb := AX.over hF9 x_ISA_y_gda_gdb (by decide)
  have x_NAM_y_gdL := AXL.over hF9 x_NAM_y_gdL (by decide)
  have x_KNM_y_gdLU_gdLV := AXL.over hF9 x_KNM_y_gdLU_gdLV (by decide)
  have x_LF_x_gdf := FLD.over hF9 x_LF_x_gdf (by decide)
  have x_MF_y_gdf := FLD.over hF9 x_MF_y_gdf (by decide)
  have r_v_5 : RI v_5 (-3) 1 := hp_v_5.1
  have x_HE_gdq_gdg_gdo_gdA_gdB_false_false := hp_v_5.2.2.2.1.1
  refine lv_pop hx hb dL_law_651 rfl ?_
  refine lv_aload_n hx hb dL_law_652 rfl (lv_at hl 2 rfl) ?_
  refine lv_aload_n hx hb dL_law_653 rfl (lv_at hl 4 rfl) ?_
  refine lv_iload hx hb dL_law_654 (lv_at hl 0 rfl) ?_
  refine lv_iconst (v := 1) hx hb dL_law_656 (by decide) ?_
  refine lv_iadd hx hb dL_law_657 (lv_topi (fun v_6 e_v_6 => ?_))
  obtain ⟨t_v_6, r_v_6⟩ := tq_add (lo := 1) (hi := 3067) r_i rl_1 (by decide +kernel) e_v_6
  have t_v_6 : v_6.toInt = i.toInt + 1 := t_v_6
  refine va_sld hx hb hX hbl hbA hw.2.2.2.1 (i := v_6) (vp_in_iff.mpr ⟨by have k1 := r_v_6.1; omega, by have k1 := r_v_6.2; omega⟩) dL_law_658 ?_
  refine tI (y := v_2) (by rw [e_v_6, ← e_v_1]; exact e_v_2) ?_
  refine lv_aload_n hx hb dL_law_659 rfl (lv_at hl 4 rfl) ?_
  refine lv_iload hx hb dL_law_660 (lv_at hl 0 rfl) ?_
  refine lv_iconst (v := 2) hx hb dL_law_662 (by decide) ?_
  refine lv_iadd hx hb dL_law_663 (lv_topi (fun v_8 e_v_8 => ?_))
  obtain ⟨t_v_8, r_v_8⟩ := tq_add (lo := 2) (hi := 3068) r_i rl_2 (by decide +kernel) e_v_8
  have t_v_8 : v_8.toInt = i.toInt + 2 := t_v_8
  refine va_sld hx hb hX hbl hbA hw.2.2.2.1 (i := v_8) (vp_in_iff.mpr ⟨by have k1 := r_v_8.1; omega, by have k1 := r_v_8.2; omega⟩) dL_law_664 ?_
  refine tI (y := v_4) (by rw [e_v_8, ← e_v_3]; exact e_v_4) ?_
  refine tk_i (va_runV (As := [.int v_2, .int v_4]) (rest := []) ⟨hx, hb, hml, hown, hts⟩ (c_X10_guess__1 l D cy z H.size Ps ws hw.1 y v_2 v_4 (gdR) h_y r_v_2 r_v_4 x_HD_y_gdR) (cwV 2 hts (gV tw_1536 tw_1537 tw_1538 tw_15 tw_1539) rfl rfl rfl (by decide +kernel) ⟨Nat.le_of_ble_eq_true rfl, Nat.le_of_ble_eq_true rfl⟩) (tg_preV hw hK hSD hA (ci := 10) (q := (RX10, TX10, 49)) rfl h_y rfl) rfl rfl hl.1 rfl (lv_room (Nat.le_of_ble_eq_true rfl)) dL_law_665 ⟨by show _ ≤ 601024; omega, by show _ ≤ 7293034; omega⟩) hw hA ⟨by decide, by decide⟩ (fun v_10 ws H locs hp_v_10 hw hF9 => ?_)
  have x_TLX_x_gh := TLX.over hF9 x_TLX_x_gh (by decide)
  have x_TLM_y_gh := TLM.over hF9 x_TLM_y_gh (by decide)
  have x_BYX_x_gdT := BYX.over hF9 x_BYX_x_gdT (by decide)
  have x_BYM_y_gdT := BYM.over hF9 x_BYM_y_gdT (by decide)
  have x_WKX_x := WKX.over hF9 x_WKX_x (by decide)
  have x_GWX_x_gdq := GWX.over hF9 x_GWX_x_gdq (by decide)
  have x_GQ_gdq_gdg := GQ.over hF9 x_GQ_gdq_gdg (by decide)
  have x_FLP_gdq_gda_gdb := FLP.over hF9 x_FLP_gdq_gda_gdb (by decide)
  have x_KP_y_gdU_gdV := AX.over hF9 x_KP_y_gdU_gdV (by decide)
  have x_ISA_y_gda_gdb := AX.over hF9 x_ISA_y_gda_gdb (by decide)
  have x_NAM_y_gdL := AXL.over hF9 x_NAM_y_gdL (by decide)
  have x_KNM_y_gdLU_gdLV := AXL.over hF9 x_KNM_y_gdLU_gdLV (by decide)
  have x_LF_x_gdf := FLD.over hF9 x_LF_x_gdf (by decide)
  have x_MF_y_gdf := FLD.over hF9 x_MF_y_gdf (by decide)
  have x_HE_gdq_gdg_gdo_gdA_gdB_false_false := HE.over hF9 x_HE_gdq_gdg_gdo_gdA_gdB_false_false (by decide)
  obtain ⟨x_HD_y_gdR, hp_v_10⟩ := hp_v_10
  have r_v_10 : RI v_10 (-3) 1 := hp_v_10.1
  refine lv_pop hx hb dL_law_668 rfl ?_
  refine lv_goto (tgt := 1335) hx hb dL_law_669 (by decide) ?_
  refine W.widen (k := C + 6) (n := S + 125) (by omega) (by omega) ?_
  exact kx (gh) gdT gdq gdg gdo gdA gdB gda gdb gdR gdU gdV gdN gdNU gdNV gdL gdLU gdLV gdf _ ws _ _ ls hw h_x h_y h_o x_TLX_x_gh x_TLM_y_gh x_BYX_x_gdT x_BYM_y_gdT x_WKX_x x_GWX_x_gdq x_GQ_gdq_gdg x_HE_gdq_gdg_gdo_gdA_gdB_false_false x_FLP_gdq_gda_gdb x_HD_y_gdR x_KP_y_gdU_gdV x_ISA_y_gda_gdb x_NAM_y_gdL x_KNM_y_gdLU_gdLV x_PDF_gdo_gdR_gdN x_NLP_gdR_gdN_gdL x_LKP_gda_gdA_gdU_gdNU_gdLU x_LKP_gdb_gdB_gdV_gdNV_gdLV x_LF_x_gdf x_MF_y_gdf (lv_sub hl [0, 1, 2, 3, 4] rfl)
set_option maxHeartbeats 4000000 in
set_option maxRecDepth 100000 in
theorem op14 {p : Program} {e : Env} {s : State} {m : MethodId} {below : List Frame} {meth : Method} {c : Code} (l : Launch) (hl0 : l.stackTraces = false) {b L : Nat} {xs : Nat → Int32} (hx : p.tables.exec = Jvm.exec) (hb : c.code = code) (hml : c.maxLocals = 7) (hown : s.vm.findClass RL = some m.cls) (hts : ∀ w ∈ gT, w.before #[Value.ref b] s = true) (hX : va_X b L xs s s.heap) (hbl : b < s.heap.size) (D : va_G) (cy : Nat → ClassId) (z : Nat → Nat) (hK : va_K D classes (TY cy) s) (hSD : SD z (fun q : Nat => s.heap.size ≤ q) s) (hSE : SE z (fun q : Nat => s.heap.size ≤ q) s) {Ps : PSI} {ws : va_W} {H : Heap} {locs : List Loc} {x y o : Nat} (hw : WD D cy GG (fun q : Nat => s.heap.size ≤ q) s wrL waL [] [] Ps ws H locs) (h_x : (x, 33) ∈ Ps) (h_y : (y, 55) ∈ Ps) (h_o : (o, 56) ∈ Ps) {gh : Int} {gdT : Nat → Nat} {gdq : Nat → Nat} {gdg : Nat → Nat} {gdo : OS} {gdA : OS} {gdB : OS} {gda : Int32} {gdb : Int32} {gdR : Nat → Int32} {gdU : Nat → Int32} {gdV : Nat → Int32} {gdN : Nat → Nat} {gdNU : Nat → Nat} {gdNV : Nat → Nat} {gdL : Nat → Int64} {gdLU : Nat → Int64} {gdLV : Nat → Int64} {gdf : Int32} (x_TLX_x_gh : TLX ws x (gh)) (x_TLM_y_gh : TLM ws y (gh)) (x_BYX_x_gdT : BYX Ps ws x gdT) (x_BYM_y_gdT : BYM Ps ws y gdT) (x_WKX_x : WKX Ps ws x) (x_GWX_x_gdq : GWX ws x gdq) (x_GQ_gdq_gdg : GQ Ps ws gdq gdg) (x_HE_gdq_gdg_gdo_gdA_gdB_false_false : HE Ps ws gdq gdg gdo gdA gdB false false) (x_FLP_gdq_gda_gdb : FLP ws gdq gda gdb) (x_HD_y_gdR : AX 14 34 (HDp gdR) Ps ws y) (x_KP_y_gdU_gdV : AX 16 36 (KPp gdU gdV) Ps ws y) (x_ISA_y_gda_gdb : AX 23 44 (ISp gda gdb) Ps ws y) (x_NAM_y_gdL : AXL 20 41 (NMp gdL) Ps ws y) (x_KNM_y_gdLU_gdLV : AXL 22 43 (KNp gdLU gdLV) Ps ws y) (x_PDF_gdo_gdR_gdN : (PDO gdo gdR gdN)) (x_NLP_gdR_gdN_gdL : (NLC gdR gdN gdL)) (x_LKP_gda_gdA_gdU_gdNU_gdLU : (LKP gda gdA gdU gdNU gdLU)) (x_LKP_gdb_gdB_gdV_gdNV_gdLV : (LKP gdb gdB gdV gdNV gdLV)) (x_LF_x_gdf : FLD ws x 9 11 (.int gdf)) (x_MF_y_gdf : FLD ws y 10 10 (.int gdf)) {i : Int32} (r_i : RI i 0 3066) (hiL : i.toInt + 6 ≤ L) {C S : Nat} (hC : C + 6 ≤ 601024) (hSl : S + 125 ≤ 7293034) {ls : Array Slot} (hl : lv_has ls 7 [(4, .int i), (3, .ref o), (2, .ref y), (1, .ref x), (0, .ref b)]) {Q : State → Prop} (kx : ∀ (gh : Int) (gdT : Nat → Nat) (gdq : Nat → Nat) (gdg : Nat → Nat) (gdo : OS) (gdA : OS) (gdB : OS) (gda : Int32) (gdb : Int32) (gdR : Nat → Int32) (gdU : Nat → Int32) (gdV : Nat → Int32) (gdN : Nat → Nat) (gdNU : Nat → Nat) (gdNV : Nat → Nat) (gdL : Nat → Int64) (gdLU : Nat → Int64) (gdLV : Nat → Int64) (gdf : Int32) (Ps : PSI) (ws : va_W) (H : Heap) (locs : List Loc) (ls : Array Slot), WD D cy GG (fun q : Nat => s.heap.size ≤ q) s wrL waL [] [] Ps ws H locs → (x, 33) ∈ Ps → (y, 55) ∈ Ps → (o, 56) ∈ Ps → TLX ws x (gh) → TLM ws y (gh) → BYX Ps ws x gdT → BYM Ps ws y gdT → WKX Ps ws x → GWX ws x gdq → GQ Ps ws gdq gdg → HE Ps ws gdq gdg gdo gdA gdB false false → FLP ws gdq gda gdb → AX 14 34 (HDp gdR) Ps ws y → AX 16 36 (KPp gdU gdV) Ps ws y → AX 23 44 (ISp gda gdb) Ps ws y → AXL 20 41 (NMp gdL) Ps ws y → AXL 22 43 (KNp gdLU gdLV) Ps ws y → (PDO gdo gdR gdN) → (NLC gdR gdN gdL) → (LKP gda gdA gdU gdNU gdLU) → (LKP gdb gdB gdV gdNV gdLV) → FLD ws x 9 11 (.int gdf) → FLD ws y 10 10 (.int gdf) → lv_has ls 7 [(4, .int i), (3, .ref o), (2, .ref y), (1, .ref x), (0, .ref b)] → W p l e room_1 s m #[Value.ref b] below meth c H locs (C + 6) (S + 125) Q (F0 m 1335 ls [])) : W p l e room_1 s m #[Value.ref b] below meth c H locs C S Q (F0 m 672 ls []) := by
  have hA : ∀ q : Nat, s.heap.size ≤ q → (fun q : Nat => s.heap.size ≤ q) q := fun _ h => h
  have hbA : ¬ (fun q : Nat => s.heap.size ≤ q) b := Nat.not_le.mpr hbl
  refine lv_aload_n hx hb dL_law_672 rfl (lv_at hl 3 rfl) ?_
  refine lv_aload_n hx hb dL_law_673 rfl (lv_at hl 4 rfl) ?_
  refine lv_iload hx hb dL_law_674 (lv_at hl 0 rfl) ?_
  refine lv_iconst (v := 1) hx hb dL_law_676 (by decide) ?_
  refine lv_iadd hx hb dL_law_677 (lv_topi (fun v_1 e_v_1 => ?_))
  obtain ⟨t_v_1, r_v_1⟩ := tq_add (lo := 1) (hi := 3067) r_i rl_1 (by decide +kernel) e_v_1
  have t_v_1 : v_1.toInt = i.toInt + 1 := t_v_1
  refine va_sld hx hb hX hbl hbA hw.2.2.2.1 (i := v_1) (vp_in_iff.mpr ⟨by have k1 := r_v_1.1; omega, by have k1 := r_v_1.2; omega⟩) dL_law_678 ?_
  obtain ⟨v_2, e_v_2⟩ : ∃ q9 : Int32, xs (Int32.toNatClampNeg v_1) = q9 := ⟨_, rfl⟩
  refine tI e_v_2 ?_
  have r_v_2 := ri_any v_2
  refine tk_i (va_runV (As := [.int v_2]) (rest := []) ⟨hx, hb, hml, hown, hts⟩ (c_X9_open__1 l D cy z H.size Ps ws hw.1 x v_2 (gdq) (gdg) (gdo) (gdA) (gdB) h_x r_v_2 x_GWX_x_gdq x_GQ_gdq_gdg x_HE_gdq_gdg_gdo_gdA_gdB_false_false) (cwV 1 hts (gV tw_657 tw_658 tw_659 tw_1 tw_660) rfl rfl rfl (by decide +kernel) ⟨Nat.le_of_ble_eq_true rfl, Nat.le_of_ble_eq_true rfl⟩) (tg_preV hw hK hSD hA (ci := 9) (q := (RX9, TX9, 15)) rfl h_x rfl) rfl rfl hl.1 rfl (lv_room (Nat.le_of_ble_eq_true rfl)) dL_law_679 ⟨by show _ ≤ 601024; omega, by show _ ≤ 7293034; omega⟩) hw hA ⟨by decide, by decide⟩ (fun v_3 ws H locs hp_v_3 hw hF9 => ?_)
  have x_TLX_x_gh := TLX.over hF9 x_TLX_x_gh (by decide)
  have x_TLM_y_gh := TLM.over hF9 x_TLM_y_gh (by decide)
  have x_BYX_x_gdT := BYX.over hF9 x_BYX_x_gdT (by decide)
  have x_BYM_y_gdT := BYM.over hF9 x_BYM_y_gdT (by decide)
  have x_WKX_x := WKX.over hF9 x_WKX_x (by decide)
  have x_GWX_x_gdq := GWX.over hF9 x_GWX_x_gdq (by decide)
  have x_GQ_gdq_gdg := GQ.over hF9 x_GQ_gdq_gdg (by decide)
  have x_FLP_gdq_gda_gdb := FLP.over hF9 x_FLP_gdq_gda_gdb (by decide)
  have x_HD_y_gdR := AX.over hF9 x_HD_y_gdR (by decide)
  have x_KP_y_gdU_gdV := AX.over hF9 x_KP_y_gdU_gdV (by decide)
  have x_ISA_y_gda_gdb := AX.over hF9 x_ISA_y_gda_gdb (by decide)
  have x_NAM_y_gdL := AXL.over hF9 x_NAM_y_gdL (by decide)
  have x_KNM_y_gdLU_gdLV := AXL.over hF9 x_KNM_y_gdLU_gdLV (by decide)
  have x_LF_x_gdf := FLD.over hF9 x_LF_x_gdf (by decide)
  have x_MF_y_gdf := FLD.over hF9 x_MF_y_gdf (by decide)
  have r_v_3 : RI v_3 (-2147483648) 2147483647 := hp_v_3.1
  have x_HE_gdq_gdg_gdo_gdA_gdB_false_false := hp_v_3.2.2.2.1.1
  refine lv_pop hx hb dL_law_682 rfl ?_
  refine lv_aload_n hx hb dL_law_683 rfl (lv_at hl 2 rfl) ?_
  refine lv_aload_n hx hb dL_law_684 rfl (lv_at hl 4 rfl) ?_
  refine lv_iload hx hb dL_law_685 (lv_at hl 0 rfl) ?_
  refine lv_iconst (v := 1) hx hb dL_law_687 (by decide) ?_
  refine lv_iadd hx hb dL_law_688 (lv_topi (fun v_4 e_v_4 => ?_))
  obtain ⟨t_v_4, r_v_4⟩ := tq_add (lo := 1) (hi := 3067) r_i rl_1 (by decide +kernel) e_v_4
  have t_v_4 : v_4.toInt = i.toInt + 1 := t_v_4
  refine va_sld hx hb hX hbl hbA hw.2.2.2.1 (i := v_4) (vp_in_iff.mpr ⟨by have k1 := r_v_4.1; omega, by have k1 := r_v_4.2; omega⟩) dL_law_689 ?_
  refine tI (y := v_2) (by rw [e_v_4, ← e_v_1]; exact e_v_2) ?_
  refine tk_i (va_runV (As := [.int v_2]) (rest := []) ⟨hx, hb, hml, hown, hts⟩ (c_X10_open__1 l D cy z H.size Ps ws hw.1 y v_2 (gdR) h_y r_v_2 x_HD_y_gdR) (cwV 1 hts (gV tw_1540 tw_1541 tw_1542 tw_15 tw_1543) rfl rfl rfl (by decide +kernel) ⟨Nat.le_of_ble_eq_true rfl, Nat.le_of_ble_eq_true rfl⟩) (tg_preV hw hK hSD hA (ci := 10) (q := (RX10, TX10, 49)) rfl h_y rfl) rfl rfl hl.1 rfl (lv_room (Nat.le_of_ble_eq_true rfl)) dL_law_690 ⟨by show _ ≤ 601024; omega, by show _ ≤ 7293034; omega⟩) hw hA ⟨by decide, by decide⟩ (fun v_6 ws H locs hp_v_6 hw hF9 => ?_)
  have x_TLX_x_gh := TLX.over hF9 x_TLX_x_gh (by decide)
  have x_TLM_y_gh := TLM.over hF9 x_TLM_y_gh (by decide)
  have x_BYX_x_gdT := BYX.over hF9 x_BYX_x_gdT (by decide)
  have x_BYM_y_gdT := BYM.over hF9 x_BYM_y_gdT (by decide)
  have x_WKX_x := WKX.over hF9 x_WKX_x (by decide)
  have x_GWX_x_gdq := GWX.over hF9 x_GWX_x_gdq (by decide)
  have x_GQ_gdq_gdg := GQ.over hF9 x_GQ_gdq_gdg (by decide)
  have x_FLP_gdq_gda_gdb := FLP.over hF9 x_FLP_gdq_gda_gdb (by decide)
  have x_KP_y_gdU_gdV := AX.over hF9 x_KP_y_gdU_gdV (by decide)
  have x_ISA_y_gda_gdb := AX.over hF9 x_ISA_y_gda_gdb (by decide)
  have x_NAM_y_gdL := AXL.over hF9 x_NAM_y_gdL (by decide)
  have x_KNM_y_gdLU_gdLV := AXL.over hF9 x_KNM_y_gdLU_gdLV (by decide)
  have x_LF_x_gdf := FLD.over hF9 x_LF_x_gdf (by decide)
  have x_MF_y_gdf := FLD.over hF9 x_MF_y_gdf (by decide)
  have x_HE_gdq_gdg_gdo_gdA_gdB_false_false := HE.over hF9 x_HE_gdq_gdg_gdo_gdA_gdB_false_false (by decide)
  obtain ⟨x_HD_y_gdR, hp_v_6⟩ := hp_v_6
  have r_v_6 : RI v_6 (-1) 1 := hp_v_6.1
  refine lv_pop hx hb dL_law_693 rfl ?_
  refine lv_goto (tgt := 1335) hx hb dL_law_694 (by decide) ?_
  refine W.widen (k := C + 6) (n := S + 125) (by omega) (by omega) ?_
  exact kx (gh) gdT gdq gdg gdo gdA gdB gda gdb gdR gdU gdV gdN gdNU gdNV gdL gdLU gdLV gdf _ ws _ _ ls hw h_x h_y h_o x_TLX_x_gh x_TLM_y_gh x_BYX_x_gdT x_BYM_y_gdT x_WKX_x x_GWX_x_gdq x_GQ_gdq_gdg x_HE_gdq_gdg_gdo_gdA_gdB_false_false x_FLP_gdq_gda_gdb x_HD_y_gdR x_KP_y_gdU_gdV x_ISA_y_gda_gdb x_NAM_y_gdL x_KNM_y_gdLU_gdLV x_PDF_gdo_gdR_gdN x_NLP_gdR_gdN_gdL x_LKP_gda_gdA_gdU_gdNU_gdLU x_LKP_gdb_gdB_gdV_gdNV_gdLV x_LF_x_gdf x_MF_y_gdf (lv_sub hl [0, 1, 2, 3, 4] rfl)
set_option maxHeartbeats 4000000 in
set_option maxRecDepth 100000 in
theorem op15 {p : Program} {e : Env} {s : State} {m : MethodId} {below : List Frame} {meth : Method} {c : Code} (l : Launch) (hl0 : l.stackTraces = false) {b L : Nat} {xs : Nat → Int32} (hx : p.tables.exec = Jvm.exec) (hb : c.code = code) (hml : c.maxLocals = 7) (hown : s.vm.findClass RL = some m.cls) (hts : ∀ w ∈ gT, w.before #[Value.ref b] s = true) (hX : va_X b L xs s s.heap) (hbl : b < s.heap.size) (D : va_G) (cy : Nat → ClassId) (z : Nat → Nat) (hK : va_K D classes (TY cy) s) (hSD : SD z (fun q : Nat => s.heap.size ≤ q) s) (hSE : SE z (fun q : Nat => s.heap.size ≤ q) s) {Ps : PSI} {ws : va_W} {H : Heap} {locs : List Loc} {x y o : Nat} (hw : WD D cy GG (fun q : Nat => s.heap.size ≤ q) s wrL waL [] [] Ps ws H locs) (h_x : (x, 33) ∈ Ps) (h_y : (y, 55) ∈ Ps) (h_o : (o, 56) ∈ Ps) {gh : Int} {gdT : Nat → Nat} {gdq : Nat → Nat} {gdg : Nat → Nat} {gdo : OS} {gdA : OS} {gdB : OS} {gda : Int32} {gdb : Int32} {gdR : Nat → Int32} {gdU : Nat → Int32} {gdV : Nat → Int32} {gdN : Nat → Nat} {gdNU : Nat → Nat} {gdNV : Nat → Nat} {gdL : Nat → Int64} {gdLU : Nat → Int64} {gdLV : Nat → Int64} {gdf : Int32} (x_TLX_x_gh : TLX ws x (gh)) (x_TLM_y_gh : TLM ws y (gh)) (x_BYX_x_gdT : BYX Ps ws x gdT) (x_BYM_y_gdT : BYM Ps ws y gdT) (x_WKX_x : WKX Ps ws x) (x_GWX_x_gdq : GWX ws x gdq) (x_GQ_gdq_gdg : GQ Ps ws gdq gdg) (x_HE_gdq_gdg_gdo_gdA_gdB_false_false : HE Ps ws gdq gdg gdo gdA gdB false false) (x_FLP_gdq_gda_gdb : FLP ws gdq gda gdb) (x_HD_y_gdR : AX 14 34 (HDp gdR) Ps ws y) (x_KP_y_gdU_gdV : AX 16 36 (KPp gdU gdV) Ps ws y) (x_ISA_y_gda_gdb : AX 23 44 (ISp gda gdb) Ps ws y) (x_NAM_y_gdL : AXL 20 41 (NMp gdL) Ps ws y) (x_KNM_y_gdLU_gdLV : AXL 22 43 (KNp gdLU gdLV) Ps ws y) (x_PDF_gdo_gdR_gdN : (PDO gdo gdR gdN)) (x_NLP_gdR_gdN_gdL : (NLC gdR gdN gdL)) (x_LKP_gda_gdA_gdU_gdNU_gdLU : (LKP gda gdA gdU gdNU gdLU)) (x_LKP_gdb_gdB_gdV_gdNV_gdLV : (LKP gdb gdB gdV gdNV gdLV)) (x_LF_x_gdf : FLD ws x 9 11 (.int gdf)) (x_MF_y_gdf : FLD ws y 10 10 (.int gdf)) {i : Int32} (r_i : RI i 0 3066) (hiL : i.toInt + 6 ≤ L) {C S : Nat} (hC : C + 6 ≤ 601024) (hSl : S + 125 ≤ 7293034) {ls : Array Slot} (hl : lv_has ls 7 [(4, .int i), (3, .ref o), (2, .ref y), (1, .ref x), (0, .ref b)]) {Q : State → Prop} (kx : ∀ (gh : Int) (gdT : Nat → Nat) (gdq : Nat → Nat) (gdg : Nat → Nat) (gdo : OS) (gdA : OS) (gdB : OS) (gda : Int32) (gdb : Int32) (gdR : Nat → Int32) (gdU : Nat → Int32) (gdV : Nat → Int32) (gdN : Nat → Nat) (gdNU : Nat → Nat) (gdNV : Nat → Nat) (gdL : Nat → Int64) (gdLU : Nat → Int64) (gdLV : Nat → Int64) (gdf : Int32) (Ps : PSI) (ws : va_W) (H : Heap) (locs : List Loc) (ls : Array Slot), WD D cy GG (fun q : Nat => s.heap.size ≤ q) s wrL waL [] [] Ps ws H locs → (x, 33) ∈ Ps → (y, 55) ∈ Ps → (o, 56) ∈ Ps → TLX ws x (gh) → TLM ws y (gh) → BYX Ps ws x gdT → BYM Ps ws y gdT → WKX Ps ws x → GWX ws x gdq → GQ Ps ws gdq gdg → HE Ps ws gdq gdg gdo gdA gdB false false → FLP ws gdq gda gdb → AX 14 34 (HDp gdR) Ps ws y → AX 16 36 (KPp gdU gdV) Ps ws y → AX 23 44 (ISp gda gdb) Ps ws y → AXL 20 41 (NMp gdL) Ps ws y → AXL 22 43 (KNp gdLU gdLV) Ps ws y → (PDO gdo gdR gdN) → (NLC gdR gdN gdL) → (LKP gda gdA gdU gdNU gdLU) → (LKP gdb gdB gdV gdNV gdLV) → FLD ws x 9 11 (.int gdf) → FLD ws y 10 10 (.int gdf) → lv_has ls 7 [(4, .int i), (3, .ref o), (2, .ref y), (1, .ref x), (0, .ref b)] → W p l e room_1 s m #[Value.ref b] below meth c H locs (C + 6) (S + 125) Q (F0 m 1335 ls [])) : W p l e room_1 s m #[Value.ref b] below meth c H locs C S Q (F0 m 697 ls []) := by
  have hA : ∀ q : Nat, s.heap.size ≤ q → (fun q : Nat => s.heap.size ≤ q) q := fun _ h => h
  have hbA : ¬ (fun q : Nat => s.heap.size ≤ q) b := Nat.not_le.mpr hbl
  refine lv_aload_n hx hb dL_law_697 rfl (lv_at hl 3 rfl) ?_
  refine lv_aload_n hx hb dL_law_698 rfl (lv_at hl 4 rfl) ?_
  refine lv_iload hx hb dL_law_699 (lv_at hl 0 rfl) ?_
  refine lv_iconst (v := 1) hx hb dL_law_701 (by decide) ?_
  refine lv_iadd hx hb dL_law_702 (lv_topi (fun v_1 e_v_1 => ?_))
  obtain ⟨t_v_1, r_v_1⟩ := tq_add (lo := 1) (hi := 3067) r_i rl_1 (by decide +kernel) e_v_1
  have t_v_1 : v_1.toInt = i.toInt + 1 := t_v_1
  refine va_sld hx hb hX hbl hbA hw.2.2.2.1 (i := v_1) (vp_in_iff.mpr ⟨by have k1 := r_v_1.1; omega, by have k1 := r_v_1.2; omega⟩) dL_law_703 ?_
  obtain ⟨v_2, e_v_2⟩ : ∃ q9 : Int32, xs (Int32.toNatClampNeg v_1) = q9 := ⟨_, rfl⟩
  refine tI e_v_2 ?_
  have r_v_2 := ri_any v_2
  refine lv_aload_n hx hb dL_law_704 rfl (lv_at hl 4 rfl) ?_
  refine lv_iload hx hb dL_law_705 (lv_at hl 0 rfl) ?_
  refine lv_iconst (v := 2) hx hb dL_law_707 (by decide) ?_
  refine lv_iadd hx hb dL_law_708 (lv_topi (fun v_3 e_v_3 => ?_))
  obtain ⟨t_v_3, r_v_3⟩ := tq_add (lo := 2) (hi := 3068) r_i rl_2 (by decide +kernel) e_v_3
  have t_v_3 : v_3.toInt = i.toInt + 2 := t_v_3
  refine va_sld hx hb hX hbl hbA hw.2.2.2.1 (i := v_3) (vp_in_iff.mpr ⟨by have k1 := r_v_3.1; omega, by have k1 := r_v_3.2; omega⟩) dL_law_709 ?_
  obtain ⟨v_4, e_v_4⟩ : ∃ q9 : Int32, xs (Int32.toNatClampNeg v_3) = q9 := ⟨_, rfl⟩
  refine tI e_v_4 ?_
  have r_v_4 := ri_any v_4
  refine tk_i (va_runV (As := [.int v_2, .int v_4]) (rest := []) ⟨hx, hb, hml, hown, hts⟩ (c_X9_carry__1 l D cy z H.size Ps ws hw.1 x v_2 v_4 (gdq) (gdg) (gdo) (gdA) (gdB) h_x r_v_2 r_v_4 x_GWX_x_gdq x_GQ_gdq_gdg x_HE_gdq_gdg_gdo_gdA_gdB_false_false) (cwV 2 hts (gV tw_665 tw_666 tw_667 tw_1 tw_668) rfl rfl rfl (by decide +kernel) ⟨Nat.le_of_ble_eq_true rfl, Nat.le_of_ble_eq_true rfl⟩) (tg_preV hw hK hSD hA (ci := 9) (q := (RX9, TX9, 15)) rfl h_x rfl) rfl rfl hl.1 rfl (lv_room (Nat.le_of_ble_eq_true rfl)) dL_law_710 ⟨by show _ ≤ 601024; omega, by show _ ≤ 7293034; omega⟩) hw hA ⟨by decide, by decide⟩ (fun v_5 ws H locs hp_v_5 hw hF9 => ?_)
  have x_TLX_x_gh := TLX.over hF9 x_TLX_x_gh (by decide)
  have x_TLM_y_gh := TLM.over hF9 x_TLM_y_gh (by decide)
  have x_BYX_x_gdT := BYX.over hF9 x_BYX_x_gdT (by decide)
  have x_BYM_y_gdT := BYM.over hF9 x_BYM_y_gdT (by decide)
  have x_WKX_x := WKX.over hF9 x_WKX_x (by decide)
  have x_GWX_x_gdq := GWX.over hF9 x_GWX_x_gdq (by decide)
  have x_GQ_gdq_gdg := GQ.over hF9 x_GQ_gdq_gdg (by decide)
  have x_FLP_gdq_gda_gdb := FLP.over hF9 x_FLP_gdq_gda_gdb (by decide)
  have x_HD_y_gdR := AX.over hF9 x_HD_y_gdR (by decide)
  have x_KP_y_gdU_gdV := AX.over hF9 x_KP_y_gdU_gdV (by decide)
  have x_ISA_y_gda_gdb := AX.over hF9 x_ISA_y_gda_gdb (by decide)
  have x_NAM_y_gdL := AXL.over hF9 x_NAM_y_gdL (by decide)
  have x_KNM_y_gdLU_gdLV := AXL.over hF9 x_KNM_y_gdLU_gdLV (by decide)
  have x_LF_x_gdf := FLD.over hF9 x_LF_x_gdf (by decide)
  have x_MF_y_gdf := FLD.over hF9 x_MF_y_gdf (by decide)
  have r_v_5 : RI v_5 (-2147483648) 2147483647 := hp_v_5.1
  have x_HE_gdq_gdg_gdo_gdA_gdB_false_false := hp_v_5.2.2.2.1.1
  refine lv_pop hx hb dL_law_713 rfl ?_
  refine lv_aload_n hx hb dL_law_714 rfl (lv_at hl 2 rfl) ?_
  refine lv_aload_n hx hb dL_law_715 rfl (lv_at hl 4 rfl) ?_
  refine lv_iload hx hb dL_law_716 (lv_at hl 0 rfl) ?_
  refine lv_iconst (v := 1) hx hb dL_law_718 (by decide) ?_
  refine lv_iadd hx hb dL_law_719 (lv_topi (fun v_6 e_v_6 => ?_))
  obtain ⟨t_v_6, r_v_6⟩ := tq_add (lo := 1) (hi := 3067) r_i rl_1 (by decide +kernel) e_v_6
  have t_v_6 : v_6.toInt = i.toInt + 1 := t_v_6
  refine va_sld hx hb hX hbl hbA hw.2.2.2.1 (i := v_6) (vp_in_iff.mpr ⟨by have k1 := r_v_6.1; omega, by have k1 := r_v_6.2; omega⟩) dL_law_720 ?_
  refine tI (y := v_2) (by rw [e_v_6, ← e_v_1]; exact e_v_2) ?_
  refine lv_aload_n hx hb dL_law_721 rfl (lv_at hl 4 rfl) ?_
  refine lv_iload hx hb dL_law_722 (lv_at hl 0 rfl) ?_
  refine lv_iconst (v := 2) hx hb dL_law_724 (by decide) ?_
  refine lv_iadd hx hb dL_law_725 (lv_topi (fun v_8 e_v_8 => ?_))
  obtain ⟨t_v_8, r_v_8⟩ := tq_add (lo := 2) (hi := 3068) r_i rl_2 (by decide +kernel) e_v_8
  have t_v_8 : v_8.toInt = i.toInt + 2 := t_v_8
  refine va_sld hx hb hX hbl hbA hw.2.2.2.1 (i := v_8) (vp_in_iff.mpr ⟨by have k1 := r_v_8.1; omega, by have k1 := r_v_8.2; omega⟩) dL_law_726 ?_
  refine tI (y := v_4) (by rw [e_v_8, ← e_v_3]; exact e_v_4) ?_
  refine tk_i (va_runV (As := [.int v_2, .int v_4]) (rest := []) ⟨hx, hb, hml, hown, hts⟩ (c_X10_carry__1 l D cy z H.size Ps ws hw.1 y v_2 v_4 (gdR) h_y r_v_2 r_v_4 x_HD_y_gdR) (cwV 2 hts (gV tw_1544 tw_1545 tw_1546 tw_15 tw_1547) rfl rfl rfl (by decide +kernel) ⟨Nat.le_of_ble_eq_true rfl, Nat.le_of_ble_eq_true rfl⟩) (tg_preV hw hK hSD hA (ci := 10) (q := (RX10, TX10, 49)) rfl h_y rfl) rfl rfl hl.1 rfl (lv_room (Nat.le_of_ble_eq_true rfl)) dL_law_727 ⟨by show _ ≤ 601024; omega, by show _ ≤ 7293034; omega⟩) hw hA ⟨by decide, by decide⟩ (fun v_10 ws H locs hp_v_10 hw hF9 => ?_)
  have x_TLX_x_gh := TLX.over hF9 x_TLX_x_gh (by decide)
  have x_TLM_y_gh := TLM.over hF9 x_TLM_y_gh (by decide)
  have x_BYX_x_gdT := BYX.over hF9 x_BYX_x_gdT (by decide)
  have x_BYM_y_gdT := BYM.over hF9 x_BYM_y_gdT (by decide)
  have x_WKX_x := WKX.over hF9 x_WKX_x (by decide)
  have x_GWX_x_gdq := GWX.over hF9 x_GWX_x_gdq (by decide)
  have x_GQ_gdq_gdg := GQ.over hF9 x_GQ_gdq_gdg (by decide)
  have x_FLP_gdq_gda_gdb := FLP.over hF9 x_FLP_gdq_gda_gdb (by decide)
  have x_KP_y_gdU_gdV := AX.over hF9 x_KP_y_gdU_gdV (by decide)
  have x_ISA_y_gda_gdb := AX.over hF9 x_ISA_y_gda_gdb (by decide)
  have x_NAM_y_gdL := AXL.over hF9 x_NAM_y_gdL (by decide)
  have x_KNM_y_gdLU_gdLV := AXL.over hF9 x_KNM_y_gdLU_gdLV (by decide)
  have x_LF_x_gdf := FLD.over hF9 x_LF_x_gdf (by decide)
  have x_MF_y_gdf := FLD.over hF9 x_MF_y_gdf (by decide)
  have x_HE_gdq_gdg_gdo_gdA_gdB_false_false := HE.over hF9 x_HE_gdq_gdg_gdo_gdA_gdB_false_false (by decide)
  obtain ⟨x_HD_y_gdR, hp_v_10⟩ := hp_v_10
  have r_v_10 : RI v_10 (-1) 2 := hp_v_10.1
  refine lv_pop hx hb dL_law_730 rfl ?_
  refine lv_goto (tgt := 1335) hx hb dL_law_731 (by decide) ?_
  refine W.widen (k := C + 6) (n := S + 125) (by omega) (by omega) ?_
  exact kx (gh) gdT gdq gdg gdo gdA gdB gda gdb gdR gdU gdV gdN gdNU gdNV gdL gdLU gdLV gdf _ ws _ _ ls hw h_x h_y h_o x_TLX_x_gh x_TLM_y_gh x_BYX_x_gdT x_BYM_y_gdT x_WKX_x x_GWX_x_gdq x_GQ_gdq_gdg x_HE_gdq_gdg_gdo_gdA_gdB_false_false x_FLP_gdq_gda_gdb x_HD_y_gdR x_KP_y_gdU_gdV x_ISA_y_gda_gdb x_NAM_y_gdL x_KNM_y_gdLU_gdLV x_PDF_gdo_gdR_gdN x_NLP_gdR_gdN_gdL x_LKP_gda_gdA_gdU_gdNU_gdLU x_LKP_gdb_gdB_gdV_gdNV_gdLV x_LF_x_gdf x_MF_y_gdf (lv_sub hl [0, 1, 2, 3, 4] rfl)
set_option maxHeartbeats 4000000 in
set_option maxRecDepth 100000 in
theorem op16 {p : Program} {e : Env} {s : State} {m : MethodId} {below : List Frame} {meth : Method} {c : Code} (l : Launch) (hl0 : l.stackTraces = false) {b L : Nat} {xs : Nat → Int32} (hx : p.tables.exec = Jvm.exec) (hb : c.code = code) (hml : c.maxLocals = 7) (hown : s.vm.findClass RL = some m.cls) (hts : ∀ w ∈ gT, w.before #[Value.ref b] s = true) (hX : va_X b L xs s s.heap) (hbl : b < s.heap.size) (D : va_G) (cy : Nat → ClassId) (z : Nat → Nat) (hK : va_K D classes (TY cy) s) (hSD : SD z (fun q : Nat => s.heap.size ≤ q) s) (hSE : SE z (fun q : Nat => s.heap.size ≤ q) s) {Ps : PSI} {ws : va_W} {H : Heap} {locs : List Loc} {x y o : Nat} (hw : WD D cy GG (fun q : Nat => s.heap.size ≤ q) s wrL waL [] [] Ps ws H locs) (h_x : (x, 33) ∈ Ps) (h_y : (y, 55) ∈ Ps) (h_o : (o, 56) ∈ Ps) {gh : Int} {gdT : Nat → Nat} {gdq : Nat → Nat} {gdg : Nat → Nat} {gdo : OS} {gdA : OS} {gdB : OS} {gda : Int32} {gdb : Int32} {gdR : Nat → Int32} {gdU : Nat → Int32} {gdV : Nat → Int32} {gdN : Nat → Nat} {gdNU : Nat → Nat} {gdNV : Nat → Nat} {gdL : Nat → Int64} {gdLU : Nat → Int64} {gdLV : Nat → Int64} {gdf : Int32} (x_TLX_x_gh : TLX ws x (gh)) (x_TLM_y_gh : TLM ws y (gh)) (x_BYX_x_gdT : BYX Ps ws x gdT) (x_BYM_y_gdT : BYM Ps ws y gdT) (x_WKX_x : WKX Ps ws x) (x_GWX_x_gdq : GWX ws x gdq) (x_GQ_gdq_gdg : GQ Ps ws gdq gdg) (x_HE_gdq_gdg_gdo_gdA_gdB_false_false : HE Ps ws gdq gdg gdo gdA gdB false false) (x_FLP_gdq_gda_gdb : FLP ws gdq gda gdb) (x_HD_y_gdR : AX 14 34 (HDp gdR) Ps ws y) (x_KP_y_gdU_gdV : AX 16 36 (KPp gdU gdV) Ps ws y) (x_ISA_y_gda_gdb : AX 23 44 (ISp gda gdb) Ps ws y) (x_NAM_y_gdL : AXL 20 41 (NMp gdL) Ps ws y) (x_KNM_y_gdLU_gdLV : AXL 22 43 (KNp gdLU gdLV) Ps ws y) (x_PDF_gdo_gdR_gdN : (PDO gdo gdR gdN)) (x_NLP_gdR_gdN_gdL : (NLC gdR gdN gdL)) (x_LKP_gda_gdA_gdU_gdNU_gdLU : (LKP gda gdA gdU gdNU gdLU)) (x_LKP_gdb_gdB_gdV_gdNV_gdLV : (LKP gdb gdB gdV gdNV gdLV)) (x_LF_x_gdf : FLD ws x 9 11 (.int gdf)) (x_MF_y_gdf : FLD ws y 10 10 (.int gdf)) {i : Int32} (r_i : RI i 0 3066) (hiL : i.toInt + 6 ≤ L) {C S : Nat} (hC : C + 6 ≤ 601024) (hSl : S + 125 ≤ 7293034) {ls : Array Slot} (hl : lv_has ls 7 [(4, .int i), (3, .ref o), (2, .ref y), (1, .ref x), (0, .ref b)]) {Q : State → Prop} (kx : ∀ (gh : Int) (gdT : Nat → Nat) (gdq : Nat → Nat) (gdg : Nat → Nat) (gdo : OS) (gdA : OS) (gdB : OS) (gda : Int32) (gdb : Int32) (gdR : Nat → Int32) (gdU : Nat → Int32) (gdV : Nat → Int32) (gdN : Nat → Nat) (gdNU : Nat → Nat) (gdNV : Nat → Nat) (gdL : Nat → Int64) (gdLU : Nat → Int64) (gdLV : Nat → Int64) (gdf : Int32) (Ps : PSI) (ws : va_W) (H : Heap) (locs : List Loc) (ls : Array Slot), WD D cy GG (fun q : Nat => s.heap.size ≤ q) s wrL waL [] [] Ps ws H locs → (x, 33) ∈ Ps → (y, 55) ∈ Ps → (o, 56) ∈ Ps → TLX ws x (gh) → TLM ws y (gh) → BYX Ps ws x gdT → BYM Ps ws y gdT → WKX Ps ws x → GWX ws x gdq → GQ Ps ws gdq gdg → HE Ps ws gdq gdg gdo gdA gdB false false → FLP ws gdq gda gdb → AX 14 34 (HDp gdR) Ps ws y → AX 16 36 (KPp gdU gdV) Ps ws y → AX 23 44 (ISp gda gdb) Ps ws y → AXL 20 41 (NMp gdL) Ps ws y → AXL 22 43 (KNp gdLU gdLV) Ps ws y → (PDO gdo gdR gdN) → (NLC gdR gdN gdL) → (LKP gda gdA gdU gdNU gdLU) → (LKP gdb gdB gdV gdNV gdLV) → FLD ws x 9 11 (.int gdf) → FLD ws y 10 10 (.int gdf) → lv_has ls 7 [(4, .int i), (3, .ref o), (2, .ref y), (1, .ref x), (0, .ref b)] → W p l e room_1 s m #[Value.ref b] below meth c H locs (C + 6) (S + 125) Q (F0 m 1335 ls [])) : W p l e room_1 s m #[Value.ref b] below meth c H locs C S Q (F0 m 734 ls []) := by
  have hA : ∀ q : Nat, s.heap.size ≤ q → (fun q : Nat => s.heap.size ≤ q) q := fun _ h => h
  have hbA : ¬ (fun q : Nat => s.heap.size ≤ q) b := Nat.not_le.mpr hbl
  refine lv_aload_n hx hb dL_law_734 rfl (lv_at hl 3 rfl) ?_
  refine lv_aload_n hx hb dL_law_735 rfl (lv_at hl 4 rfl) ?_
  refine lv_iload hx hb dL_law_736 (lv_at hl 0 rfl) ?_
  refine lv_iconst (v := 1) hx hb dL_law_738 (by decide) ?_
  refine lv_iadd hx hb dL_law_739 (lv_topi (fun v_1 e_v_1 => ?_))
  obtain ⟨t_v_1, r_v_1⟩ := tq_add (lo := 1) (hi := 3067) r_i rl_1 (by decide +kernel) e_v_1
  have t_v_1 : v_1.toInt = i.toInt + 1 := t_v_1
  refine va_sld hx hb hX hbl hbA hw.2.2.2.1 (i := v_1) (vp_in_iff.mpr ⟨by have k1 := r_v_1.1; omega, by have k1 := r_v_1.2; omega⟩) dL_law_740 ?_
  obtain ⟨v_2, e_v_2⟩ : ∃ q9 : Int32, xs (Int32.toNatClampNeg v_1) = q9 := ⟨_, rfl⟩
  refine tI e_v_2 ?_
  have r_v_2 := ri_any v_2
  refine tk_i (va_runV (As := [.int v_2]) (rest := []) ⟨hx, hb, hml, hown, hts⟩ (c_X9_days__1 l D cy z H.size Ps ws hw.1 x v_2 (gdq) (gdg) (gdo) (gdA) (gdB) h_x r_v_2 x_GWX_x_gdq x_GQ_gdq_gdg x_HE_gdq_gdg_gdo_gdA_gdB_false_false) (cwV 1 hts (gV tw_673 tw_674 tw_675 tw_1 tw_676) rfl rfl rfl (by decide +kernel) ⟨Nat.le_of_ble_eq_true rfl, Nat.le_of_ble_eq_true rfl⟩) (tg_preV hw hK hSD hA (ci := 9) (q := (RX9, TX9, 15)) rfl h_x rfl) rfl rfl hl.1 rfl (lv_room (Nat.le_of_ble_eq_true rfl)) dL_law_741 ⟨by show _ ≤ 601024; omega, by show _ ≤ 7293034; omega⟩) hw hA ⟨by decide, by decide⟩ (fun v_3 ws H locs hp_v_3 hw hF9 => ?_)
  have x_TLX_x_gh := TLX.over hF9 x_TLX_x_gh (by decide)
  have x_TLM_y_gh := TLM.over hF9 x_TLM_y_gh (by decide)
  have x_BYX_x_gdT := BYX.over hF9 x_BYX_x_gdT (by decide)
  have x_BYM_y_gdT := BYM.over hF9 x_BYM_y_gdT (by decide)
  have x_WKX_x := WKX.over hF9 x_WKX_x (by decide)
  have x_GWX_x_gdq := GWX.over hF9 x_GWX_x_gdq (by decide)
  have x_GQ_gdq_gdg := GQ.over hF9 x_GQ_gdq_gdg (by decide)
  have x_FLP_gdq_gda_gdb := FLP.over hF9 x_FLP_gdq_gda_gdb (by decide)
  have x_HD_y_gdR := AX.over hF9 x_HD_y_gdR (by decide)
  have x_KP_y_gdU_gdV := AX.over hF9 x_KP_y_gdU_gdV (by decide)
  have x_ISA_y_gda_gdb := AX.over hF9 x_ISA_y_gda_gdb (by decide)
  have x_NAM_y_gdL := AXL.over hF9 x_NAM_y_gdL (by decide)
  have x_KNM_y_gdLU_gdLV := AXL.over hF9 x_KNM_y_gdLU_gdLV (by decide)
  have x_LF_x_gdf := FLD.over hF9 x_LF_x_gdf (by decide)
  have x_MF_y_gdf := FLD.over hF9 x_MF_y_gdf (by decide)
  have r_v_3 : RI v_3 (-2147483648) 2147483647 := hp_v_3.1
  have x_HE_gdq_gdg_gdo_gdA_gdB_false_false := hp_v_3.2.2.2.1.1
  refine lv_pop hx hb dL_law_744 rfl ?_
  refine lv_aload_n hx hb dL_law_745 rfl (lv_at hl 2 rfl) ?_
  refine lv_aload_n hx hb dL_law_746 rfl (lv_at hl 4 rfl) ?_
  refine lv_iload hx hb dL_law_747 (lv_at hl 0 rfl) ?_
  refine lv_iconst (v := 1) hx hb dL_law_749 (by decide) ?_
  refine lv_iadd hx hb dL_law_750 (lv_topi (fun v_4 e_v_4 => ?_))
  obtain ⟨t_v_4, r_v_4⟩ := tq_add (lo := 1) (hi := 3067) r_i rl_1 (by decide +kernel) e_v_4
  have t_v_4 : v_4.toInt = i.toInt + 1 := t_v_4
  refine va_sld hx hb hX hbl hbA hw.2.2.2.1 (i := v_4) (vp_in_iff.mpr ⟨by have k1 := r_v_4.1; omega, by have k1 := r_v_4.2; omega⟩) dL_law_751 ?_
  refine tI (y := v_2) (by rw [e_v_4, ← e_v_1]; exact e_v_2) ?_
  refine tk_i (va_runV (As := [.int v_2]) (rest := []) ⟨hx, hb, hml, hown, hts⟩ (c_X10_days__1 l D cy z H.size Ps ws hw.1 y v_2 (gdR) h_y r_v_2 x_HD_y_gdR) (cwV 1 hts (gV tw_1556 tw_1557 tw_1558 tw_15 tw_1559) rfl rfl rfl (by decide +kernel) ⟨Nat.le_of_ble_eq_true rfl, Nat.le_of_ble_eq_true rfl⟩) (tg_preV hw hK hSD hA (ci := 10) (q := (RX10, TX10, 49)) rfl h_y rfl) rfl rfl hl.1 rfl (lv_room (Nat.le_of_ble_eq_true rfl)) dL_law_752 ⟨by show _ ≤ 601024; omega, by show _ ≤ 7293034; omega⟩) hw hA ⟨by decide, by decide⟩ (fun v_6 ws H locs hp_v_6 hw hF9 => ?_)
  have x_TLX_x_gh := TLX.over hF9 x_TLX_x_gh (by decide)
  have x_TLM_y_gh := TLM.over hF9 x_TLM_y_gh (by decide)
  have x_BYX_x_gdT := BYX.over hF9 x_BYX_x_gdT (by decide)
  have x_BYM_y_gdT := BYM.over hF9 x_BYM_y_gdT (by decide)
  have x_WKX_x := WKX.over hF9 x_WKX_x (by decide)
  have x_GWX_x_gdq := GWX.over hF9 x_GWX_x_gdq (by decide)
  have x_GQ_gdq_gdg := GQ.over hF9 x_GQ_gdq_gdg (by decide)
  have x_FLP_gdq_gda_gdb := FLP.over hF9 x_FLP_gdq_gda_gdb (by decide)
  have x_KP_y_gdU_gdV := AX.over hF9 x_KP_y_gdU_gdV (by decide)
  have x_ISA_y_gda_gdb := AX.over hF9 x_ISA_y_gda_gdb (by decide)
  have x_NAM_y_gdL := AXL.over hF9 x_NAM_y_gdL (by decide)
  have x_KNM_y_gdLU_gdLV := AXL.over hF9 x_KNM_y_gdLU_gdLV (by decide)
  have x_LF_x_gdf := FLD.over hF9 x_LF_x_gdf (by decide)
  have x_MF_y_gdf := FLD.over hF9 x_MF_y_gdf (by decide)
  have x_HE_gdq_gdg_gdo_gdA_gdB_false_false := HE.over hF9 x_HE_gdq_gdg_gdo_gdA_gdB_false_false (by decide)
  obtain ⟨x_HD_y_gdR, hp_v_6⟩ := hp_v_6
  have r_v_6 : RI v_6 (-2147483648) 2147483647 := hp_v_6.1
  refine lv_pop hx hb dL_law_755 rfl ?_
  refine lv_goto (tgt := 1335) hx hb dL_law_756 (by decide) ?_
  refine W.widen (k := C + 6) (n := S + 125) (by omega) (by omega) ?_
  exact kx (gh) gdT gdq gdg gdo gdA gdB gda gdb gdR gdU gdV gdN gdNU gdNV gdL gdLU gdLV gdf _ ws _ _ ls hw h_x h_y h_o x_TLX_x_gh x_TLM_y_gh x_BYX_x_gdT x_BYM_y_gdT x_WKX_x x_GWX_x_gdq x_GQ_gdq_gdg x_HE_gdq_gdg_gdo_gdA_gdB_false_false x_FLP_gdq_gda_gdb x_HD_y_gdR x_KP_y_gdU_gdV x_ISA_y_gda_gdb x_NAM_y_gdL x_KNM_y_gdLU_gdLV x_PDF_gdo_gdR_gdN x_NLP_gdR_gdN_gdL x_LKP_gda_gdA_gdU_gdNU_gdLU x_LKP_gdb_gdB_gdV_gdNV_gdLV x_LF_x_gdf x_MF_y_gdf (lv_sub hl [0, 1, 2, 3, 4] rfl)
set_option maxHeartbeats 4000000 in
set_option maxRecDepth 100000 in
theorem op17 {p : Program} {e : Env} {s : State} {m : MethodId} {below : List Frame} {meth : Method} {c : Code} (l : Launch) (hl0 : l.stackTraces = false) {b L : Nat} {xs : Nat → Int32} (hx : p.tables.exec = Jvm.exec) (hb : c.code = code) (hml : c.maxLocals = 7) (hown : s.vm.findClass RL = some m.cls) (hts : ∀ w ∈ gT, w.before #[Value.ref b] s = true) (hX : va_X b L xs s s.heap) (hbl : b < s.heap.size) (D : va_G) (cy : Nat → ClassId) (z : Nat → Nat) (hK : va_K D classes (TY cy) s) (hSD : SD z (fun q : Nat => s.heap.size ≤ q) s) (hSE : SE z (fun q : Nat => s.heap.size ≤ q) s) {Ps : PSI} {ws : va_W} {H : Heap} {locs : List Loc} {x y o : Nat} (hw : WD D cy GG (fun q : Nat => s.heap.size ≤ q) s wrL waL [] [] Ps ws H locs) (h_x : (x, 33) ∈ Ps) (h_y : (y, 55) ∈ Ps) (h_o : (o, 56) ∈ Ps) {gh : Int} {gdT : Nat → Nat} {gdq : Nat → Nat} {gdg : Nat → Nat} {gdo : OS} {gdA : OS} {gdB : OS} {gda : Int32} {gdb : Int32} {gdR : Nat → Int32} {gdU : Nat → Int32} {gdV : Nat → Int32} {gdN : Nat → Nat} {gdNU : Nat → Nat} {gdNV : Nat → Nat} {gdL : Nat → Int64} {gdLU : Nat → Int64} {gdLV : Nat → Int64} {gdf : Int32} (x_TLX_x_gh : TLX ws x (gh)) (x_TLM_y_gh : TLM ws y (gh)) (x_BYX_x_gdT : BYX Ps ws x gdT) (x_BYM_y_gdT : BYM Ps ws y gdT) (x_WKX_x : WKX Ps ws x) (x_GWX_x_gdq : GWX ws x gdq) (x_GQ_gdq_gdg : GQ Ps ws gdq gdg) (x_HE_gdq_gdg_gdo_gdA_gdB_false_false : HE Ps ws gdq gdg gdo gdA gdB false false) (x_FLP_gdq_gda_gdb : FLP ws gdq gda gdb) (x_HD_y_gdR : AX 14 34 (HDp gdR) Ps ws y) (x_KP_y_gdU_gdV : AX 16 36 (KPp gdU gdV) Ps ws y) (x_ISA_y_gda_gdb : AX 23 44 (ISp gda gdb) Ps ws y) (x_NAM_y_gdL : AXL 20 41 (NMp gdL) Ps ws y) (x_KNM_y_gdLU_gdLV : AXL 22 43 (KNp gdLU gdLV) Ps ws y) (x_PDF_gdo_gdR_gdN : (PDO gdo gdR gdN)) (x_NLP_gdR_gdN_gdL : (NLC gdR gdN gdL)) (x_LKP_gda_gdA_gdU_gdNU_gdLU : (LKP gda gdA gdU gdNU gdLU)) (x_LKP_gdb_gdB_gdV_gdNV_gdLV : (LKP gdb gdB gdV gdNV gdLV)) (x_LF_x_gdf : FLD ws x 9 11 (.int gdf)) (x_MF_y_gdf : FLD ws y 10 10 (.int gdf)) {i : Int32} (r_i : RI i 0 3066) (hiL : i.toInt + 6 ≤ L) {C S : Nat} (hC : C + 6 ≤ 601024) (hSl : S + 125 ≤ 7293034) {ls : Array Slot} (hl : lv_has ls 7 [(4, .int i), (3, .ref o), (2, .ref y), (1, .ref x), (0, .ref b)]) {Q : State → Prop} (kx : ∀ (gh : Int) (gdT : Nat → Nat) (gdq : Nat → Nat) (gdg : Nat → Nat) (gdo : OS) (gdA : OS) (gdB : OS) (gda : Int32) (gdb : Int32) (gdR : Nat → Int32) (gdU : Nat → Int32) (gdV : Nat → Int32) (gdN : Nat → Nat) (gdNU : Nat → Nat) (gdNV : Nat → Nat) (gdL : Nat → Int64) (gdLU : Nat → Int64) (gdLV : Nat → Int64) (gdf : Int32) (Ps : PSI) (ws : va_W) (H : Heap) (locs : List Loc) (ls : Array Slot), WD D cy GG (fun q : Nat => s.heap.size ≤ q) s wrL waL [] [] Ps ws H locs → (x, 33) ∈ Ps → (y, 55) ∈ Ps → (o, 56) ∈ Ps → TLX ws x (gh) → TLM ws y (gh) → BYX Ps ws x gdT → BYM Ps ws y gdT → WKX Ps ws x → GWX ws x gdq → GQ Ps ws gdq gdg → HE Ps ws gdq gdg gdo gdA gdB false false → FLP ws gdq gda gdb → AX 14 34 (HDp gdR) Ps ws y → AX 16 36 (KPp gdU gdV) Ps ws y → AX 23 44 (ISp gda gdb) Ps ws y → AXL 20 41 (NMp gdL) Ps ws y → AXL 22 43 (KNp gdLU gdLV) Ps ws y → (PDO gdo gdR gdN) → (NLC gdR gdN gdL) → (LKP gda gdA gdU gdNU gdLU) → (LKP gdb gdB gdV gdNV gdLV) → FLD ws x 9 11 (.int gdf) → FLD ws y 10 10 (.int gdf) → lv_has ls 7 [(4, .int i), (3, .ref o), (2, .ref y), (1, .ref x), (0, .ref b)] → W p l e room_1 s m #[Value.ref b] below meth c H locs (C + 6) (S + 125) Q (F0 m 1335 ls [])) : W p l e room_1 s m #[Value.ref b] below meth c H locs C S Q (F0 m 759 ls []) := by
  have hA : ∀ q : Nat, s.heap.size ≤ q → (fun q : Nat => s.heap.size ≤ q) q := fun _ h => h
  have hbA : ¬ (fun q : Nat => s.heap.size ≤ q) b := Nat.not_le.mpr hbl
  refine lv_aload_n hx hb dL_law_759 rfl (lv_at hl 3 rfl) ?_
  refine tk_i (va_runV (As := []) (rest := []) ⟨hx, hb, hml, hown, hts⟩ (c_X9_undo__1 l D cy z H.size Ps ws hw.1 x (gdq) (gdg) (gdo) (gdA) (gdB) h_x x_GWX_x_gdq x_GQ_gdq_gdg x_HE_gdq_gdg_gdo_gdA_gdB_false_false) (cwV 0 hts (gV tw_713 tw_714 tw_715 tw_1 tw_716) rfl rfl rfl (by decide +kernel) ⟨Nat.le_of_ble_eq_true rfl, Nat.le_of_ble_eq_true rfl⟩) (tg_preV hw hK hSD hA (ci := 9) (q := (RX9, TX9, 15)) rfl h_x rfl) rfl rfl hl.1 rfl (lv_room (Nat.le_of_ble_eq_true rfl)) dL_law_760 ⟨by show _ ≤ 601024; omega, by show _ ≤ 7293034; omega⟩) hw hA ⟨by decide, by decide⟩ (fun v_1 ws H locs hp_v_1 hw hF9 => ?_)
  have x_TLX_x_gh := TLX.over hF9 x_TLX_x_gh (by decide)
  have x_TLM_y_gh := TLM.over hF9 x_TLM_y_gh (by decide)
  have x_BYX_x_gdT := BYX.over hF9 x_BYX_x_gdT (by decide)
  have x_BYM_y_gdT := BYM.over hF9 x_BYM_y_gdT (by decide)
  have x_WKX_x := WKX.over hF9 x_WKX_x (by decide)
  have x_GWX_x_gdq := GWX.over hF9 x_GWX_x_gdq (by decide)
  have x_GQ_gdq_gdg := GQ.over hF9 x_GQ_gdq_gdg (by decide)
  have x_FLP_gdq_gda_gdb := FLP.over hF9 x_FLP_gdq_gda_gdb (by decide)
  have x_HD_y_gdR := AX.over hF9 x_HD_y_gdR (by decide)
  have x_KP_y_gdU_gdV := AX.over hF9 x_KP_y_gdU_gdV (by decide)
  have x_ISA_y_gda_gdb := AX.over hF9 x_ISA_y_gda_gdb (by decide)
  have x_NAM_y_gdL := AXL.over hF9 x_NAM_y_gdL (by decide)
  have x_KNM_y_gdLU_gdLV := AXL.over hF9 x_KNM_y_gdLU_gdLV (by decide)
  have x_LF_x_gdf := FLD.over hF9 x_LF_x_gdf (by decide)
  have x_MF_y_gdf := FLD.over hF9 x_MF_y_gdf (by decide)
  have r_v_1 : RI v_1 (-2147483648) 2147483647 := hp_v_1.1
  have x_HE_gdq_gdg_gdo_gdA_gdB_false_false := hp_v_1.2.2.2.1.1
  refine lv_pop hx hb dL_law_763 rfl ?_
  refine lv_aload_n hx hb dL_law_764 rfl (lv_at hl 2 rfl) ?_
  refine tk_i (va_runV (As := []) (rest := []) ⟨hx, hb, hml, hown, hts⟩ (c_X10_undo__1 l D cy z H.size Ps ws hw.1 y (gdR) h_y x_HD_y_gdR) (cwV 0 hts (gV tw_1552 tw_1553 tw_1554 tw_15 tw_1555) rfl rfl rfl (by decide +kernel) ⟨Nat.le_of_ble_eq_true rfl, Nat.le_of_ble_eq_true rfl⟩) (tg_preV hw hK hSD hA (ci := 10) (q := (RX10, TX10, 49)) rfl h_y rfl) rfl rfl hl.1 rfl (lv_room (Nat.le_of_ble_eq_true rfl)) dL_law_765 ⟨by show _ ≤ 601024; omega, by show _ ≤ 7293034; omega⟩) hw hA ⟨by decide, by decide⟩ (fun v_2 ws H locs hp_v_2 hw hF9 => ?_)
  have x_TLX_x_gh := TLX.over hF9 x_TLX_x_gh (by decide)
  have x_TLM_y_gh := TLM.over hF9 x_TLM_y_gh (by decide)
  have x_BYX_x_gdT := BYX.over hF9 x_BYX_x_gdT (by decide)
  have x_BYM_y_gdT := BYM.over hF9 x_BYM_y_gdT (by decide)
  have x_WKX_x := WKX.over hF9 x_WKX_x (by decide)
  have x_GWX_x_gdq := GWX.over hF9 x_GWX_x_gdq (by decide)
  have x_GQ_gdq_gdg := GQ.over hF9 x_GQ_gdq_gdg (by decide)
  have x_FLP_gdq_gda_gdb := FLP.over hF9 x_FLP_gdq_gda_gdb (by decide)
  have x_KP_y_gdU_gdV := AX.over hF9 x_KP_y_gdU_gdV (by decide)
  have x_ISA_y_gda_gdb := AX.over hF9 x_ISA_y_gda_gdb (by decide)
  have x_NAM_y_gdL := AXL.over hF9 x_NAM_y_gdL (by decide)
  have x_KNM_y_gdLU_gdLV := AXL.over hF9 x_KNM_y_gdLU_gdLV (by decide)
  have x_LF_x_gdf := FLD.over hF9 x_LF_x_gdf (by decide)
  have x_MF_y_gdf := FLD.over hF9 x_MF_y_gdf (by decide)
  have x_HE_gdq_gdg_gdo_gdA_gdB_false_false := HE.over hF9 x_HE_gdq_gdg_gdo_gdA_gdB_false_false (by decide)
  obtain ⟨x_HD_y_gdR, hp_v_2⟩ := hp_v_2
  have r_v_2 : RI v_2 (-1) 7 := hp_v_2.1
  refine lv_pop hx hb dL_law_768 rfl ?_
  refine lv_goto (tgt := 1335) hx hb dL_law_769 (by decide) ?_
  refine W.widen (k := C + 6) (n := S + 125) (by omega) (by omega) ?_
  exact kx (gh) gdT gdq gdg gdo gdA gdB gda gdb gdR gdU gdV gdN gdNU gdNV gdL gdLU gdLV gdf _ ws _ _ ls hw h_x h_y h_o x_TLX_x_gh x_TLM_y_gh x_BYX_x_gdT x_BYM_y_gdT x_WKX_x x_GWX_x_gdq x_GQ_gdq_gdg x_HE_gdq_gdg_gdo_gdA_gdB_false_false x_FLP_gdq_gda_gdb x_HD_y_gdR x_KP_y_gdU_gdV x_ISA_y_gda_gdb x_NAM_y_gdL x_KNM_y_gdLU_gdLV x_PDF_gdo_gdR_gdN x_NLP_gdR_gdN_gdL x_LKP_gda_gdA_gdU_gdNU_gdLU x_LKP_gdb_gdB_gdV_gdNV_gdLV x_LF_x_gdf x_MF_y_gdf (lv_sub hl [0, 1, 2, 3, 4] rfl)
set_option maxHeartbeats 4000000 in
set_option maxRecDepth 100000 in
theorem op18 {p : Program} {e : Env} {s : State} {m : MethodId} {below : List Frame} {meth : Method} {c : Code} (l : Launch) (hl0 : l.stackTraces = false) {b L : Nat} {xs : Nat → Int32} (hx : p.tables.exec = Jvm.exec) (hb : c.code = code) (hml : c.maxLocals = 7) (hown : s.vm.findClass RL = some m.cls) (hts : ∀ w ∈ gT, w.before #[Value.ref b] s = true) (hX : va_X b L xs s s.heap) (hbl : b < s.heap.size) (D : va_G) (cy : Nat → ClassId) (z : Nat → Nat) (hK : va_K D classes (TY cy) s) (hSD : SD z (fun q : Nat => s.heap.size ≤ q) s) (hSE : SE z (fun q : Nat => s.heap.size ≤ q) s) {Ps : PSI} {ws : va_W} {H : Heap} {locs : List Loc} {x y o : Nat} (hw : WD D cy GG (fun q : Nat => s.heap.size ≤ q) s wrL waL [] [] Ps ws H locs) (h_x : (x, 33) ∈ Ps) (h_y : (y, 55) ∈ Ps) (h_o : (o, 56) ∈ Ps) {gh : Int} {gdT : Nat → Nat} {gdq : Nat → Nat} {gdg : Nat → Nat} {gdo : OS} {gdA : OS} {gdB : OS} {gda : Int32} {gdb : Int32} {gdR : Nat → Int32} {gdU : Nat → Int32} {gdV : Nat → Int32} {gdN : Nat → Nat} {gdNU : Nat → Nat} {gdNV : Nat → Nat} {gdL : Nat → Int64} {gdLU : Nat → Int64} {gdLV : Nat → Int64} {gdf : Int32} (x_TLX_x_gh : TLX ws x (gh)) (x_TLM_y_gh : TLM ws y (gh)) (x_BYX_x_gdT : BYX Ps ws x gdT) (x_BYM_y_gdT : BYM Ps ws y gdT) (x_WKX_x : WKX Ps ws x) (x_GWX_x_gdq : GWX ws x gdq) (x_GQ_gdq_gdg : GQ Ps ws gdq gdg) (x_HE_gdq_gdg_gdo_gdA_gdB_false_false : HE Ps ws gdq gdg gdo gdA gdB false false) (x_FLP_gdq_gda_gdb : FLP ws gdq gda gdb) (x_HD_y_gdR : AX 14 34 (HDp gdR) Ps ws y) (x_KP_y_gdU_gdV : AX 16 36 (KPp gdU gdV) Ps ws y) (x_ISA_y_gda_gdb : AX 23 44 (ISp gda gdb) Ps ws y) (x_NAM_y_gdL : AXL 20 41 (NMp gdL) Ps ws y) (x_KNM_y_gdLU_gdLV : AXL 22 43 (KNp gdLU gdLV) Ps ws y) (x_PDF_gdo_gdR_gdN : (PDO gdo gdR gdN)) (x_NLP_gdR_gdN_gdL : (NLC gdR gdN gdL)) (x_LKP_gda_gdA_gdU_gdNU_gdLU : (LKP gda gdA gdU gdNU gdLU)) (x_LKP_gdb_gdB_gdV_gdNV_gdLV : (LKP gdb gdB gdV gdNV gdLV)) (x_LF_x_gdf : FLD ws x 9 11 (.int gdf)) (x_MF_y_gdf : FLD ws y 10 10 (.int gdf)) {i : Int32} (r_i : RI i 0 3066) (hiL : i.toInt + 6 ≤ L) {C S : Nat} (hC : C + 6 ≤ 601024) (hSl : S + 125 ≤ 7293034) {ls : Array Slot} (hl : lv_has ls 7 [(4, .int i), (3, .ref o), (2, .ref y), (1, .ref x), (0, .ref b)]) {Q : State → Prop} (kx : ∀ (gh : Int) (gdT : Nat → Nat) (gdq : Nat → Nat) (gdg : Nat → Nat) (gdo : OS) (gdA : OS) (gdB : OS) (gda : Int32) (gdb : Int32) (gdR : Nat → Int32) (gdU : Nat → Int32) (gdV : Nat → Int32) (gdN : Nat → Nat) (gdNU : Nat → Nat) (gdNV : Nat → Nat) (gdL : Nat → Int64) (gdLU : Nat → Int64) (gdLV : Nat → Int64) (gdf : Int32) (Ps : PSI) (ws : va_W) (H : Heap) (locs : List Loc) (ls : Array Slot), WD D cy GG (fun q : Nat => s.heap.size ≤ q) s wrL waL [] [] Ps ws H locs → (x, 33) ∈ Ps → (y, 55) ∈ Ps → (o, 56) ∈ Ps → TLX ws x (gh) → TLM ws y (gh) → BYX Ps ws x gdT → BYM Ps ws y gdT → WKX Ps ws x → GWX ws x gdq → GQ Ps ws gdq gdg → HE Ps ws gdq gdg gdo gdA gdB false false → FLP ws gdq gda gdb → AX 14 34 (HDp gdR) Ps ws y → AX 16 36 (KPp gdU gdV) Ps ws y → AX 23 44 (ISp gda gdb) Ps ws y → AXL 20 41 (NMp gdL) Ps ws y → AXL 22 43 (KNp gdLU gdLV) Ps ws y → (PDO gdo gdR gdN) → (NLC gdR gdN gdL) → (LKP gda gdA gdU gdNU gdLU) → (LKP gdb gdB gdV gdNV gdLV) → FLD ws x 9 11 (.int gdf) → FLD ws y 10 10 (.int gdf) → lv_has ls 7 [(4, .int i), (3, .ref o), (2, .ref y), (1, .ref x), (0, .ref b)] → W p l e room_1 s m #[Value.ref b] below meth c H locs (C + 6) (S + 125) Q (F0 m 1335 ls [])) : W p l e room_1 s m #[Value.ref b] below meth c H locs C S Q (F0 m 772 ls []) := by
  have hA : ∀ q : Nat, s.heap.size ≤ q → (fun q : Nat => s.heap.size ≤ q) q := fun _ h => h
  have hbA : ¬ (fun q : Nat => s.heap.size ≤ q) b := Nat.not_le.mpr hbl
  refine lv_aload_n hx hb dL_law_772 rfl (lv_at hl 3 rfl) ?_
  refine lv_aload_n hx hb dL_law_773 rfl (lv_at hl 4 rfl) ?_
  refine lv_iload hx hb dL_law_774 (lv_at hl 0 rfl) ?_
  refine lv_iconst (v := 1) hx hb dL_law_776 (by decide) ?_
  refine lv_iadd hx hb dL_law_777 (lv_topi (fun v_1 e_v_1 => ?_))
  obtain ⟨t_v_1, r_v_1⟩ := tq_add (lo := 1) (hi := 3067) r_i rl_1 (by decide +kernel) e_v_1
  have t_v_1 : v_1.toInt = i.toInt + 1 := t_v_1
  refine va_sld hx hb hX hbl hbA hw.2.2.2.1 (i := v_1) (vp_in_iff.mpr ⟨by have k1 := r_v_1.1; omega, by have k1 := r_v_1.2; omega⟩) dL_law_778 ?_
  obtain ⟨v_2, e_v_2⟩ : ∃ q9 : Int32, xs (Int32.toNatClampNeg v_1) = q9 := ⟨_, rfl⟩
  refine tI e_v_2 ?_
  have r_v_2 := ri_any v_2
  refine lv_aload_n hx hb dL_law_779 rfl (lv_at hl 4 rfl) ?_
  refine lv_iload hx hb dL_law_780 (lv_at hl 0 rfl) ?_
  refine lv_iconst (v := 2) hx hb dL_law_782 (by decide) ?_
  refine lv_iadd hx hb dL_law_783 (lv_topi (fun v_3 e_v_3 => ?_))
  obtain ⟨t_v_3, r_v_3⟩ := tq_add (lo := 2) (hi := 3068) r_i rl_2 (by decide +kernel) e_v_3
  have t_v_3 : v_3.toInt = i.toInt + 2 := t_v_3
  refine va_sld hx hb hX hbl hbA hw.2.2.2.1 (i := v_3) (vp_in_iff.mpr ⟨by have k1 := r_v_3.1; omega, by have k1 := r_v_3.2; omega⟩) dL_law_784 ?_
  obtain ⟨v_4, e_v_4⟩ : ∃ q9 : Int32, xs (Int32.toNatClampNeg v_3) = q9 := ⟨_, rfl⟩
  refine tI e_v_4 ?_
  have r_v_4 := ri_any v_4
  refine tk_i (va_runV (As := [.int v_2, .int v_4]) (rest := []) ⟨hx, hb, hml, hown, hts⟩ (c_X9_when l D cy z H.size Ps ws hw.1 x v_2 v_4 h_x r_v_2 r_v_4) (cwV 2 hts (gV tw_721 tw_722 tw_723 tw_1 tw_724) rfl rfl rfl (by decide +kernel) ⟨Nat.le_of_ble_eq_true rfl, Nat.le_of_ble_eq_true rfl⟩) (tg_preV hw hK hSD hA (ci := 9) (q := (RX9, TX9, 15)) rfl h_x rfl) rfl rfl hl.1 rfl (lv_room (Nat.le_of_ble_eq_true rfl)) dL_law_785 ⟨by show _ ≤ 601024; omega, by show _ ≤ 7293034; omega⟩) hw hA ⟨by decide, by decide⟩ (fun v_5 ws H locs hp_v_5 hw hF9 => ?_)
  have x_TLX_x_gh := TLX.over hF9 x_TLX_x_gh (by decide)
  have x_TLM_y_gh := TLM.over hF9 x_TLM_y_gh (by decide)
  have x_BYX_x_gdT := BYX.over hF9 x_BYX_x_gdT (by decide)
  have x_BYM_y_gdT := BYM.over hF9 x_BYM_y_gdT (by decide)
  have x_WKX_x := WKX.over hF9 x_WKX_x (by decide)
  have x_GWX_x_gdq := GWX.over hF9 x_GWX_x_gdq (by decide)
  have x_GQ_gdq_gdg := GQ.over hF9 x_GQ_gdq_gdg (by decide)
  have x_HE_gdq_gdg_gdo_gdA_gdB_false_false := HE.over hF9 x_HE_gdq_gdg_gdo_gdA_gdB_false_false (by decide)
  have x_FLP_gdq_gda_gdb := FLP.over hF9 x_FLP_gdq_gda_gdb (by decide)
  have x_HD_y_gdR := AX.over hF9 x_HD_y_gdR (by decide)
  have x_KP_y_gdU_gdV := AX.over hF9 x_KP_y_gdU_gdV (by decide)
  have x_ISA_y_gda_gdb := AX.over hF9 x_ISA_y_gda_gdb (by decide)
  have x_NAM_y_gdL := AXL.over hF9 x_NAM_y_gdL (by decide)
  have x_KNM_y_gdLU_gdLV := AXL.over hF9 x_KNM_y_gdLU_gdLV (by decide)
  have x_LF_x_gdf := FLD.over hF9 x_LF_x_gdf (by decide)
  have x_MF_y_gdf := FLD.over hF9 x_MF_y_gdf (by decide)
  have r_v_5 : RI v_5 (-1) 60 := hp_v_5.1
  refine lv_pop hx hb dL_law_788 rfl ?_
  refine lv_aload_n hx hb dL_law_789 rfl (lv_at hl 2 rfl) ?_
  refine lv_aload_n hx hb dL_law_790 rfl (lv_at hl 4 rfl) ?_
  refine lv_iload hx hb dL_law_791 (lv_at hl 0 rfl) ?_
  refine lv_iconst (v := 1) hx hb dL_law_793 (by decide) ?_
  refine lv_iadd hx hb dL_law_794 (lv_topi (fun v_6 e_v_6 => ?_))
  obtain ⟨t_v_6, r_v_6⟩ := tq_add (lo := 1) (hi := 3067) r_i rl_1 (by decide +kernel) e_v_6
  have t_v_6 : v_6.toInt = i.toInt + 1 := t_v_6
  refine va_sld hx hb hX hbl hbA hw.2.2.2.1 (i := v_6) (vp_in_iff.mpr ⟨by have k1 := r_v_6.1; omega, by have k1 := r_v_6.2; omega⟩) dL_law_795 ?_
  refine tI (y := v_2) (by rw [e_v_6, ← e_v_1]; exact e_v_2) ?_
  refine lv_aload_n hx hb dL_law_796 rfl (lv_at hl 4 rfl) ?_
  refine lv_iload hx hb dL_law_797 (lv_at hl 0 rfl) ?_
  refine lv_iconst (v := 2) hx hb dL_law_799 (by decide) ?_
  refine lv_iadd hx hb dL_law_800 (lv_topi (fun v_8 e_v_8 => ?_))
  obtain ⟨t_v_8, r_v_8⟩ := tq_add (lo := 2) (hi := 3068) r_i rl_2 (by decide +kernel) e_v_8
  have t_v_8 : v_8.toInt = i.toInt + 2 := t_v_8
  refine va_sld hx hb hX hbl hbA hw.2.2.2.1 (i := v_8) (vp_in_iff.mpr ⟨by have k1 := r_v_8.1; omega, by have k1 := r_v_8.2; omega⟩) dL_law_801 ?_
  refine tI (y := v_4) (by rw [e_v_8, ← e_v_3]; exact e_v_4) ?_
  refine tk_i (va_runV (As := [.int v_2, .int v_4]) (rest := []) ⟨hx, hb, hml, hown, hts⟩ (c_X10_when__1 l D cy z H.size Ps ws hw.1 y v_2 v_4 (gdR) h_y r_v_2 r_v_4 x_HD_y_gdR) (cwV 2 hts (gV tw_1579 tw_1580 tw_1581 tw_15 tw_1582) rfl rfl rfl (by decide +kernel) ⟨Nat.le_of_ble_eq_true rfl, Nat.le_of_ble_eq_true rfl⟩) (tg_preV hw hK hSD hA (ci := 10) (q := (RX10, TX10, 49)) rfl h_y rfl) rfl rfl hl.1 rfl (lv_room (Nat.le_of_ble_eq_true rfl)) dL_law_802 ⟨by show _ ≤ 601024; omega, by show _ ≤ 7293034; omega⟩) hw hA ⟨by decide, by decide⟩ (fun v_10 ws H locs hp_v_10 hw hF9 => ?_)
  have x_TLX_x_gh := TLX.over hF9 x_TLX_x_gh (by decide)
  have x_TLM_y_gh := TLM.over hF9 x_TLM_y_gh (by decide)
  have x_BYX_x_gdT := BYX.over hF9 x_BYX_x_gdT (by decide)
  have x_BYM_y_gdT := BYM.over hF9 x_BYM_y_gdT (by decide)
  have x_WKX_x := WKX.over hF9 x_WKX_x (by decide)
  have x_GWX_x_gdq := GWX.over hF9 x_GWX_x_gdq (by decide)
  have x_GQ_gdq_gdg := GQ.over hF9 x_GQ_gdq_gdg (by decide)
  have x_HE_gdq_gdg_gdo_gdA_gdB_false_false := HE.over hF9 x_HE_gdq_gdg_gdo_gdA_gdB_false_false (by decide)
  have x_FLP_gdq_gda_gdb := FLP.over hF9 x_FLP_gdq_gda_gdb (by decide)
  have x_KP_y_gdU_gdV := AX.over hF9 x_KP_y_gdU_gdV (by decide)
  have x_ISA_y_gda_gdb := AX.over hF9 x_ISA_y_gda_gdb (by decide)
  have x_NAM_y_gdL := AXL.over hF9 x_NAM_y_gdL (by decide)
  have x_KNM_y_gdLU_gdLV := AXL.over hF9 x_KNM_y_gdLU_gdLV (by decide)
  have x_LF_x_gdf := FLD.over hF9 x_LF_x_gdf (by decide)
  have x_MF_y_gdf := FLD.over hF9 x_MF_y_gdf (by decide)
  obtain ⟨x_HD_y_gdR, hp_v_10⟩ := hp_v_10
  have r_v_10 : RI v_10 (-1) 60 := hp_v_10.1
  refine lv_pop hx hb dL_law_805 rfl ?_
  refine lv_goto (tgt := 1335) hx hb dL_law_806 (by decide) ?_
  refine W.widen (k := C + 6) (n := S + 125) (by omega) (by omega) ?_
  exact kx (gh) gdT gdq gdg gdo gdA gdB gda gdb gdR gdU gdV gdN gdNU gdNV gdL gdLU gdLV gdf _ ws _ _ ls hw h_x h_y h_o x_TLX_x_gh x_TLM_y_gh x_BYX_x_gdT x_BYM_y_gdT x_WKX_x x_GWX_x_gdq x_GQ_gdq_gdg x_HE_gdq_gdg_gdo_gdA_gdB_false_false x_FLP_gdq_gda_gdb x_HD_y_gdR x_KP_y_gdU_gdV x_ISA_y_gda_gdb x_NAM_y_gdL x_KNM_y_gdLU_gdLV x_PDF_gdo_gdR_gdN x_NLP_gdR_gdN_gdL x_LKP_gda_gdA_gdU_gdNU_gdLU x_LKP_gdb_gdB_gdV_gdNV_gdLV x_LF_x_gdf x_MF_y_gdf (lv_sub hl [0, 1, 2, 3, 4] rfl)
set_option maxHeartbeats 4000000 in
set_option maxRecDepth 100000 in
theorem op19 {p : Program} {e : Env} {s : State} {m : MethodId} {below : List Frame} {meth : Method} {c : Code} (l : Launch) (hl0 : l.stackTraces = false) {b L : Nat} {xs : Nat → Int32} (hx : p.tables.exec = Jvm.exec) (hb : c.code = code) (hml : c.maxLocals = 7) (hown : s.vm.findClass RL = some m.cls) (hts : ∀ w ∈ gT, w.before #[Value.ref b] s = true) (hX : va_X b L xs s s.heap) (hbl : b < s.heap.size) (D : va_G) (cy : Nat → ClassId) (z : Nat → Nat) (hK : va_K D classes (TY cy) s) (hSD : SD z (fun q : Nat => s.heap.size ≤ q) s) (hSE : SE z (fun q : Nat => s.heap.size ≤ q) s) {Ps : PSI} {ws : va_W} {H : Heap} {locs : List Loc} {x y o : Nat} (hw : WD D cy GG (fun q : Nat => s.heap.size ≤ q) s wrL waL [] [] Ps ws H locs) (h_x : (x, 33) ∈ Ps) (h_y : (y, 55) ∈ Ps) (h_o : (o, 56) ∈ Ps) {gh : Int} {gdT : Nat → Nat} {gdq : Nat → Nat} {gdg : Nat → Nat} {gdo : OS} {gdA : OS} {gdB : OS} {gda : Int32} {gdb : Int32} {gdR : Nat → Int32} {gdU : Nat → Int32} {gdV : Nat → Int32} {gdN : Nat → Nat} {gdNU : Nat → Nat} {gdNV : Nat → Nat} {gdL : Nat → Int64} {gdLU : Nat → Int64} {gdLV : Nat → Int64} {gdf : Int32} (x_TLX_x_gh : TLX ws x (gh)) (x_TLM_y_gh : TLM ws y (gh)) (x_BYX_x_gdT : BYX Ps ws x gdT) (x_BYM_y_gdT : BYM Ps ws y gdT) (x_WKX_x : WKX Ps ws x) (x_GWX_x_gdq : GWX ws x gdq) (x_GQ_gdq_gdg : GQ Ps ws gdq gdg) (x_HE_gdq_gdg_gdo_gdA_gdB_false_false : HE Ps ws gdq gdg gdo gdA gdB false false) (x_FLP_gdq_gda_gdb : FLP ws gdq gda gdb) (x_HD_y_gdR : AX 14 34 (HDp gdR) Ps ws y) (x_KP_y_gdU_gdV : AX 16 36 (KPp gdU gdV) Ps ws y) (x_ISA_y_gda_gdb : AX 23 44 (ISp gda gdb) Ps ws y) (x_NAM_y_gdL : AXL 20 41 (NMp gdL) Ps ws y) (x_KNM_y_gdLU_gdLV : AXL 22 43 (KNp gdLU gdLV) Ps ws y) (x_PDF_gdo_gdR_gdN : (PDO gdo gdR gdN)) (x_NLP_gdR_gdN_gdL : (NLC gdR gdN gdL)) (x_LKP_gda_gdA_gdU_gdNU_gdLU : (LKP gda gdA gdU gdNU gdLU)) (x_LKP_gdb_gdB_gdV_gdNV_gdLV : (LKP gdb gdB gdV gdNV gdLV)) (x_LF_x_gdf : FLD ws x 9 11 (.int gdf)) (x_MF_y_gdf : FLD ws y 10 10 (.int gdf)) {i : Int32} (r_i : RI i 0 3066) (hiL : i.toInt + 6 ≤ L) {C S : Nat} (hC : C + 6 ≤ 601024) (hSl : S + 125 ≤ 7293034) {ls : Array Slot} (hl : lv_has ls 7 [(4, .int i), (3, .ref o), (2, .ref y), (1, .ref x), (0, .ref b)]) {Q : State → Prop} (kx : ∀ (gh : Int) (gdT : Nat → Nat) (gdq : Nat → Nat) (gdg : Nat → Nat) (gdo : OS) (gdA : OS) (gdB : OS) (gda : Int32) (gdb : Int32) (gdR : Nat → Int32) (gdU : Nat → Int32) (gdV : Nat → Int32) (gdN : Nat → Nat) (gdNU : Nat → Nat) (gdNV : Nat → Nat) (gdL : Nat → Int64) (gdLU : Nat → Int64) (gdLV : Nat → Int64) (gdf : Int32) (Ps : PSI) (ws : va_W) (H : Heap) (locs : List Loc) (ls : Array Slot), WD D cy GG (fun q : Nat => s.heap.size ≤ q) s wrL waL [] [] Ps ws H locs → (x, 33) ∈ Ps → (y, 55) ∈ Ps → (o, 56) ∈ Ps → TLX ws x (gh) → TLM ws y (gh) → BYX Ps ws x gdT → BYM Ps ws y gdT → WKX Ps ws x → GWX ws x gdq → GQ Ps ws gdq gdg → HE Ps ws gdq gdg gdo gdA gdB false false → FLP ws gdq gda gdb → AX 14 34 (HDp gdR) Ps ws y → AX 16 36 (KPp gdU gdV) Ps ws y → AX 23 44 (ISp gda gdb) Ps ws y → AXL 20 41 (NMp gdL) Ps ws y → AXL 22 43 (KNp gdLU gdLV) Ps ws y → (PDO gdo gdR gdN) → (NLC gdR gdN gdL) → (LKP gda gdA gdU gdNU gdLU) → (LKP gdb gdB gdV gdNV gdLV) → FLD ws x 9 11 (.int gdf) → FLD ws y 10 10 (.int gdf) → lv_has ls 7 [(4, .int i), (3, .ref o), (2, .ref y), (1, .ref x), (0, .ref b)] → W p l e room_1 s m #[Value.ref b] below meth c H locs (C + 6) (S + 125) Q (F0 m 1335 ls [])) : W p l e room_1 s m #[Value.ref b] below meth c H locs C S Q (F0 m 809 ls []) := by
  have hA : ∀ q : Nat, s.heap.size ≤ q → (fun q : Nat => s.heap.size ≤ q) q := fun _ h => h
  have hbA : ¬ (fun q : Nat => s.heap.size ≤ q) b := Nat.not_le.mpr hbl
  refine lv_aload_n hx hb dL_law_809 rfl (lv_at hl 3 rfl) ?_
  refine lv_aload_n hx hb dL_law_810 rfl (lv_at hl 4 rfl) ?_
  refine lv_iload hx hb dL_law_811 (lv_at hl 0 rfl) ?_
  refine lv_iconst (v := 1) hx hb dL_law_813 (by decide) ?_
  refine lv_iadd hx hb dL_law_814 (lv_topi (fun v_1 e_v_1 => ?_))
  obtain ⟨t_v_1, r_v_1⟩ := tq_add (lo := 1) (hi := 3067) r_i rl_1 (by decide +kernel) e_v_1
  have t_v_1 : v_1.toInt = i.toInt + 1 := t_v_1
  refine va_sld hx hb hX hbl hbA hw.2.2.2.1 (i := v_1) (vp_in_iff.mpr ⟨by have k1 := r_v_1.1; omega, by have k1 := r_v_1.2; omega⟩) dL_law_815 ?_
  obtain ⟨v_2, e_v_2⟩ : ∃ q9 : Int32, xs (Int32.toNatClampNeg v_1) = q9 := ⟨_, rfl⟩
  refine tI e_v_2 ?_
  have r_v_2 := ri_any v_2
  refine lv_aload_n hx hb dL_law_816 rfl (lv_at hl 4 rfl) ?_
  refine lv_iload hx hb dL_law_817 (lv_at hl 0 rfl) ?_
  refine lv_iconst (v := 2) hx hb dL_law_819 (by decide) ?_
  refine lv_iadd hx hb dL_law_820 (lv_topi (fun v_3 e_v_3 => ?_))
  obtain ⟨t_v_3, r_v_3⟩ := tq_add (lo := 2) (hi := 3068) r_i rl_2 (by decide +kernel) e_v_3
  have t_v_3 : v_3.toInt = i.toInt + 2 := t_v_3
  refine va_sld hx hb hX hbl hbA hw.2.2.2.1 (i := v_3) (vp_in_iff.mpr ⟨by have k1 := r_v_3.1; omega, by have k1 := r_v_3.2; omega⟩) dL_law_821 ?_
  obtain ⟨v_4, e_v_4⟩ : ∃ q9 : Int32, xs (Int32.toNatClampNeg v_3) = q9 := ⟨_, rfl⟩
  refine tI e_v_4 ?_
  have r_v_4 := ri_any v_4
  refine lv_aload_n hx hb dL_law_822 rfl (lv_at hl 4 rfl) ?_
  refine lv_iload hx hb dL_law_823 (lv_at hl 0 rfl) ?_
  refine lv_iconst (v := 3) hx hb dL_law_825 (by decide) ?_
  refine lv_iadd hx hb dL_law_826 (lv_topi (fun v_5 e_v_5 => ?_))
  obtain ⟨t_v_5, r_v_5⟩ := tq_add (lo := 3) (hi := 3069) r_i rl_3 (by decide +kernel) e_v_5
  have t_v_5 : v_5.toInt = i.toInt + 3 := t_v_5
  refine va_sld hx hb hX hbl hbA hw.2.2.2.1 (i := v_5) (vp_in_iff.mpr ⟨by have k1 := r_v_5.1; omega, by have k1 := r_v_5.2; omega⟩) dL_law_827 ?_
  obtain ⟨v_6, e_v_6⟩ : ∃ q9 : Int32, xs (Int32.toNatClampNeg v_5) = q9 := ⟨_, rfl⟩
  refine tI e_v_6 ?_
  have r_v_6 := ri_any v_6
  refine tk_i (va_runV (As := [.int v_2, .int v_4, .int v_6]) (rest := []) ⟨hx, hb, hml, hown, hts⟩ (c_X9_sitters__1 l D cy z H.size Ps ws hw.1 x v_2 v_4 v_6 (gdq) (gdg) (gdo) (gdA) (gdB) h_x r_v_2 r_v_4 r_v_6 x_GWX_x_gdq x_GQ_gdq_gdg x_HE_gdq_gdg_gdo_gdA_gdB_false_false) (cwV 3 hts (gV tw_729 tw_730 tw_731 tw_1 tw_732) rfl rfl rfl (by decide +kernel) ⟨Nat.le_of_ble_eq_true rfl, Nat.le_of_ble_eq_true rfl⟩) (tg_preV hw hK hSD hA (ci := 9) (q := (RX9, TX9, 15)) rfl h_x rfl) rfl rfl hl.1 rfl (lv_room (Nat.le_of_ble_eq_true rfl)) dL_law_828 ⟨by show _ ≤ 601024; omega, by show _ ≤ 7293034; omega⟩) hw hA ⟨by decide, by decide⟩ (fun v_7 ws H locs hp_v_7 hw hF9 => ?_)
  have x_TLX_x_gh := TLX.over hF9 x_TLX_x_gh (by decide)
  have x_TLM_y_gh := TLM.over hF9 x_TLM_y_gh (by decide)
  have x_BYX_x_gdT := BYX.over hF9 x_BYX_x_gdT (by decide)
  have x_BYM_y_gdT := BYM.over hF9 x_BYM_y_gdT (by decide)
  have x_WKX_x := WKX.over hF9 x_WKX_x (by decide)
  have x_GWX_x_gdq := GWX.over hF9 x_GWX_x_gdq (by decide)
  have x_GQ_gdq_gdg := GQ.over hF9 x_GQ_gdq_gdg (by decide)
  have x_FLP_gdq_gda_gdb := FLP.over hF9 x_FLP_gdq_gda_gdb (by decide)
  have x_HD_y_gdR := AX.over hF9 x_HD_y_gdR (by decide)
  have x_KP_y_gdU_gdV := AX.over hF9 x_KP_y_gdU_gdV (by decide)
  have x_ISA_y_gda_gdb := AX.over hF9 x_ISA_y_gda_gdb (by decide)
  have x_NAM_y_gdL := AXL.over hF9 x_NAM_y_gdL (by decide)
  have x_KNM_y_gdLU_gdLV := AXL.over hF9 x_KNM_y_gdLU_gdLV (by decide)
  have x_LF_x_gdf := FLD.over hF9 x_LF_x_gdf (by decide)
  have x_MF_y_gdf := FLD.over hF9 x_MF_y_gdf (by decide)
  have r_v_7 : RI v_7 (-1) 63 := hp_v_7.1
  have x_HE_gdq_gdg_gdo_gdA_gdB_false_false := hp_v_7.2.2.2.1.1
  refine lv_pop hx hb dL_law_831 rfl ?_
  refine lv_aload_n hx hb dL_law_832 rfl (lv_at hl 2 rfl) ?_
  refine lv_aload_n hx hb dL_law_833 rfl (lv_at hl 4 rfl) ?_
  refine lv_iload hx hb dL_law_834 (lv_at hl 0 rfl) ?_
  refine lv_iconst (v := 1) hx hb dL_law_836 (by decide) ?_
  refine lv_iadd hx hb dL_law_837 (lv_topi (fun v_8 e_v_8 => ?_))
  obtain ⟨t_v_8, r_v_8⟩ := tq_add (lo := 1) (hi := 3067) r_i rl_1 (by decide +kernel) e_v_8
  have t_v_8 : v_8.toInt = i.toInt + 1 := t_v_8
  refine va_sld hx hb hX hbl hbA hw.2.2.2.1 (i := v_8) (vp_in_iff.mpr ⟨by have k1 := r_v_8.1; omega, by have k1 := r_v_8.2; omega⟩) dL_law_838 ?_
  refine tI (y := v_2) (by rw [e_v_8, ← e_v_1]; exact e_v_2) ?_
  refine lv_aload_n hx hb dL_law_839 rfl (lv_at hl 4 rfl) ?_
  refine lv_iload hx hb dL_law_840 (lv_at hl 0 rfl) ?_
  refine lv_iconst (v := 2) hx hb dL_law_842 (by decide) ?_
  refine lv_iadd hx hb dL_law_843 (lv_topi (fun v_10 e_v_10 => ?_))
  obtain ⟨t_v_10, r_v_10⟩ := tq_add (lo := 2) (hi := 3068) r_i rl_2 (by decide +kernel) e_v_10
  have t_v_10 : v_10.toInt = i.toInt + 2 := t_v_10
  refine va_sld hx hb hX hbl hbA hw.2.2.2.1 (i := v_10) (vp_in_iff.mpr ⟨by have k1 := r_v_10.1; omega, by have k1 := r_v_10.2; omega⟩) dL_law_844 ?_
  refine tI (y := v_4) (by rw [e_v_10, ← e_v_3]; exact e_v_4) ?_
  refine lv_aload_n hx hb dL_law_845 rfl (lv_at hl 4 rfl) ?_
  refine lv_iload hx hb dL_law_846 (lv_at hl 0 rfl) ?_
  refine lv_iconst (v := 3) hx hb dL_law_848 (by decide) ?_
  refine lv_iadd hx hb dL_law_849 (lv_topi (fun v_12 e_v_12 => ?_))
  obtain ⟨t_v_12, r_v_12⟩ := tq_add (lo := 3) (hi := 3069) r_i rl_3 (by decide +kernel) e_v_12
  have t_v_12 : v_12.toInt = i.toInt + 3 := t_v_12
  refine va_sld hx hb hX hbl hbA hw.2.2.2.1 (i := v_12) (vp_in_iff.mpr ⟨by have k1 := r_v_12.1; omega, by have k1 := r_v_12.2; omega⟩) dL_law_850 ?_
  refine tI (y := v_6) (by rw [e_v_12, ← e_v_5]; exact e_v_6) ?_
  refine tk_i (va_runV (As := [.int v_2, .int v_4, .int v_6]) (rest := []) ⟨hx, hb, hml, hown, hts⟩ (c_X10_sitters__1 l D cy z H.size Ps ws hw.1 y v_2 v_4 v_6 (gdR) h_y r_v_2 r_v_4 r_v_6 x_HD_y_gdR) (cwV 3 hts (gV tw_1591 tw_1592 tw_1593 tw_15 tw_1594) rfl rfl rfl (by decide +kernel) ⟨Nat.le_of_ble_eq_true rfl, Nat.le_of_ble_eq_true rfl⟩) (tg_preV hw hK hSD hA (ci := 10) (q := (RX10, TX10, 49)) rfl h_y rfl) rfl rfl hl.1 rfl (lv_room (Nat.le_of_ble_eq_true rfl)) dL_law_851 ⟨by show _ ≤ 601024; omega, by show _ ≤ 7293034; omega⟩) hw hA ⟨by decide, by decide⟩ (fun v_14 ws H locs hp_v_14 hw hF9 => ?_)
  have x_TLX_x_gh := TLX.over hF9 x_TLX_x_gh (by decide)
  have x_TLM_y_gh := TLM.over hF9 x_TLM_y_gh (by decide)
  have x_BYX_x_gdT := BYX.over hF9 x_BYX_x_gdT (by decide)
  have x_BYM_y_gdT := BYM.over hF9 x_BYM_y_gdT (by decide)
  have x_WKX_x := WKX.over hF9 x_WKX_x (by decide)
  have x_GWX_x_gdq := GWX.over hF9 x_GWX_x_gdq (by decide)
  have x_GQ_gdq_gdg := GQ.over hF9 x_GQ_gdq_gdg (by decide)
  have x_FLP_gdq_gda_gdb := FLP.over hF9 x_FLP_gdq_gda_gdb (by decide)
  have x_KP_y_gdU_gdV := AX.over hF9 x_KP_y_gdU_gdV (by decide)
  have x_ISA_y_gda_gdb := AX.over hF9 x_ISA_y_gda_gdb (by decide)
  have x_NAM_y_gdL := AXL.over hF9 x_NAM_y_gdL (by decide)
  have x_KNM_y_gdLU_gdLV := AXL.over hF9 x_KNM_y_gdLU_gdLV (by decide)
  have x_LF_x_gdf := FLD.over hF9 x_LF_x_gdf (by decide)
  have x_MF_y_gdf := FLD.over hF9 x_MF_y_gdf (by decide)
  have x_HE_gdq_gdg_gdo_gdA_gdB_false_false := HE.over hF9 x_HE_gdq_gdg_gdo_gdA_gdB_false_false (by decide)
  obtain ⟨x_HD_y_gdR, hp_v_14⟩ := hp_v_14
  have r_v_14 : RI v_14 (-2147483648) 2147483647 := hp_v_14.1
  refine lv_pop hx hb dL_law_854 rfl ?_
  refine lv_goto (tgt := 1335) hx hb dL_law_855 (by decide) ?_
  refine W.widen (k := C + 6) (n := S + 125) (by omega) (by omega) ?_
  exact kx (gh) gdT gdq gdg gdo gdA gdB gda gdb gdR gdU gdV gdN gdNU gdNV gdL gdLU gdLV gdf _ ws _ _ ls hw h_x h_y h_o x_TLX_x_gh x_TLM_y_gh x_BYX_x_gdT x_BYM_y_gdT x_WKX_x x_GWX_x_gdq x_GQ_gdq_gdg x_HE_gdq_gdg_gdo_gdA_gdB_false_false x_FLP_gdq_gda_gdb x_HD_y_gdR x_KP_y_gdU_gdV x_ISA_y_gda_gdb x_NAM_y_gdL x_KNM_y_gdLU_gdLV x_PDF_gdo_gdR_gdN x_NLP_gdR_gdN_gdL x_LKP_gda_gdA_gdU_gdNU_gdLU x_LKP_gdb_gdB_gdV_gdNV_gdLV x_LF_x_gdf x_MF_y_gdf (lv_sub hl [0, 1, 2, 3, 4] rfl)
set_option maxHeartbeats 4000000 in
set_option maxRecDepth 100000 in
theorem op20 {p : Program} {e : Env} {s : State} {m : MethodId} {below : List Frame} {meth : Method} {c : Code} (l : Launch) (hl0 : l.stackTraces = false) {b L : Nat} {xs : Nat → Int32} (hx : p.tables.exec = Jvm.exec) (hb : c.code = code) (hml : c.maxLocals = 7) (hown : s.vm.findClass RL = some m.cls) (hts : ∀ w ∈ gT, w.before #[Value.ref b] s = true) (hX : va_X b L xs s s.heap) (hbl : b < s.heap.size) (D : va_G) (cy : Nat → ClassId) (z : Nat → Nat) (hK : va_K D classes (TY cy) s) (hSD : SD z (fun q : Nat => s.heap.size ≤ q) s) (hSE : SE z (fun q : Nat => s.heap.size ≤ q) s) {Ps : PSI} {ws : va_W} {H : Heap} {locs : List Loc} {x y o : Nat} (hw : WD D cy GG (fun q : Nat => s.heap.size ≤ q) s wrL waL [] [] Ps ws H locs) (h_x : (x, 33) ∈ Ps) (h_y : (y, 55) ∈ Ps) (h_o : (o, 56) ∈ Ps) {gh : Int} {gdT : Nat → Nat} {gdq : Nat → Nat} {gdg : Nat → Nat} {gdo : OS} {gdA : OS} {gdB : OS} {gda : Int32} {gdb : Int32} {gdR : Nat → Int32} {gdU : Nat → Int32} {gdV : Nat → Int32} {gdN : Nat → Nat} {gdNU : Nat → Nat} {gdNV : Nat → Nat} {gdL : Nat → Int64} {gdLU : Nat → Int64} {gdLV : Nat → Int64} {gdf : Int32} (x_TLX_x_gh : TLX ws x (gh)) (x_TLM_y_gh : TLM ws y (gh)) (x_BYX_x_gdT : BYX Ps ws x gdT) (x_BYM_y_gdT : BYM Ps ws y gdT) (x_WKX_x : WKX Ps ws x) (x_GWX_x_gdq : GWX ws x gdq) (x_GQ_gdq_gdg : GQ Ps ws gdq gdg) (x_HE_gdq_gdg_gdo_gdA_gdB_false_false : HE Ps ws gdq gdg gdo gdA gdB false false) (x_FLP_gdq_gda_gdb : FLP ws gdq gda gdb) (x_HD_y_gdR : AX 14 34 (HDp gdR) Ps ws y) (x_KP_y_gdU_gdV : AX 16 36 (KPp gdU gdV) Ps ws y) (x_ISA_y_gda_gdb : AX 23 44 (ISp gda gdb) Ps ws y) (x_NAM_y_gdL : AXL 20 41 (NMp gdL) Ps ws y) (x_KNM_y_gdLU_gdLV : AXL 22 43 (KNp gdLU gdLV) Ps ws y) (x_PDF_gdo_gdR_gdN : (PDO gdo gdR gdN)) (x_NLP_gdR_gdN_gdL : (NLC gdR gdN gdL)) (x_LKP_gda_gdA_gdU_gdNU_gdLU : (LKP gda gdA gdU gdNU gdLU)) (x_LKP_gdb_gdB_gdV_gdNV_gdLV : (LKP gdb gdB gdV gdNV gdLV)) (x_LF_x_gdf : FLD ws x 9 11 (.int gdf)) (x_MF_y_gdf : FLD ws y 10 10 (.int gdf)) {i : Int32} (r_i : RI i 0 3066) (hiL : i.toInt + 6 ≤ L) {C S : Nat} (hC : C + 6 ≤ 601024) (hSl : S + 125 ≤ 7293034) {ls : Array Slot} (hl : lv_has ls 7 [(4, .int i), (3, .ref o), (2, .ref y), (1, .ref x), (0, .ref b)]) {Q : State → Prop} (kx : ∀ (gh : Int) (gdT : Nat → Nat) (gdq : Nat → Nat) (gdg : Nat → Nat) (gdo : OS) (gdA : OS) (gdB : OS) (gda : Int32) (gdb : Int32) (gdR : Nat → Int32) (gdU : Nat → Int32) (gdV : Nat → Int32) (gdN : Nat → Nat) (gdNU : Nat → Nat) (gdNV : Nat → Nat) (gdL : Nat → Int64) (gdLU : Nat → Int64) (gdLV : Nat → Int64) (gdf : Int32) (Ps : PSI) (ws : va_W) (H : Heap) (locs : List Loc) (ls : Array Slot), WD D cy GG (fun q : Nat => s.heap.size ≤ q) s wrL waL [] [] Ps ws H locs → (x, 33) ∈ Ps → (y, 55) ∈ Ps → (o, 56) ∈ Ps → TLX ws x (gh) → TLM ws y (gh) → BYX Ps ws x gdT → BYM Ps ws y gdT → WKX Ps ws x → GWX ws x gdq → GQ Ps ws gdq gdg → HE Ps ws gdq gdg gdo gdA gdB false false → FLP ws gdq gda gdb → AX 14 34 (HDp gdR) Ps ws y → AX 16 36 (KPp gdU gdV) Ps ws y → AX 23 44 (ISp gda gdb) Ps ws y → AXL 20 41 (NMp gdL) Ps ws y → AXL 22 43 (KNp gdLU gdLV) Ps ws y → (PDO gdo gdR gdN) → (NLC gdR gdN gdL) → (LKP gda gdA gdU gdNU gdLU) → (LKP gdb gdB gdV gdNV gdLV) → FLD ws x 9 11 (.int gdf) → FLD ws y 10 10 (.int gdf) → lv_has ls 7 [(4, .int i), (3, .ref o), (2, .ref y), (1, .ref x), (0, .ref b)] → W p l e room_1 s m #[Value.ref b] below meth c H locs (C + 6) (S + 125) Q (F0 m 1335 ls [])) : W p l e room_1 s m #[Value.ref b] below meth c H locs C S Q (F0 m 858 ls []) := by
  have hA : ∀ q : Nat, s.heap.size ≤ q → (fun q : Nat => s.heap.size ≤ q) q := fun _ h => h
  have hbA : ¬ (fun q : Nat => s.heap.size ≤ q) b := Nat.not_le.mpr hbl
  refine lv_aload_n hx hb dL_law_858 rfl (lv_at hl 3 rfl) ?_
  refine tk_ir (va_runV (As := []) (rest := []) ⟨hx, hb, hml, hown, hts⟩ (c_X9_sitting l D cy z H.size Ps ws hw.1 x h_x) (cwV 0 hts (gV tw_748 tw_749 tw_750 tw_1 tw_751) rfl rfl rfl (by decide +kernel) ⟨Nat.le_of_ble_eq_true rfl, Nat.le_of_ble_eq_true rfl⟩) (tg_preV hw hK hSD hA (ci := 9) (q := (RX9, TX9, 15)) rfl h_x rfl) rfl rfl hl.1 rfl (lv_room (Nat.le_of_ble_eq_true rfl)) dL_law_859 ⟨by show _ ≤ 601024; omega, by show _ ≤ 7293034; omega⟩) hw hA (fun v_1  H locs hp_v_1 hw => ?_)
  have r_v_1 : RI v_1 (-2147483648) 2147483647 := hp_v_1.1
  refine lv_pop hx hb dL_law_862 rfl ?_
  refine lv_aload_n hx hb dL_law_863 rfl (lv_at hl 2 rfl) ?_
  refine tk_i (va_runV (As := []) (rest := []) ⟨hx, hb, hml, hown, hts⟩ (c_X10_sitting l D cy z H.size Ps ws hw.1 y h_y) (cwV 0 hts (gV tw_1595 tw_1596 tw_1597 tw_15 tw_1598) rfl rfl rfl (by decide +kernel) ⟨Nat.le_of_ble_eq_true rfl, Nat.le_of_ble_eq_true rfl⟩) (tg_preV hw hK hSD hA (ci := 10) (q := (RX10, TX10, 49)) rfl h_y rfl) rfl rfl hl.1 rfl (lv_room (Nat.le_of_ble_eq_true rfl)) dL_law_864 ⟨by show _ ≤ 601024; omega, by show _ ≤ 7293034; omega⟩) hw hA ⟨by decide, by decide⟩ (fun v_2 ws H locs hp_v_2 hw hF9 => ?_)
  have x_TLX_x_gh := TLX.over hF9 x_TLX_x_gh (by decide)
  have x_TLM_y_gh := TLM.over hF9 x_TLM_y_gh (by decide)
  have x_BYX_x_gdT := BYX.over hF9 x_BYX_x_gdT (by decide)
  have x_BYM_y_gdT := BYM.over hF9 x_BYM_y_gdT (by decide)
  have x_WKX_x := WKX.over hF9 x_WKX_x (by decide)
  have x_GWX_x_gdq := GWX.over hF9 x_GWX_x_gdq (by decide)
  have x_GQ_gdq_gdg := GQ.over hF9 x_GQ_gdq_gdg (by decide)
  have x_HE_gdq_gdg_gdo_gdA_gdB_false_false := HE.over hF9 x_HE_gdq_gdg_gdo_gdA_gdB_false_false (by decide)
  have x_FLP_gdq_gda_gdb := FLP.over hF9 x_FLP_gdq_gda_gdb (by decide)
  have x_HD_y_gdR := AX.over hF9 x_HD_y_gdR (by decide)
  have x_KP_y_gdU_gdV := AX.over hF9 x_KP_y_gdU_gdV (by decide)
  have x_ISA_y_gda_gdb := AX.over hF9 x_ISA_y_gda_gdb (by decide)
  have x_NAM_y_gdL := AXL.over hF9 x_NAM_y_gdL (by decide)
  have x_KNM_y_gdLU_gdLV := AXL.over hF9 x_KNM_y_gdLU_gdLV (by decide)
  have x_LF_x_gdf := FLD.over hF9 x_LF_x_gdf (by decide)
  have x_MF_y_gdf := FLD.over hF9 x_MF_y_gdf (by decide)
  have r_v_2 : RI v_2 (-2147483648) 2147483647 := hp_v_2.1
  refine lv_pop hx hb dL_law_867 rfl ?_
  refine lv_goto (tgt := 1335) hx hb dL_law_868 (by decide) ?_
  refine W.widen (k := C + 6) (n := S + 125) (by omega) (by omega) ?_
  exact kx (gh) gdT gdq gdg gdo gdA gdB gda gdb gdR gdU gdV gdN gdNU gdNV gdL gdLU gdLV gdf _ ws _ _ ls hw h_x h_y h_o x_TLX_x_gh x_TLM_y_gh x_BYX_x_gdT x_BYM_y_gdT x_WKX_x x_GWX_x_gdq x_GQ_gdq_gdg x_HE_gdq_gdg_gdo_gdA_gdB_false_false x_FLP_gdq_gda_gdb x_HD_y_gdR x_KP_y_gdU_gdV x_ISA_y_gda_gdb x_NAM_y_gdL x_KNM_y_gdLU_gdLV x_PDF_gdo_gdR_gdN x_NLP_gdR_gdN_gdL x_LKP_gda_gdA_gdU_gdNU_gdLU x_LKP_gdb_gdB_gdV_gdNV_gdLV x_LF_x_gdf x_MF_y_gdf (lv_sub hl [0, 1, 2, 3, 4] rfl)
set_option maxHeartbeats 4000000 in
set_option maxRecDepth 100000 in
theorem op21 {p : Program} {e : Env} {s : State} {m : MethodId} {below : List Frame} {meth : Method} {c : Code} (l : Launch) (hl0 : l.stackTraces = false) {b L : Nat} {xs : Nat → Int32} (hx : p.tables.exec = Jvm.exec) (hb : c.code = code) (hml : c.maxLocals = 7) (hown : s.vm.findClass RL = some m.cls) (hts : ∀ w ∈ gT, w.before #[Value.ref b] s = true) (hX : va_X b L xs s s.heap) (hbl : b < s.heap.size) (D : va_G) (cy : Nat → ClassId) (z : Nat → Nat) (hK : va_K D classes (TY cy) s) (hSD : SD z (fun q : Nat => s.heap.size ≤ q) s) (hSE : SE z (fun q : Nat => s.heap.size ≤ q) s) {Ps : PSI} {ws : va_W} {H : Heap} {locs : List Loc} {x y o : Nat} (hw : WD D cy GG (fun q : Nat => s.heap.size ≤ q) s wrL waL [] [] Ps ws H locs) (h_x : (x, 33) ∈ Ps) (h_y : (y, 55) ∈ Ps) (h_o : (o, 56) ∈ Ps) {gh : Int} {gdT : Nat → Nat} {gdq : Nat → Nat} {gdg : Nat → Nat} {gdo : OS} {gdA : OS} {gdB : OS} {gda : Int32} {gdb : Int32} {gdR : Nat → Int32} {gdU : Nat → Int32} {gdV : Nat → Int32} {gdN : Nat → Nat} {gdNU : Nat → Nat} {gdNV : Nat → Nat} {gdL : Nat → Int64} {gdLU : Nat → Int64} {gdLV : Nat → Int64} {gdf : Int32} (x_TLX_x_gh : TLX ws x (gh)) (x_TLM_y_gh : TLM ws y (gh)) (x_BYX_x_gdT : BYX Ps ws x gdT) (x_BYM_y_gdT : BYM Ps ws y gdT) (x_WKX_x : WKX Ps ws x) (x_GWX_x_gdq : GWX ws x gdq) (x_GQ_gdq_gdg : GQ Ps ws gdq gdg) (x_HE_gdq_gdg_gdo_gdA_gdB_false_false : HE Ps ws gdq gdg gdo gdA gdB false false) (x_FLP_gdq_gda_gdb : FLP ws gdq gda gdb) (x_HD_y_gdR : AX 14 34 (HDp gdR) Ps ws y) (x_KP_y_gdU_gdV : AX 16 36 (KPp gdU gdV) Ps ws y) (x_ISA_y_gda_gdb : AX 23 44 (ISp gda gdb) Ps ws y) (x_NAM_y_gdL : AXL 20 41 (NMp gdL) Ps ws y) (x_KNM_y_gdLU_gdLV : AXL 22 43 (KNp gdLU gdLV) Ps ws y) (x_PDF_gdo_gdR_gdN : (PDO gdo gdR gdN)) (x_NLP_gdR_gdN_gdL : (NLC gdR gdN gdL)) (x_LKP_gda_gdA_gdU_gdNU_gdLU : (LKP gda gdA gdU gdNU gdLU)) (x_LKP_gdb_gdB_gdV_gdNV_gdLV : (LKP gdb gdB gdV gdNV gdLV)) (x_LF_x_gdf : FLD ws x 9 11 (.int gdf)) (x_MF_y_gdf : FLD ws y 10 10 (.int gdf)) {i : Int32} (r_i : RI i 0 3066) (hiL : i.toInt + 6 ≤ L) {C S : Nat} (hC : C + 6 ≤ 601024) (hSl : S + 125 ≤ 7293034) {ls : Array Slot} (hl : lv_has ls 7 [(4, .int i), (3, .ref o), (2, .ref y), (1, .ref x), (0, .ref b)]) {Q : State → Prop} (kx : ∀ (gh : Int) (gdT : Nat → Nat) (gdq : Nat → Nat) (gdg : Nat → Nat) (gdo : OS) (gdA : OS) (gdB : OS) (gda : Int32) (gdb : Int32) (gdR : Nat → Int32) (gdU : Nat → Int32) (gdV : Nat → Int32) (gdN : Nat → Nat) (gdNU : Nat → Nat) (gdNV : Nat → Nat) (gdL : Nat → Int64) (gdLU : Nat → Int64) (gdLV : Nat → Int64) (gdf : Int32) (Ps : PSI) (ws : va_W) (H : Heap) (locs : List Loc) (ls : Array Slot), WD D cy GG (fun q : Nat => s.heap.size ≤ q) s wrL waL [] [] Ps ws H locs → (x, 33) ∈ Ps → (y, 55) ∈ Ps → (o, 56) ∈ Ps → TLX ws x (gh) → TLM ws y (gh) → BYX Ps ws x gdT → BYM Ps ws y gdT → WKX Ps ws x → GWX ws x gdq → GQ Ps ws gdq gdg → HE Ps ws gdq gdg gdo gdA gdB false false → FLP ws gdq gda gdb → AX 14 34 (HDp gdR) Ps ws y → AX 16 36 (KPp gdU gdV) Ps ws y → AX 23 44 (ISp gda gdb) Ps ws y → AXL 20 41 (NMp gdL) Ps ws y → AXL 22 43 (KNp gdLU gdLV) Ps ws y → (PDO gdo gdR gdN) → (NLC gdR gdN gdL) → (LKP gda gdA gdU gdNU gdLU) → (LKP gdb gdB gdV gdNV gdLV) → FLD ws x 9 11 (.int gdf) → FLD ws y 10 10 (.int gdf) → lv_has ls 7 [(4, .int i), (3, .ref o), (2, .ref y), (1, .ref x), (0, .ref b)] → W p l e room_1 s m #[Value.ref b] below meth c H locs (C + 6) (S + 125) Q (F0 m 1335 ls [])) : W p l e room_1 s m #[Value.ref b] below meth c H locs C S Q (F0 m 871 ls []) := by
  have hA : ∀ q : Nat, s.heap.size ≤ q → (fun q : Nat => s.heap.size ≤ q) q := fun _ h => h
  have hbA : ¬ (fun q : Nat => s.heap.size ≤ q) b := Nat.not_le.mpr hbl
  refine lv_aload_n hx hb dL_law_871 rfl (lv_at hl 3 rfl) ?_
  refine tk_iA (va_runV (As := []) (rest := []) ⟨hx, hb, hml, hown, hts⟩ (c_X9_sat__2 l D cy z H.size Ps ws hw.1 x (gdq) (gdg) (gdo) (gdA) (gdB) h_x x_GWX_x_gdq x_GQ_gdq_gdg x_HE_gdq_gdg_gdo_gdA_gdB_false_false) (cwV 0 hts (gV tw_752 tw_753 tw_754 tw_1 tw_755) rfl rfl rfl (by decide +kernel) ⟨Nat.le_of_ble_eq_true rfl, Nat.le_of_ble_eq_true rfl⟩) (tg_preV hw hK hSD hA (ci := 9) (q := (RX9, TX9, 15)) rfl h_x rfl) rfl rfl hl.1 rfl (lv_room (Nat.le_of_ble_eq_true rfl)) dL_law_872 ⟨by show _ ≤ 601024; omega, by show _ ≤ 7293034; omega⟩) hw hA ⟨by decide, by decide⟩ (fun v_1 Pn ws H locs hp_v_1 hup hw hF9 => ?_)
  have h_x := hup _ h_x
  have h_y := hup _ h_y
  have h_o := hup _ h_o
  have x_TLM_y_gh := TLM.over hF9 x_TLM_y_gh (by decide)
  have x_BYX_x_gdT := BYX.over hF9 x_BYX_x_gdT (by decide)
  have x_BYM_y_gdT := BYM.over hF9 x_BYM_y_gdT (by decide)
  have x_WKX_x := WKX.over hF9 x_WKX_x (by decide)
  have x_GWX_x_gdq := GWX.over hF9 x_GWX_x_gdq (by decide)
  have x_GQ_gdq_gdg := GQ.over hF9 x_GQ_gdq_gdg (by decide)
  have x_FLP_gdq_gda_gdb := FLP.over hF9 x_FLP_gdq_gda_gdb (by decide)
  have x_HD_y_gdR := AX.over hF9 x_HD_y_gdR (by decide)
  have x_KP_y_gdU_gdV := AX.over hF9 x_KP_y_gdU_gdV (by decide)
  have x_ISA_y_gda_gdb := AX.over hF9 x_ISA_y_gda_gdb (by decide)
  have x_NAM_y_gdL := AXL.over hF9 x_NAM_y_gdL (by decide)
  have x_KNM_y_gdLU_gdLV := AXL.over hF9 x_KNM_y_gdLU_gdLV (by decide)
  have x_LF_x_gdf := FLD.over hF9 x_LF_x_gdf (by decide)
  have x_MF_y_gdf := FLD.over hF9 x_MF_y_gdf (by decide)
  have x_BYX_x_gdT := BYX.up hup hw x_BYX_x_gdT
  have x_BYM_y_gdT := BYM.up hup hw x_BYM_y_gdT
  have x_WKX_x := WKX.up hup hw x_WKX_x
  have x_GQ_gdq_gdg := GQ.up hup hw x_GQ_gdq_gdg
  have x_HD_y_gdR := AX.up hup hw x_HD_y_gdR
  have x_KP_y_gdU_gdV := AX.up hup hw x_KP_y_gdU_gdV
  have x_ISA_y_gda_gdb := AX.up hup hw x_ISA_y_gda_gdb
  have x_NAM_y_gdL := AXL.up hup hw x_NAM_y_gdL
  have x_KNM_y_gdLU_gdLV := AXL.up hup hw x_KNM_y_gdLU_gdLV
  have r_v_1 : RI v_1 (-2147483648) 2147483647 := hp_v_1.1
  have x_TLX_x_0 := hp_v_1.2.2.2.1.1
  have x_HE_gdq_gdg_gdo_gdA_gdB_false_false := hp_v_1.2.2.2.1.2.1
  refine lv_pop hx hb dL_law_875 rfl ?_
  refine lv_aload_n hx hb dL_law_876 rfl (lv_at hl 2 rfl) ?_
  refine tk_i (va_runV (As := []) (rest := []) ⟨hx, hb, hml, hown, hts⟩ (c_X10_sat__2 l D cy z H.size Pn ws hw.1 y (gdR) h_y x_HD_y_gdR) (cwV 0 hts (gV tw_1599 tw_1600 tw_1601 tw_15 tw_1602) rfl rfl rfl (by decide +kernel) ⟨Nat.le_of_ble_eq_true rfl, Nat.le_of_ble_eq_true rfl⟩) (tg_preV hw hK hSD hA (ci := 10) (q := (RX10, TX10, 49)) rfl h_y rfl) rfl rfl hl.1 rfl (lv_room (Nat.le_of_ble_eq_true rfl)) dL_law_877 ⟨by show _ ≤ 601024; omega, by show _ ≤ 7293034; omega⟩) hw hA ⟨by decide, by decide⟩ (fun v_2 ws H locs hp_v_2 hw hF9 => ?_)
  have x_BYX_x_gdT := BYX.over hF9 x_BYX_x_gdT (by decide)
  have x_BYM_y_gdT := BYM.over hF9 x_BYM_y_gdT (by decide)
  have x_WKX_x := WKX.over hF9 x_WKX_x (by decide)
  have x_GWX_x_gdq := GWX.over hF9 x_GWX_x_gdq (by decide)
  have x_GQ_gdq_gdg := GQ.over hF9 x_GQ_gdq_gdg (by decide)
  have x_FLP_gdq_gda_gdb := FLP.over hF9 x_FLP_gdq_gda_gdb (by decide)
  have x_KP_y_gdU_gdV := AX.over hF9 x_KP_y_gdU_gdV (by decide)
  have x_ISA_y_gda_gdb := AX.over hF9 x_ISA_y_gda_gdb (by decide)
  have x_NAM_y_gdL := AXL.over hF9 x_NAM_y_gdL (by decide)
  have x_KNM_y_gdLU_gdLV := AXL.over hF9 x_KNM_y_gdLU_gdLV (by decide)
  have x_LF_x_gdf := FLD.over hF9 x_LF_x_gdf (by decide)
  have x_MF_y_gdf := FLD.over hF9 x_MF_y_gdf (by decide)
  have x_TLX_x_0 := TLX.over hF9 x_TLX_x_0 (by decide)
  have x_HE_gdq_gdg_gdo_gdA_gdB_false_false := HE.over hF9 x_HE_gdq_gdg_gdo_gdA_gdB_false_false (by decide)
  obtain ⟨x_HD_y_gdR, hp_v_2⟩ := hp_v_2
  have r_v_2 : RI v_2 (-2147483648) 2147483647 := hp_v_2.1
  have x_TLM_y_0 := hp_v_2.2.2.2.1.1
  refine lv_pop hx hb dL_law_880 rfl ?_
  refine lv_goto (tgt := 1335) hx hb dL_law_881 (by decide) ?_
  refine W.widen (k := C + 6) (n := S + 125) (by omega) (by omega) ?_
  exact kx (0) gdT gdq gdg gdo gdA gdB gda gdb gdR gdU gdV gdN gdNU gdNV gdL gdLU gdLV gdf _ ws _ _ ls hw h_x h_y h_o x_TLX_x_0 x_TLM_y_0 x_BYX_x_gdT x_BYM_y_gdT x_WKX_x x_GWX_x_gdq x_GQ_gdq_gdg x_HE_gdq_gdg_gdo_gdA_gdB_false_false x_FLP_gdq_gda_gdb x_HD_y_gdR x_KP_y_gdU_gdV x_ISA_y_gda_gdb x_NAM_y_gdL x_KNM_y_gdLU_gdLV x_PDF_gdo_gdR_gdN x_NLP_gdR_gdN_gdL x_LKP_gda_gdA_gdU_gdNU_gdLU x_LKP_gdb_gdB_gdV_gdNV_gdLV x_LF_x_gdf x_MF_y_gdf (lv_sub hl [0, 1, 2, 3, 4] rfl)
set_option maxHeartbeats 4000000 in
set_option maxRecDepth 100000 in
theorem op22 {p : Program} {e : Env} {s : State} {m : MethodId} {below : List Frame} {meth : Method} {c : Code} (l : Launch) (hl0 : l.stackTraces = false) {b L : Nat} {xs : Nat → Int32} (hx : p.tables.exec = Jvm.exec) (hb : c.code = code) (hml : c.maxLocals = 7) (hown : s.vm.findClass RL = some m.cls) (hts : ∀ w ∈ gT, w.before #[Value.ref b] s = true) (hX : va_X b L xs s s.heap) (hbl : b < s.heap.size) (D : va_G) (cy : Nat → ClassId) (z : Nat → Nat) (hK : va_K D classes (TY cy) s) (hSD : SD z (fun q : Nat => s.heap.size ≤ q) s) (hSE : SE z (fun q : Nat => s.heap.size ≤ q) s) {Ps : PSI} {ws : va_W} {H : Heap} {locs : List Loc} {x y o : Nat} (hw : WD D cy GG (fun q : Nat => s.heap.size ≤ q) s wrL waL [] [] Ps ws H locs) (h_x : (x, 33) ∈ Ps) (h_y : (y, 55) ∈ Ps) (h_o : (o, 56) ∈ Ps) {gh : Int} {gdT : Nat → Nat} {gdq : Nat → Nat} {gdg : Nat → Nat} {gdo : OS} {gdA : OS} {gdB : OS} {gda : Int32} {gdb : Int32} {gdR : Nat → Int32} {gdU : Nat → Int32} {gdV : Nat → Int32} {gdN : Nat → Nat} {gdNU : Nat → Nat} {gdNV : Nat → Nat} {gdL : Nat → Int64} {gdLU : Nat → Int64} {gdLV : Nat → Int64} {gdf : Int32} (x_TLX_x_gh : TLX ws x (gh)) (x_TLM_y_gh : TLM ws y (gh)) (x_BYX_x_gdT : BYX Ps ws x gdT) (x_BYM_y_gdT : BYM Ps ws y gdT) (x_WKX_x : WKX Ps ws x) (x_GWX_x_gdq : GWX ws x gdq) (x_GQ_gdq_gdg : GQ Ps ws gdq gdg) (x_HE_gdq_gdg_gdo_gdA_gdB_false_false : HE Ps ws gdq gdg gdo gdA gdB false false) (x_FLP_gdq_gda_gdb : FLP ws gdq gda gdb) (x_HD_y_gdR : AX 14 34 (HDp gdR) Ps ws y) (x_KP_y_gdU_gdV : AX 16 36 (KPp gdU gdV) Ps ws y) (x_ISA_y_gda_gdb : AX 23 44 (ISp gda gdb) Ps ws y) (x_NAM_y_gdL : AXL 20 41 (NMp gdL) Ps ws y) (x_KNM_y_gdLU_gdLV : AXL 22 43 (KNp gdLU gdLV) Ps ws y) (x_PDF_gdo_gdR_gdN : (PDO gdo gdR gdN)) (x_NLP_gdR_gdN_gdL : (NLC gdR gdN gdL)) (x_LKP_gda_gdA_gdU_gdNU_gdLU : (LKP gda gdA gdU gdNU gdLU)) (x_LKP_gdb_gdB_gdV_gdNV_gdLV : (LKP gdb gdB gdV gdNV gdLV)) (x_LF_x_gdf : FLD ws x 9 11 (.int gdf)) (x_MF_y_gdf : FLD ws y 10 10 (.int gdf)) {i : Int32} (r_i : RI i 0 3066) (hiL : i.toInt + 6 ≤ L) {C S : Nat} (hC : C + 6 ≤ 601024) (hSl : S + 125 ≤ 7293034) {ls : Array Slot} (hl : lv_has ls 7 [(4, .int i), (3, .ref o), (2, .ref y), (1, .ref x), (0, .ref b)]) {Q : State → Prop} (kx : ∀ (gh : Int) (gdT : Nat → Nat) (gdq : Nat → Nat) (gdg : Nat → Nat) (gdo : OS) (gdA : OS) (gdB : OS) (gda : Int32) (gdb : Int32) (gdR : Nat → Int32) (gdU : Nat → Int32) (gdV : Nat → Int32) (gdN : Nat → Nat) (gdNU : Nat → Nat) (gdNV : Nat → Nat) (gdL : Nat → Int64) (gdLU : Nat → Int64) (gdLV : Nat → Int64) (gdf : Int32) (Ps : PSI) (ws : va_W) (H : Heap) (locs : List Loc) (ls : Array Slot), WD D cy GG (fun q : Nat => s.heap.size ≤ q) s wrL waL [] [] Ps ws H locs → (x, 33) ∈ Ps → (y, 55) ∈ Ps → (o, 56) ∈ Ps → TLX ws x (gh) → TLM ws y (gh) → BYX Ps ws x gdT → BYM Ps ws y gdT → WKX Ps ws x → GWX ws x gdq → GQ Ps ws gdq gdg → HE Ps ws gdq gdg gdo gdA gdB false false → FLP ws gdq gda gdb → AX 14 34 (HDp gdR) Ps ws y → AX 16 36 (KPp gdU gdV) Ps ws y → AX 23 44 (ISp gda gdb) Ps ws y → AXL 20 41 (NMp gdL) Ps ws y → AXL 22 43 (KNp gdLU gdLV) Ps ws y → (PDO gdo gdR gdN) → (NLC gdR gdN gdL) → (LKP gda gdA gdU gdNU gdLU) → (LKP gdb gdB gdV gdNV gdLV) → FLD ws x 9 11 (.int gdf) → FLD ws y 10 10 (.int gdf) → lv_has ls 7 [(4, .int i), (3, .ref o), (2, .ref y), (1, .ref x), (0, .ref b)] → W p l e room_1 s m #[Value.ref b] below meth c H locs (C + 6) (S + 125) Q (F0 m 1335 ls [])) : W p l e room_1 s m #[Value.ref b] below meth c H locs C S Q (F0 m 884 ls []) := by
  have hA : ∀ q : Nat, s.heap.size ≤ q → (fun q : Nat => s.heap.size ≤ q) q := fun _ h => h
  have hbA : ¬ (fun q : Nat => s.heap.size ≤ q) b := Nat.not_le.mpr hbl
  refine lv_aload_n hx hb dL_law_884 rfl (lv_at hl 3 rfl) ?_
  refine tk_ir (va_runV (As := []) (rest := []) ⟨hx, hb, hml, hown, hts⟩ (c_X9_surely l D cy z H.size Ps ws hw.1 x h_x) (cwV 0 hts (gV tw_771 tw_772 tw_773 tw_1 tw_774) rfl rfl rfl (by decide +kernel) ⟨Nat.le_of_ble_eq_true rfl, Nat.le_of_ble_eq_true rfl⟩) (tg_preV hw hK hSD hA (ci := 9) (q := (RX9, TX9, 15)) rfl h_x rfl) rfl rfl hl.1 rfl (lv_room (Nat.le_of_ble_eq_true rfl)) dL_law_885 ⟨by show _ ≤ 601024; omega, by show _ ≤ 7293034; omega⟩) hw hA (fun v_1  H locs hp_v_1 hw => ?_)
  have r_v_1 : RI v_1 (-2147483648) 2147483647 := hp_v_1.1
  refine lv_pop hx hb dL_law_888 rfl ?_
  refine lv_aload_n hx hb dL_law_889 rfl (lv_at hl 2 rfl) ?_
  refine tk_i (va_runV (As := []) (rest := []) ⟨hx, hb, hml, hown, hts⟩ (c_X10_surely l D cy z H.size Ps ws hw.1 y h_y) (cwV 0 hts (gV tw_1618 tw_1619 tw_1620 tw_15 tw_1621) rfl rfl rfl (by decide +kernel) ⟨Nat.le_of_ble_eq_true rfl, Nat.le_of_ble_eq_true rfl⟩) (tg_preV hw hK hSD hA (ci := 10) (q := (RX10, TX10, 49)) rfl h_y rfl) rfl rfl hl.1 rfl (lv_room (Nat.le_of_ble_eq_true rfl)) dL_law_890 ⟨by show _ ≤ 601024; omega, by show _ ≤ 7293034; omega⟩) hw hA ⟨by decide, by decide⟩ (fun v_2 ws H locs hp_v_2 hw hF9 => ?_)
  have x_TLX_x_gh := TLX.over hF9 x_TLX_x_gh (by decide)
  have x_TLM_y_gh := TLM.over hF9 x_TLM_y_gh (by decide)
  have x_BYX_x_gdT := BYX.over hF9 x_BYX_x_gdT (by decide)
  have x_BYM_y_gdT := BYM.over hF9 x_BYM_y_gdT (by decide)
  have x_WKX_x := WKX.over hF9 x_WKX_x (by decide)
  have x_GWX_x_gdq := GWX.over hF9 x_GWX_x_gdq (by decide)
  have x_GQ_gdq_gdg := GQ.over hF9 x_GQ_gdq_gdg (by decide)
  have x_HE_gdq_gdg_gdo_gdA_gdB_false_false := HE.over hF9 x_HE_gdq_gdg_gdo_gdA_gdB_false_false (by decide)
  have x_FLP_gdq_gda_gdb := FLP.over hF9 x_FLP_gdq_gda_gdb (by decide)
  have x_HD_y_gdR := AX.over hF9 x_HD_y_gdR (by decide)
  have x_KP_y_gdU_gdV := AX.over hF9 x_KP_y_gdU_gdV (by decide)
  have x_ISA_y_gda_gdb := AX.over hF9 x_ISA_y_gda_gdb (by decide)
  have x_NAM_y_gdL := AXL.over hF9 x_NAM_y_gdL (by decide)
  have x_KNM_y_gdLU_gdLV := AXL.over hF9 x_KNM_y_gdLU_gdLV (by decide)
  have x_LF_x_gdf := FLD.over hF9 x_LF_x_gdf (by decide)
  have x_MF_y_gdf := FLD.over hF9 x_MF_y_gdf (by decide)
  have r_v_2 : RI v_2 (-2147483648) 2147483647 := hp_v_2.1
  refine lv_pop hx hb dL_law_893 rfl ?_
  refine lv_goto (tgt := 1335) hx hb dL_law_894 (by decide) ?_
  refine W.widen (k := C + 6) (n := S + 125) (by omega) (by omega) ?_
  exact kx (gh) gdT gdq gdg gdo gdA gdB gda gdb gdR gdU gdV gdN gdNU gdNV gdL gdLU gdLV gdf _ ws _ _ ls hw h_x h_y h_o x_TLX_x_gh x_TLM_y_gh x_BYX_x_gdT x_BYM_y_gdT x_WKX_x x_GWX_x_gdq x_GQ_gdq_gdg x_HE_gdq_gdg_gdo_gdA_gdB_false_false x_FLP_gdq_gda_gdb x_HD_y_gdR x_KP_y_gdU_gdV x_ISA_y_gda_gdb x_NAM_y_gdL x_KNM_y_gdLU_gdLV x_PDF_gdo_gdR_gdN x_NLP_gdR_gdN_gdL x_LKP_gda_gdA_gdU_gdNU_gdLU x_LKP_gdb_gdB_gdV_gdNV_gdLV x_LF_x_gdf x_MF_y_gdf (lv_sub hl [0, 1, 2, 3, 4] rfl)
set_option maxHeartbeats 4000000 in
set_option maxRecDepth 100000 in
theorem op23 {p : Program} {e : Env} {s : State} {m : MethodId} {below : List Frame} {meth : Method} {c : Code} (l : Launch) (hl0 : l.stackTraces = false) {b L : Nat} {xs : Nat → Int32} (hx : p.tables.exec = Jvm.exec) (hb : c.code = code) (hml : c.maxLocals = 7) (hown : s.vm.findClass RL = some m.cls) (hts : ∀ w ∈ gT, w.before #[Value.ref b] s = true) (hX : va_X b L xs s s.heap) (hbl : b < s.heap.size) (D : va_G) (cy : Nat → ClassId) (z : Nat → Nat) (hK : va_K D classes (TY cy) s) (hSD : SD z (fun q : Nat => s.heap.size ≤ q) s) (hSE : SE z (fun q : Nat => s.heap.size ≤ q) s) {Ps : PSI} {ws : va_W} {H : Heap} {locs : List Loc} {x y o : Nat} (hw : WD D cy GG (fun q : Nat => s.heap.size ≤ q) s wrL waL [] [] Ps ws H locs) (h_x : (x, 33) ∈ Ps) (h_y : (y, 55) ∈ Ps) (h_o : (o, 56) ∈ Ps) {gh : Int} {gdT : Nat → Nat} {gdq : Nat → Nat} {gdg : Nat → Nat} {gdo : OS} {gdA : OS} {gdB : OS} {gda : Int32} {gdb : Int32} {gdR : Nat → Int32} {gdU : Nat → Int32} {gdV : Nat → Int32} {gdN : Nat → Nat} {gdNU : Nat → Nat} {gdNV : Nat → Nat} {gdL : Nat → Int64} {gdLU : Nat → Int64} {gdLV : Nat → Int64} {gdf : Int32} (x_TLX_x_gh : TLX ws x (gh)) (x_TLM_y_gh : TLM ws y (gh)) (x_BYX_x_gdT : BYX Ps ws x gdT) (x_BYM_y_gdT : BYM Ps ws y gdT) (x_WKX_x : WKX Ps ws x) (x_GWX_x_gdq : GWX ws x gdq) (x_GQ_gdq_gdg : GQ Ps ws gdq gdg) (x_HE_gdq_gdg_gdo_gdA_gdB_false_false : HE Ps ws gdq gdg gdo gdA gdB false false) (x_FLP_gdq_gda_gdb : FLP ws gdq gda gdb) (x_HD_y_gdR : AX 14 34 (HDp gdR) Ps ws y) (x_KP_y_gdU_gdV : AX 16 36 (KPp gdU gdV) Ps ws y) (x_ISA_y_gda_gdb : AX 23 44 (ISp gda gdb) Ps ws y) (x_NAM_y_gdL : AXL 20 41 (NMp gdL) Ps ws y) (x_KNM_y_gdLU_gdLV : AXL 22 43 (KNp gdLU gdLV) Ps ws y) (x_PDF_gdo_gdR_gdN : (PDO gdo gdR gdN)) (x_NLP_gdR_gdN_gdL : (NLC gdR gdN gdL)) (x_LKP_gda_gdA_gdU_gdNU_gdLU : (LKP gda gdA gdU gdNU gdLU)) (x_LKP_gdb_gdB_gdV_gdNV_gdLV : (LKP gdb gdB gdV gdNV gdLV)) (x_LF_x_gdf : FLD ws x 9 11 (.int gdf)) (x_MF_y_gdf : FLD ws y 10 10 (.int gdf)) {i : Int32} (r_i : RI i 0 3066) (hiL : i.toInt + 6 ≤ L) {C S : Nat} (hC : C + 6 ≤ 601024) (hSl : S + 125 ≤ 7293034) {ls : Array Slot} (hl : lv_has ls 7 [(4, .int i), (3, .ref o), (2, .ref y), (1, .ref x), (0, .ref b)]) {Q : State → Prop} (kx : ∀ (gh : Int) (gdT : Nat → Nat) (gdq : Nat → Nat) (gdg : Nat → Nat) (gdo : OS) (gdA : OS) (gdB : OS) (gda : Int32) (gdb : Int32) (gdR : Nat → Int32) (gdU : Nat → Int32) (gdV : Nat → Int32) (gdN : Nat → Nat) (gdNU : Nat → Nat) (gdNV : Nat → Nat) (gdL : Nat → Int64) (gdLU : Nat → Int64) (gdLV : Nat → Int64) (gdf : Int32) (Ps : PSI) (ws : va_W) (H : Heap) (locs : List Loc) (ls : Array Slot), WD D cy GG (fun q : Nat => s.heap.size ≤ q) s wrL waL [] [] Ps ws H locs → (x, 33) ∈ Ps → (y, 55) ∈ Ps → (o, 56) ∈ Ps → TLX ws x (gh) → TLM ws y (gh) → BYX Ps ws x gdT → BYM Ps ws y gdT → WKX Ps ws x → GWX ws x gdq → GQ Ps ws gdq gdg → HE Ps ws gdq gdg gdo gdA gdB false false → FLP ws gdq gda gdb → AX 14 34 (HDp gdR) Ps ws y → AX 16 36 (KPp gdU gdV) Ps ws y → AX 23 44 (ISp gda gdb) Ps ws y → AXL 20 41 (NMp gdL) Ps ws y → AXL 22 43 (KNp gdLU gdLV) Ps ws y → (PDO gdo gdR gdN) → (NLC gdR gdN gdL) → (LKP gda gdA gdU gdNU gdLU) → (LKP gdb gdB gdV gdNV gdLV) → FLD ws x 9 11 (.int gdf) → FLD ws y 10 10 (.int gdf) → lv_has ls 7 [(4, .int i), (3, .ref o), (2, .ref y), (1, .ref x), (0, .ref b)] → W p l e room_1 s m #[Value.ref b] below meth c H locs (C + 6) (S + 125) Q (F0 m 1335 ls [])) : W p l e room_1 s m #[Value.ref b] below meth c H locs C S Q (F0 m 897 ls []) := by
  have hA : ∀ q : Nat, s.heap.size ≤ q → (fun q : Nat => s.heap.size ≤ q) q := fun _ h => h
  have hbA : ¬ (fun q : Nat => s.heap.size ≤ q) b := Nat.not_le.mpr hbl
  refine lv_aload_n hx hb dL_law_897 rfl (lv_at hl 3 rfl) ?_
  refine tk_ir (va_runV (As := []) (rest := []) ⟨hx, hb, hml, hown, hts⟩ (c_X9_ask l D cy z H.size Ps ws hw.1 x h_x) (cwV 0 hts (gV tw_775 tw_776 tw_777 tw_1 tw_778) rfl rfl rfl (by decide +kernel) ⟨Nat.le_of_ble_eq_true rfl, Nat.le_of_ble_eq_true rfl⟩) (tg_preV hw hK hSD hA (ci := 9) (q := (RX9, TX9, 15)) rfl h_x rfl) rfl rfl hl.1 rfl (lv_room (Nat.le_of_ble_eq_true rfl)) dL_law_898 ⟨by show _ ≤ 601024; omega, by show _ ≤ 7293034; omega⟩) hw hA (fun v_1  H locs hp_v_1 hw => ?_)
  have r_v_1 : RI v_1 (-2147483648) 2147483647 := hp_v_1.1
  refine lv_pop hx hb dL_law_901 rfl ?_
  refine lv_aload_n hx hb dL_law_902 rfl (lv_at hl 2 rfl) ?_
  refine tk_i (va_runV (As := []) (rest := []) ⟨hx, hb, hml, hown, hts⟩ (c_X10_ask l D cy z H.size Ps ws hw.1 y h_y) (cwV 0 hts (gV tw_1622 tw_1623 tw_1624 tw_15 tw_1625) rfl rfl rfl (by decide +kernel) ⟨Nat.le_of_ble_eq_true rfl, Nat.le_of_ble_eq_true rfl⟩) (tg_preV hw hK hSD hA (ci := 10) (q := (RX10, TX10, 49)) rfl h_y rfl) rfl rfl hl.1 rfl (lv_room (Nat.le_of_ble_eq_true rfl)) dL_law_903 ⟨by show _ ≤ 601024; omega, by show _ ≤ 7293034; omega⟩) hw hA ⟨by decide, by decide⟩ (fun v_2 ws H locs hp_v_2 hw hF9 => ?_)
  have x_TLX_x_gh := TLX.over hF9 x_TLX_x_gh (by decide)
  have x_TLM_y_gh := TLM.over hF9 x_TLM_y_gh (by decide)
  have x_BYX_x_gdT := BYX.over hF9 x_BYX_x_gdT (by decide)
  have x_BYM_y_gdT := BYM.over hF9 x_BYM_y_gdT (by decide)
  have x_WKX_x := WKX.over hF9 x_WKX_x (by decide)
  have x_GWX_x_gdq := GWX.over hF9 x_GWX_x_gdq (by decide)
  have x_GQ_gdq_gdg := GQ.over hF9 x_GQ_gdq_gdg (by decide)
  have x_HE_gdq_gdg_gdo_gdA_gdB_false_false := HE.over hF9 x_HE_gdq_gdg_gdo_gdA_gdB_false_false (by decide)
  have x_FLP_gdq_gda_gdb := FLP.over hF9 x_FLP_gdq_gda_gdb (by decide)
  have x_HD_y_gdR := AX.over hF9 x_HD_y_gdR (by decide)
  have x_KP_y_gdU_gdV := AX.over hF9 x_KP_y_gdU_gdV (by decide)
  have x_ISA_y_gda_gdb := AX.over hF9 x_ISA_y_gda_gdb (by decide)
  have x_NAM_y_gdL := AXL.over hF9 x_NAM_y_gdL (by decide)
  have x_KNM_y_gdLU_gdLV := AXL.over hF9 x_KNM_y_gdLU_gdLV (by decide)
  have x_LF_x_gdf := FLD.over hF9 x_LF_x_gdf (by decide)
  have x_MF_y_gdf := FLD.over hF9 x_MF_y_gdf (by decide)
  have r_v_2 : RI v_2 (-1) 7 := hp_v_2.1
  refine lv_pop hx hb dL_law_906 rfl ?_
  refine lv_goto (tgt := 1335) hx hb dL_law_907 (by decide) ?_
  refine W.widen (k := C + 6) (n := S + 125) (by omega) (by omega) ?_
  exact kx (gh) gdT gdq gdg gdo gdA gdB gda gdb gdR gdU gdV gdN gdNU gdNV gdL gdLU gdLV gdf _ ws _ _ ls hw h_x h_y h_o x_TLX_x_gh x_TLM_y_gh x_BYX_x_gdT x_BYM_y_gdT x_WKX_x x_GWX_x_gdq x_GQ_gdq_gdg x_HE_gdq_gdg_gdo_gdA_gdB_false_false x_FLP_gdq_gda_gdb x_HD_y_gdR x_KP_y_gdU_gdV x_ISA_y_gda_gdb x_NAM_y_gdL x_KNM_y_gdLU_gdLV x_PDF_gdo_gdR_gdN x_NLP_gdR_gdN_gdL x_LKP_gda_gdA_gdU_gdNU_gdLU x_LKP_gdb_gdB_gdV_gdNV_gdLV x_LF_x_gdf x_MF_y_gdf (lv_sub hl [0, 1, 2, 3, 4] rfl)
set_option maxHeartbeats 4000000 in
set_option maxRecDepth 100000 in
theorem op24 {p : Program} {e : Env} {s : State} {m : MethodId} {below : List Frame} {meth : Method} {c : Code} (l : Launch) (hl0 : l.stackTraces = false) {b L : Nat} {xs : Nat → Int32} (hx : p.tables.exec = Jvm.exec) (hb : c.code = code) (hml : c.maxLocals = 7) (hown : s.vm.findClass RL = some m.cls) (hts : ∀ w ∈ gT, w.before #[Value.ref b] s = true) (hX : va_X b L xs s s.heap) (hbl : b < s.heap.size) (D : va_G) (cy : Nat → ClassId) (z : Nat → Nat) (hK : va_K D classes (TY cy) s) (hSD : SD z (fun q : Nat => s.heap.size ≤ q) s) (hSE : SE z (fun q : Nat => s.heap.size ≤ q) s) {Ps : PSI} {ws : va_W} {H : Heap} {locs : List Loc} {x y o : Nat} (hw : WD D cy GG (fun q : Nat => s.heap.size ≤ q) s wrL waL [] [] Ps ws H locs) (h_x : (x, 33) ∈ Ps) (h_y : (y, 55) ∈ Ps) (h_o : (o, 56) ∈ Ps) {gh : Int} {gdT : Nat → Nat} {gdq : Nat → Nat} {gdg : Nat → Nat} {gdo : OS} {gdA : OS} {gdB : OS} {gda : Int32} {gdb : Int32} {gdR : Nat → Int32} {gdU : Nat → Int32} {gdV : Nat → Int32} {gdN : Nat → Nat} {gdNU : Nat → Nat} {gdNV : Nat → Nat} {gdL : Nat → Int64} {gdLU : Nat → Int64} {gdLV : Nat → Int64} {gdf : Int32} (x_TLX_x_gh : TLX ws x (gh)) (x_TLM_y_gh : TLM ws y (gh)) (x_BYX_x_gdT : BYX Ps ws x gdT) (x_BYM_y_gdT : BYM Ps ws y gdT) (x_WKX_x : WKX Ps ws x) (x_GWX_x_gdq : GWX ws x gdq) (x_GQ_gdq_gdg : GQ Ps ws gdq gdg) (x_HE_gdq_gdg_gdo_gdA_gdB_false_false : HE Ps ws gdq gdg gdo gdA gdB false false) (x_FLP_gdq_gda_gdb : FLP ws gdq gda gdb) (x_HD_y_gdR : AX 14 34 (HDp gdR) Ps ws y) (x_KP_y_gdU_gdV : AX 16 36 (KPp gdU gdV) Ps ws y) (x_ISA_y_gda_gdb : AX 23 44 (ISp gda gdb) Ps ws y) (x_NAM_y_gdL : AXL 20 41 (NMp gdL) Ps ws y) (x_KNM_y_gdLU_gdLV : AXL 22 43 (KNp gdLU gdLV) Ps ws y) (x_PDF_gdo_gdR_gdN : (PDO gdo gdR gdN)) (x_NLP_gdR_gdN_gdL : (NLC gdR gdN gdL)) (x_LKP_gda_gdA_gdU_gdNU_gdLU : (LKP gda gdA gdU gdNU gdLU)) (x_LKP_gdb_gdB_gdV_gdNV_gdLV : (LKP gdb gdB gdV gdNV gdLV)) (x_LF_x_gdf : FLD ws x 9 11 (.int gdf)) (x_MF_y_gdf : FLD ws y 10 10 (.int gdf)) {i : Int32} (r_i : RI i 0 3066) (hiL : i.toInt + 6 ≤ L) {C S : Nat} (hC : C + 6 ≤ 601024) (hSl : S + 125 ≤ 7293034) {ls : Array Slot} (hl : lv_has ls 7 [(4, .int i), (3, .ref o), (2, .ref y), (1, .ref x), (0, .ref b)]) {Q : State → Prop} (kx : ∀ (gh : Int) (gdT : Nat → Nat) (gdq : Nat → Nat) (gdg : Nat → Nat) (gdo : OS) (gdA : OS) (gdB : OS) (gda : Int32) (gdb : Int32) (gdR : Nat → Int32) (gdU : Nat → Int32) (gdV : Nat → Int32) (gdN : Nat → Nat) (gdNU : Nat → Nat) (gdNV : Nat → Nat) (gdL : Nat → Int64) (gdLU : Nat → Int64) (gdLV : Nat → Int64) (gdf : Int32) (Ps : PSI) (ws : va_W) (H : Heap) (locs : List Loc) (ls : Array Slot), WD D cy GG (fun q : Nat => s.heap.size ≤ q) s wrL waL [] [] Ps ws H locs → (x, 33) ∈ Ps → (y, 55) ∈ Ps → (o, 56) ∈ Ps → TLX ws x (gh) → TLM ws y (gh) → BYX Ps ws x gdT → BYM Ps ws y gdT → WKX Ps ws x → GWX ws x gdq → GQ Ps ws gdq gdg → HE Ps ws gdq gdg gdo gdA gdB false false → FLP ws gdq gda gdb → AX 14 34 (HDp gdR) Ps ws y → AX 16 36 (KPp gdU gdV) Ps ws y → AX 23 44 (ISp gda gdb) Ps ws y → AXL 20 41 (NMp gdL) Ps ws y → AXL 22 43 (KNp gdLU gdLV) Ps ws y → (PDO gdo gdR gdN) → (NLC gdR gdN gdL) → (LKP gda gdA gdU gdNU gdLU) → (LKP gdb gdB gdV gdNV gdLV) → FLD ws x 9 11 (.int gdf) → FLD ws y 10 10 (.int gdf) → lv_has ls 7 [(4, .int i), (3, .ref o), (2, .ref y), (1, .ref x), (0, .ref b)] → W p l e room_1 s m #[Value.ref b] below meth c H locs (C + 6) (S + 125) Q (F0 m 1335 ls [])) : W p l e room_1 s m #[Value.ref b] below meth c H locs C S Q (F0 m 910 ls []) := by
  have hA : ∀ q : Nat, s.heap.size ≤ q → (fun q : Nat => s.heap.size ≤ q) q := fun _ h => h
  have hbA : ¬ (fun q : Nat => s.heap.size ≤ q) b := Nat.not_le.mpr hbl
  refine lv_aload_n hx hb dL_law_910 rfl (lv_at hl 3 rfl) ?_
  refine lv_aload_n hx hb dL_law_911 rfl (lv_at hl 4 rfl) ?_
  refine lv_iload hx hb dL_law_912 (lv_at hl 0 rfl) ?_
  refine lv_iconst (v := 1) hx hb dL_law_914 (by decide) ?_
  refine lv_iadd hx hb dL_law_915 (lv_topi (fun v_1 e_v_1 => ?_))
  obtain ⟨t_v_1, r_v_1⟩ := tq_add (lo := 1) (hi := 3067) r_i rl_1 (by decide +kernel) e_v_1
  have t_v_1 : v_1.toInt = i.toInt + 1 := t_v_1
  refine va_sld hx hb hX hbl hbA hw.2.2.2.1 (i := v_1) (vp_in_iff.mpr ⟨by have k1 := r_v_1.1; omega, by have k1 := r_v_1.2; omega⟩) dL_law_916 ?_
  obtain ⟨v_2, e_v_2⟩ : ∃ q9 : Int32, xs (Int32.toNatClampNeg v_1) = q9 := ⟨_, rfl⟩
  refine tI e_v_2 ?_
  have r_v_2 := ri_any v_2
  refine tk_i (va_runV (As := [.int v_2]) (rest := []) ⟨hx, hb, hml, hown, hts⟩ (c_X9_let__1 l D cy z H.size Ps ws hw.1 x v_2 (gdq) (gdg) (gdo) (gdA) (gdB) h_x r_v_2 x_GWX_x_gdq x_GQ_gdq_gdg x_HE_gdq_gdg_gdo_gdA_gdB_false_false) (cwV 1 hts (gV tw_779 tw_780 tw_781 tw_1 tw_782) rfl rfl rfl (by decide +kernel) ⟨Nat.le_of_ble_eq_true rfl, Nat.le_of_ble_eq_true rfl⟩) (tg_preV hw hK hSD hA (ci := 9) (q := (RX9, TX9, 15)) rfl h_x rfl) rfl rfl hl.1 rfl (lv_room (Nat.le_of_ble_eq_true rfl)) dL_law_917 ⟨by show _ ≤ 601024; omega, by show _ ≤ 7293034; omega⟩) hw hA ⟨by decide, by decide⟩ (fun v_3 ws H locs hp_v_3 hw hF9 => ?_)
  have x_TLX_x_gh := TLX.over hF9 x_TLX_x_gh (by decide)
  have x_TLM_y_gh := TLM.over hF9 x_TLM_y_gh (by decide)
  have x_BYX_x_gdT := BYX.over hF9 x_BYX_x_gdT (by decide)
  have x_BYM_y_gdT := BYM.over hF9 x_BYM_y_gdT (by decide)
  have x_WKX_x := WKX.over hF9 x_WKX_x (by decide)
  have x_GWX_x_gdq := GWX.over hF9 x_GWX_x_gdq (by decide)
  have x_GQ_gdq_gdg := GQ.over hF9 x_GQ_gdq_gdg (by decide)
  have x_FLP_gdq_gda_gdb := FLP.over hF9 x_FLP_gdq_gda_gdb (by decide)
  have x_HD_y_gdR := AX.over hF9 x_HD_y_gdR (by decide)
  have x_KP_y_gdU_gdV := AX.over hF9 x_KP_y_gdU_gdV (by decide)
  have x_ISA_y_gda_gdb := AX.over hF9 x_ISA_y_gda_gdb (by decide)
  have x_NAM_y_gdL := AXL.over hF9 x_NAM_y_gdL (by decide)
  have x_KNM_y_gdLU_gdLV := AXL.over hF9 x_KNM_y_gdLU_gdLV (by decide)
  have x_LF_x_gdf := FLD.over hF9 x_LF_x_gdf (by decide)
  have x_MF_y_gdf := FLD.over hF9 x_MF_y_gdf (by decide)
  have r_v_3 : RI v_3 (-1) 594 := hp_v_3.1
  have x_HE_gdq_gdg_gdo_gdA_gdB_false_false := hp_v_3.2.2.2.1.1
  refine lv_pop hx hb dL_law_920 rfl ?_
  refine lv_aload_n hx hb dL_law_921 rfl (lv_at hl 2 rfl) ?_
  refine lv_aload_n hx hb dL_law_922 rfl (lv_at hl 4 rfl) ?_
  refine lv_iload hx hb dL_law_923 (lv_at hl 0 rfl) ?_
  refine lv_iconst (v := 1) hx hb dL_law_925 (by decide) ?_
  refine lv_iadd hx hb dL_law_926 (lv_topi (fun v_4 e_v_4 => ?_))
  obtain ⟨t_v_4, r_v_4⟩ := tq_add (lo := 1) (hi := 3067) r_i rl_1 (by decide +kernel) e_v_4
  have t_v_4 : v_4.toInt = i.toInt + 1 := t_v_4
  refine va_sld hx hb hX hbl hbA hw.2.2.2.1 (i := v_4) (vp_in_iff.mpr ⟨by have k1 := r_v_4.1; omega, by have k1 := r_v_4.2; omega⟩) dL_law_927 ?_
  refine tI (y := v_2) (by rw [e_v_4, ← e_v_1]; exact e_v_2) ?_
  refine tk_i (va_runV (As := [.int v_2]) (rest := []) ⟨hx, hb, hml, hown, hts⟩ (c_X10_let__1 l D cy z H.size Ps ws hw.1 y v_2 (gdR) h_y r_v_2 x_HD_y_gdR) (cwV 1 hts (gV tw_1626 tw_1627 tw_1628 tw_15 tw_1629) rfl rfl rfl (by decide +kernel) ⟨Nat.le_of_ble_eq_true rfl, Nat.le_of_ble_eq_true rfl⟩) (tg_preV hw hK hSD hA (ci := 10) (q := (RX10, TX10, 49)) rfl h_y rfl) rfl rfl hl.1 rfl (lv_room (Nat.le_of_ble_eq_true rfl)) dL_law_928 ⟨by show _ ≤ 601024; omega, by show _ ≤ 7293034; omega⟩) hw hA ⟨by decide, by decide⟩ (fun v_6 ws H locs hp_v_6 hw hF9 => ?_)
  have x_TLX_x_gh := TLX.over hF9 x_TLX_x_gh (by decide)
  have x_TLM_y_gh := TLM.over hF9 x_TLM_y_gh (by decide)
  have x_BYX_x_gdT := BYX.over hF9 x_BYX_x_gdT (by decide)
  have x_BYM_y_gdT := BYM.over hF9 x_BYM_y_gdT (by decide)
  have x_WKX_x := WKX.over hF9 x_WKX_x (by decide)
  have x_GWX_x_gdq := GWX.over hF9 x_GWX_x_gdq (by decide)
  have x_GQ_gdq_gdg := GQ.over hF9 x_GQ_gdq_gdg (by decide)
  have x_FLP_gdq_gda_gdb := FLP.over hF9 x_FLP_gdq_gda_gdb (by decide)
  have x_KP_y_gdU_gdV := AX.over hF9 x_KP_y_gdU_gdV (by decide)
  have x_ISA_y_gda_gdb := AX.over hF9 x_ISA_y_gda_gdb (by decide)
  have x_NAM_y_gdL := AXL.over hF9 x_NAM_y_gdL (by decide)
  have x_KNM_y_gdLU_gdLV := AXL.over hF9 x_KNM_y_gdLU_gdLV (by decide)
  have x_LF_x_gdf := FLD.over hF9 x_LF_x_gdf (by decide)
  have x_MF_y_gdf := FLD.over hF9 x_MF_y_gdf (by decide)
  have x_HE_gdq_gdg_gdo_gdA_gdB_false_false := HE.over hF9 x_HE_gdq_gdg_gdo_gdA_gdB_false_false (by decide)
  obtain ⟨x_HD_y_gdR, hp_v_6⟩ := hp_v_6
  have r_v_6 : RI v_6 (-2147483648) 2147483647 := hp_v_6.1
  refine lv_pop hx hb dL_law_931 rfl ?_
  refine lv_goto (tgt := 1335) hx hb dL_law_932 (by decide) ?_
  refine W.widen (k := C + 6) (n := S + 125) (by omega) (by omega) ?_
  exact kx (gh) gdT gdq gdg gdo gdA gdB gda gdb gdR gdU gdV gdN gdNU gdNV gdL gdLU gdLV gdf _ ws _ _ ls hw h_x h_y h_o x_TLX_x_gh x_TLM_y_gh x_BYX_x_gdT x_BYM_y_gdT x_WKX_x x_GWX_x_gdq x_GQ_gdq_gdg x_HE_gdq_gdg_gdo_gdA_gdB_false_false x_FLP_gdq_gda_gdb x_HD_y_gdR x_KP_y_gdU_gdV x_ISA_y_gda_gdb x_NAM_y_gdL x_KNM_y_gdLU_gdLV x_PDF_gdo_gdR_gdN x_NLP_gdR_gdN_gdL x_LKP_gda_gdA_gdU_gdNU_gdLU x_LKP_gdb_gdB_gdV_gdNV_gdLV x_LF_x_gdf x_MF_y_gdf (lv_sub hl [0, 1, 2, 3, 4] rfl)
set_option maxHeartbeats 4000000 in
set_option maxRecDepth 100000 in
theorem op25 {p : Program} {e : Env} {s : State} {m : MethodId} {below : List Frame} {meth : Method} {c : Code} (l : Launch) (hl0 : l.stackTraces = false) {b L : Nat} {xs : Nat → Int32} (hx : p.tables.exec = Jvm.exec) (hb : c.code = code) (hml : c.maxLocals = 7) (hown : s.vm.findClass RL = some m.cls) (hts : ∀ w ∈ gT, w.before #[Value.ref b] s = true) (hX : va_X b L xs s s.heap) (hbl : b < s.heap.size) (D : va_G) (cy : Nat → ClassId) (z : Nat → Nat) (hK : va_K D classes (TY cy) s) (hSD : SD z (fun q : Nat => s.heap.size ≤ q) s) (hSE : SE z (fun q : Nat => s.heap.size ≤ q) s) {Ps : PSI} {ws : va_W} {H : Heap} {locs : List Loc} {x y o : Nat} (hw : WD D cy GG (fun q : Nat => s.heap.size ≤ q) s wrL waL [] [] Ps ws H locs) (h_x : (x, 33) ∈ Ps) (h_y : (y, 55) ∈ Ps) (h_o : (o, 56) ∈ Ps) {gh : Int} {gdT : Nat → Nat} {gdq : Nat → Nat} {gdg : Nat → Nat} {gdo : OS} {gdA : OS} {gdB : OS} {gda : Int32} {gdb : Int32} {gdR : Nat → Int32} {gdU : Nat → Int32} {gdV : Nat → Int32} {gdN : Nat → Nat} {gdNU : Nat → Nat} {gdNV : Nat → Nat} {gdL : Nat → Int64} {gdLU : Nat → Int64} {gdLV : Nat → Int64} {gdf : Int32} (x_TLX_x_gh : TLX ws x (gh)) (x_TLM_y_gh : TLM ws y (gh)) (x_BYX_x_gdT : BYX Ps ws x gdT) (x_BYM_y_gdT : BYM Ps ws y gdT) (x_WKX_x : WKX Ps ws x) (x_GWX_x_gdq : GWX ws x gdq) (x_GQ_gdq_gdg : GQ Ps ws gdq gdg) (x_HE_gdq_gdg_gdo_gdA_gdB_false_false : HE Ps ws gdq gdg gdo gdA gdB false false) (x_FLP_gdq_gda_gdb : FLP ws gdq gda gdb) (x_HD_y_gdR : AX 14 34 (HDp gdR) Ps ws y) (x_KP_y_gdU_gdV : AX 16 36 (KPp gdU gdV) Ps ws y) (x_ISA_y_gda_gdb : AX 23 44 (ISp gda gdb) Ps ws y) (x_NAM_y_gdL : AXL 20 41 (NMp gdL) Ps ws y) (x_KNM_y_gdLU_gdLV : AXL 22 43 (KNp gdLU gdLV) Ps ws y) (x_PDF_gdo_gdR_gdN : (PDO gdo gdR gdN)) (x_NLP_gdR_gdN_gdL : (NLC gdR gdN gdL)) (x_LKP_gda_gdA_gdU_gdNU_gdLU : (LKP gda gdA gdU gdNU gdLU)) (x_LKP_gdb_gdB_gdV_gdNV_gdLV : (LKP gdb gdB gdV gdNV gdLV)) (x_LF_x_gdf : FLD ws x 9 11 (.int gdf)) (x_MF_y_gdf : FLD ws y 10 10 (.int gdf)) {i : Int32} (r_i : RI i 0 3066) (hiL : i.toInt + 6 ≤ L) {C S : Nat} (hC : C + 6 ≤ 601024) (hSl : S + 125 ≤ 7293034) {ls : Array Slot} (hl : lv_has ls 7 [(4, .int i), (3, .ref o), (2, .ref y), (1, .ref x), (0, .ref b)]) {Q : State → Prop} (kx : ∀ (gh : Int) (gdT : Nat → Nat) (gdq : Nat → Nat) (gdg : Nat → Nat) (gdo : OS) (gdA : OS) (gdB : OS) (gda : Int32) (gdb : Int32) (gdR : Nat → Int32) (gdU : Nat → Int32) (gdV : Nat → Int32) (gdN : Nat → Nat) (gdNU : Nat → Nat) (gdNV : Nat → Nat) (gdL : Nat → Int64) (gdLU : Nat → Int64) (gdLV : Nat → Int64) (gdf : Int32) (Ps : PSI) (ws : va_W) (H : Heap) (locs : List Loc) (ls : Array Slot), WD D cy GG (fun q : Nat => s.heap.size ≤ q) s wrL waL [] [] Ps ws H locs → (x, 33) ∈ Ps → (y, 55) ∈ Ps → (o, 56) ∈ Ps → TLX ws x (gh) → TLM ws y (gh) → BYX Ps ws x gdT → BYM Ps ws y gdT → WKX Ps ws x → GWX ws x gdq → GQ Ps ws gdq gdg → HE Ps ws gdq gdg gdo gdA gdB false false → FLP ws gdq gda gdb → AX 14 34 (HDp gdR) Ps ws y → AX 16 36 (KPp gdU gdV) Ps ws y → AX 23 44 (ISp gda gdb) Ps ws y → AXL 20 41 (NMp gdL) Ps ws y → AXL 22 43 (KNp gdLU gdLV) Ps ws y → (PDO gdo gdR gdN) → (NLC gdR gdN gdL) → (LKP gda gdA gdU gdNU gdLU) → (LKP gdb gdB gdV gdNV gdLV) → FLD ws x 9 11 (.int gdf) → FLD ws y 10 10 (.int gdf) → lv_has ls 7 [(4, .int i), (3, .ref o), (2, .ref y), (1, .ref x), (0, .ref b)] → W p l e room_1 s m #[Value.ref b] below meth c H locs (C + 6) (S + 125) Q (F0 m 1335 ls [])) : W p l e room_1 s m #[Value.ref b] below meth c H locs C S Q (F0 m 935 ls []) := by
  have hA : ∀ q : Nat, s.heap.size ≤ q → (fun q : Nat => s.heap.size ≤ q) q := fun _ h => h
  have hbA : ¬ (fun q : Nat => s.heap.size ≤ q) b := Nat.not_le.mpr hbl
  refine lv_aload_n hx hb dL_law_935 rfl (lv_at hl 3 rfl) ?_
  refine tk_i (va_runV (As := []) (rest := []) ⟨hx, hb, hml, hown, hts⟩ (c_X9_rooms l D cy z H.size Ps ws hw.1 x h_x) (cwV 0 hts (gV tw_785 tw_786 tw_787 tw_1 tw_788) rfl rfl rfl (by decide +kernel) ⟨Nat.le_of_ble_eq_true rfl, Nat.le_of_ble_eq_true rfl⟩) (tg_preV hw hK hSD hA (ci := 9) (q := (RX9, TX9, 15)) rfl h_x rfl) rfl rfl hl.1 rfl (lv_room (Nat.le_of_ble_eq_true rfl)) dL_law_936 ⟨by show _ ≤ 601024; omega, by show _ ≤ 7293034; omega⟩) hw hA ⟨by decide, by decide⟩ (fun v_1 ws H locs hp_v_1 hw hF9 => ?_)
  have x_TLX_x_gh := TLX.over hF9 x_TLX_x_gh (by decide)
  have x_TLM_y_gh := TLM.over hF9 x_TLM_y_gh (by decide)
  have x_BYX_x_gdT := BYX.over hF9 x_BYX_x_gdT (by decide)
  have x_BYM_y_gdT := BYM.over hF9 x_BYM_y_gdT (by decide)
  have x_WKX_x := WKX.over hF9 x_WKX_x (by decide)
  have x_GWX_x_gdq := GWX.over hF9 x_GWX_x_gdq (by decide)
  have x_GQ_gdq_gdg := GQ.over hF9 x_GQ_gdq_gdg (by decide)
  have x_HE_gdq_gdg_gdo_gdA_gdB_false_false := HE.over hF9 x_HE_gdq_gdg_gdo_gdA_gdB_false_false (by decide)
  have x_FLP_gdq_gda_gdb := FLP.over hF9 x_FLP_gdq_gda_gdb (by decide)
  have x_HD_y_gdR := AX.over hF9 x_HD_y_gdR (by decide)
  have x_KP_y_gdU_gdV := AX.over hF9 x_KP_y_gdU_gdV (by decide)
  have x_ISA_y_gda_gdb := AX.over hF9 x_ISA_y_gda_gdb (by decide)
  have x_NAM_y_gdL := AXL.over hF9 x_NAM_y_gdL (by decide)
  have x_KNM_y_gdLU_gdLV := AXL.over hF9 x_KNM_y_gdLU_gdLV (by decide)
  have x_LF_x_gdf := FLD.over hF9 x_LF_x_gdf (by decide)
  have x_MF_y_gdf := FLD.over hF9 x_MF_y_gdf (by decide)
  have r_v_1 : RI v_1 0 6 := hp_v_1.1
  refine lv_pop hx hb dL_law_939 rfl ?_
  refine lv_aload_n hx hb dL_law_940 rfl (lv_at hl 2 rfl) ?_
  refine tk_i (va_runV (As := []) (rest := []) ⟨hx, hb, hml, hown, hts⟩ (c_X10_rooms l D cy z H.size Ps ws hw.1 y h_y) (cwV 0 hts (gV tw_1630 tw_1631 tw_1632 tw_15 tw_1633) rfl rfl rfl (by decide +kernel) ⟨Nat.le_of_ble_eq_true rfl, Nat.le_of_ble_eq_true rfl⟩) (tg_preV hw hK hSD hA (ci := 10) (q := (RX10, TX10, 49)) rfl h_y rfl) rfl rfl hl.1 rfl (lv_room (Nat.le_of_ble_eq_true rfl)) dL_law_941 ⟨by show _ ≤ 601024; omega, by show _ ≤ 7293034; omega⟩) hw hA ⟨by decide, by decide⟩ (fun v_2 ws H locs hp_v_2 hw hF9 => ?_)
  have x_TLX_x_gh := TLX.over hF9 x_TLX_x_gh (by decide)
  have x_TLM_y_gh := TLM.over hF9 x_TLM_y_gh (by decide)
  have x_BYX_x_gdT := BYX.over hF9 x_BYX_x_gdT (by decide)
  have x_BYM_y_gdT := BYM.over hF9 x_BYM_y_gdT (by decide)
  have x_WKX_x := WKX.over hF9 x_WKX_x (by decide)
  have x_GWX_x_gdq := GWX.over hF9 x_GWX_x_gdq (by decide)
  have x_GQ_gdq_gdg := GQ.over hF9 x_GQ_gdq_gdg (by decide)
  have x_HE_gdq_gdg_gdo_gdA_gdB_false_false := HE.over hF9 x_HE_gdq_gdg_gdo_gdA_gdB_false_false (by decide)
  have x_FLP_gdq_gda_gdb := FLP.over hF9 x_FLP_gdq_gda_gdb (by decide)
  have x_HD_y_gdR := AX.over hF9 x_HD_y_gdR (by decide)
  have x_KP_y_gdU_gdV := AX.over hF9 x_KP_y_gdU_gdV (by decide)
  have x_ISA_y_gda_gdb := AX.over hF9 x_ISA_y_gda_gdb (by decide)
  have x_NAM_y_gdL := AXL.over hF9 x_NAM_y_gdL (by decide)
  have x_KNM_y_gdLU_gdLV := AXL.over hF9 x_KNM_y_gdLU_gdLV (by decide)
  have x_LF_x_gdf := FLD.over hF9 x_LF_x_gdf (by decide)
  have x_MF_y_gdf := FLD.over hF9 x_MF_y_gdf (by decide)
  have r_v_2 : RI v_2 0 6 := hp_v_2.1
  refine lv_pop hx hb dL_law_944 rfl ?_
  refine lv_goto (tgt := 1335) hx hb dL_law_945 (by decide) ?_
  refine W.widen (k := C + 6) (n := S + 125) (by omega) (by omega) ?_
  exact kx (gh) gdT gdq gdg gdo gdA gdB gda gdb gdR gdU gdV gdN gdNU gdNV gdL gdLU gdLV gdf _ ws _ _ ls hw h_x h_y h_o x_TLX_x_gh x_TLM_y_gh x_BYX_x_gdT x_BYM_y_gdT x_WKX_x x_GWX_x_gdq x_GQ_gdq_gdg x_HE_gdq_gdg_gdo_gdA_gdB_false_false x_FLP_gdq_gda_gdb x_HD_y_gdR x_KP_y_gdU_gdV x_ISA_y_gda_gdb x_NAM_y_gdL x_KNM_y_gdLU_gdLV x_PDF_gdo_gdR_gdN x_NLP_gdR_gdN_gdL x_LKP_gda_gdA_gdU_gdNU_gdLU x_LKP_gdb_gdB_gdV_gdNV_gdLV x_LF_x_gdf x_MF_y_gdf (lv_sub hl [0, 1, 2, 3, 4] rfl)
set_option maxHeartbeats 4000000 in
set_option maxRecDepth 100000 in
theorem op26 {p : Program} {e : Env} {s : State} {m : MethodId} {below : List Frame} {meth : Method} {c : Code} (l : Launch) (hl0 : l.stackTraces = false) {b L : Nat} {xs : Nat → Int32} (hx : p.tables.exec = Jvm.exec) (hb : c.code = code) (hml : c.maxLocals = 7) (hown : s.vm.findClass RL = some m.cls) (hts : ∀ w ∈ gT, w.before #[Value.ref b] s = true) (hX : va_X b L xs s s.heap) (hbl : b < s.heap.size) (D : va_G) (cy : Nat → ClassId) (z : Nat → Nat) (hK : va_K D classes (TY cy) s) (hSD : SD z (fun q : Nat => s.heap.size ≤ q) s) (hSE : SE z (fun q : Nat => s.heap.size ≤ q) s) {Ps : PSI} {ws : va_W} {H : Heap} {locs : List Loc} {x y o : Nat} (hw : WD D cy GG (fun q : Nat => s.heap.size ≤ q) s wrL waL [] [] Ps ws H locs) (h_x : (x, 33) ∈ Ps) (h_y : (y, 55) ∈ Ps) (h_o : (o, 56) ∈ Ps) {gh : Int} {gdT : Nat → Nat} {gdq : Nat → Nat} {gdg : Nat → Nat} {gdo : OS} {gdA : OS} {gdB : OS} {gda : Int32} {gdb : Int32} {gdR : Nat → Int32} {gdU : Nat → Int32} {gdV : Nat → Int32} {gdN : Nat → Nat} {gdNU : Nat → Nat} {gdNV : Nat → Nat} {gdL : Nat → Int64} {gdLU : Nat → Int64} {gdLV : Nat → Int64} {gdf : Int32} (x_TLX_x_gh : TLX ws x (gh)) (x_TLM_y_gh : TLM ws y (gh)) (x_BYX_x_gdT : BYX Ps ws x gdT) (x_BYM_y_gdT : BYM Ps ws y gdT) (x_WKX_x : WKX Ps ws x) (x_GWX_x_gdq : GWX ws x gdq) (x_GQ_gdq_gdg : GQ Ps ws gdq gdg) (x_HE_gdq_gdg_gdo_gdA_gdB_false_false : HE Ps ws gdq gdg gdo gdA gdB false false) (x_FLP_gdq_gda_gdb : FLP ws gdq gda gdb) (x_HD_y_gdR : AX 14 34 (HDp gdR) Ps ws y) (x_KP_y_gdU_gdV : AX 16 36 (KPp gdU gdV) Ps ws y) (x_ISA_y_gda_gdb : AX 23 44 (ISp gda gdb) Ps ws y) (x_NAM_y_gdL : AXL 20 41 (NMp gdL) Ps ws y) (x_KNM_y_gdLU_gdLV : AXL 22 43 (KNp gdLU gdLV) Ps ws y) (x_PDF_gdo_gdR_gdN : (PDO gdo gdR gdN)) (x_NLP_gdR_gdN_gdL : (NLC gdR gdN gdL)) (x_LKP_gda_gdA_gdU_gdNU_gdLU : (LKP gda gdA gdU gdNU gdLU)) (x_LKP_gdb_gdB_gdV_gdNV_gdLV : (LKP gdb gdB gdV gdNV gdLV)) (x_LF_x_gdf : FLD ws x 9 11 (.int gdf)) (x_MF_y_gdf : FLD ws y 10 10 (.int gdf)) {i : Int32} (r_i : RI i 0 3066) (hiL : i.toInt + 6 ≤ L) {C S : Nat} (hC : C + 6 ≤ 601024) (hSl : S + 125 ≤ 7293034) {ls : Array Slot} (hl : lv_has ls 7 [(4, .int i), (3, .ref o), (2, .ref y), (1, .ref x), (0, .ref b)]) {Q : State → Prop} (kx : ∀ (gh : Int) (gdT : Nat → Nat) (gdq : Nat → Nat) (gdg : Nat → Nat) (gdo : OS) (gdA : OS) (gdB : OS) (gda : Int32) (gdb : Int32) (gdR : Nat → Int32) (gdU : Nat → Int32) (gdV : Nat → Int32) (gdN : Nat → Nat) (gdNU : Nat → Nat) (gdNV : Nat → Nat) (gdL : Nat → Int64) (gdLU : Nat → Int64) (gdLV : Nat → Int64) (gdf : Int32) (Ps : PSI) (ws : va_W) (H : Heap) (locs : List Loc) (ls : Array Slot), WD D cy GG (fun q : Nat => s.heap.size ≤ q) s wrL waL [] [] Ps ws H locs → (x, 33) ∈ Ps → (y, 55) ∈ Ps → (o, 56) ∈ Ps → TLX ws x (gh) → TLM ws y (gh) → BYX Ps ws x gdT → BYM Ps ws y gdT → WKX Ps ws x → GWX ws x gdq → GQ Ps ws gdq gdg → HE Ps ws gdq gdg gdo gdA gdB false false → FLP ws gdq gda gdb → AX 14 34 (HDp gdR) Ps ws y → AX 16 36 (KPp gdU gdV) Ps ws y → AX 23 44 (ISp gda gdb) Ps ws y → AXL 20 41 (NMp gdL) Ps ws y → AXL 22 43 (KNp gdLU gdLV) Ps ws y → (PDO gdo gdR gdN) → (NLC gdR gdN gdL) → (LKP gda gdA gdU gdNU gdLU) → (LKP gdb gdB gdV gdNV gdLV) → FLD ws x 9 11 (.int gdf) → FLD ws y 10 10 (.int gdf) → lv_has ls 7 [(4, .int i), (3, .ref o), (2, .ref y), (1, .ref x), (0, .ref b)] → W p l e room_1 s m #[Value.ref b] below meth c H locs (C + 6) (S + 125) Q (F0 m 1335 ls [])) : W p l e room_1 s m #[Value.ref b] below meth c H locs C S Q (F0 m 948 ls []) := by
  have hA : ∀ q : Nat, s.heap.size ≤ q → (fun q : Nat => s.heap.size ≤ q) q := fun _ h => h
  have hbA : ¬ (fun q : Nat => s.heap.size ≤ q) b := Nat.not_le.mpr hbl
  refine lv_aload_n hx hb dL_law_948 rfl (lv_at hl 3 rfl) ?_
  refine lv_aload_n hx hb dL_law_949 rfl (lv_at hl 4 rfl) ?_
  refine lv_iload hx hb dL_law_950 (lv_at hl 0 rfl) ?_
  refine lv_iconst (v := 1) hx hb dL_law_952 (by decide) ?_
  refine lv_iadd hx hb dL_law_953 (lv_topi (fun v_1 e_v_1 => ?_))
  obtain ⟨t_v_1, r_v_1⟩ := tq_add (lo := 1) (hi := 3067) r_i rl_1 (by decide +kernel) e_v_1
  have t_v_1 : v_1.toInt = i.toInt + 1 := t_v_1
  refine va_sld hx hb hX hbl hbA hw.2.2.2.1 (i := v_1) (vp_in_iff.mpr ⟨by have k1 := r_v_1.1; omega, by have k1 := r_v_1.2; omega⟩) dL_law_954 ?_
  obtain ⟨v_2, e_v_2⟩ : ∃ q9 : Int32, xs (Int32.toNatClampNeg v_1) = q9 := ⟨_, rfl⟩
  refine tI e_v_2 ?_
  have r_v_2 := ri_any v_2
  refine tk_ir (va_runV (As := [.int v_2]) (rest := []) ⟨hx, hb, hml, hown, hts⟩ (c_X9_roomOf l D cy z H.size Ps ws hw.1 x v_2 h_x r_v_2) (cwV 1 hts (gV tw_803 tw_804 tw_805 tw_1 tw_806) rfl rfl rfl (by decide +kernel) ⟨Nat.le_of_ble_eq_true rfl, Nat.le_of_ble_eq_true rfl⟩) (tg_preV hw hK hSD hA (ci := 9) (q := (RX9, TX9, 15)) rfl h_x rfl) rfl rfl hl.1 rfl (lv_room (Nat.le_of_ble_eq_true rfl)) dL_law_955 ⟨by show _ ≤ 601024; omega, by show _ ≤ 7293034; omega⟩) hw hA (fun v_3  H locs hp_v_3 hw => ?_)
  have r_v_3 : RI v_3 (-2147483648) 2147483647 := hp_v_3.1
  refine lv_pop hx hb dL_law_958 rfl ?_
  refine lv_aload_n hx hb dL_law_959 rfl (lv_at hl 2 rfl) ?_
  refine lv_aload_n hx hb dL_law_960 rfl (lv_at hl 4 rfl) ?_
  refine lv_iload hx hb dL_law_961 (lv_at hl 0 rfl) ?_
  refine lv_iconst (v := 1) hx hb dL_law_963 (by decide) ?_
  refine lv_iadd hx hb dL_law_964 (lv_topi (fun v_4 e_v_4 => ?_))
  obtain ⟨t_v_4, r_v_4⟩ := tq_add (lo := 1) (hi := 3067) r_i rl_1 (by decide +kernel) e_v_4
  have t_v_4 : v_4.toInt = i.toInt + 1 := t_v_4
  refine va_sld hx hb hX hbl hbA hw.2.2.2.1 (i := v_4) (vp_in_iff.mpr ⟨by have k1 := r_v_4.1; omega, by have k1 := r_v_4.2; omega⟩) dL_law_965 ?_
  refine tI (y := v_2) (by rw [e_v_4, ← e_v_1]; exact e_v_2) ?_
  refine tk_i (va_runV (As := [.int v_2]) (rest := []) ⟨hx, hb, hml, hown, hts⟩ (c_X10_roomOf l D cy z H.size Ps ws hw.1 y v_2 h_y r_v_2) (cwV 1 hts (gV tw_1642 tw_1643 tw_1644 tw_15 tw_1645) rfl rfl rfl (by decide +kernel) ⟨Nat.le_of_ble_eq_true rfl, Nat.le_of_ble_eq_true rfl⟩) (tg_preV hw hK hSD hA (ci := 10) (q := (RX10, TX10, 49)) rfl h_y rfl) rfl rfl hl.1 rfl (lv_room (Nat.le_of_ble_eq_true rfl)) dL_law_966 ⟨by show _ ≤ 601024; omega, by show _ ≤ 7293034; omega⟩) hw hA ⟨by decide, by decide⟩ (fun v_6 ws H locs hp_v_6 hw hF9 => ?_)
  have x_TLX_x_gh := TLX.over hF9 x_TLX_x_gh (by decide)
  have x_TLM_y_gh := TLM.over hF9 x_TLM_y_gh (by decide)
  have x_BYX_x_gdT := BYX.over hF9 x_BYX_x_gdT (by decide)
  have x_BYM_y_gdT := BYM.over hF9 x_BYM_y_gdT (by decide)
  have x_WKX_x := WKX.over hF9 x_WKX_x (by decide)
  have x_GWX_x_gdq := GWX.over hF9 x_GWX_x_gdq (by decide)
  have x_GQ_gdq_gdg := GQ.over hF9 x_GQ_gdq_gdg (by decide)
  have x_HE_gdq_gdg_gdo_gdA_gdB_false_false := HE.over hF9 x_HE_gdq_gdg_gdo_gdA_gdB_false_false (by decide)
  have x_FLP_gdq_gda_gdb := FLP.over hF9 x_FLP_gdq_gda_gdb (by decide)
  have x_HD_y_gdR := AX.over hF9 x_HD_y_gdR (by decide)
  have x_KP_y_gdU_gdV := AX.over hF9 x_KP_y_gdU_gdV (by decide)
  have x_ISA_y_gda_gdb := AX.over hF9 x_ISA_y_gda_gdb (by decide)
  have x_NAM_y_gdL := AXL.over hF9 x_NAM_y_gdL (by decide)
  have x_KNM_y_gdLU_gdLV := AXL.over hF9 x_KNM_y_gdLU_gdLV (by decide)
  have x_LF_x_gdf := FLD.over hF9 x_LF_x_gdf (by decide)
  have x_MF_y_gdf := FLD.over hF9 x_MF_y_gdf (by decide)
  have r_v_6 : RI v_6 (-2147483648) 2147483647 := hp_v_6.1
  refine lv_pop hx hb dL_law_969 rfl ?_
  refine lv_goto (tgt := 1335) hx hb dL_law_970 (by decide) ?_
  refine W.widen (k := C + 6) (n := S + 125) (by omega) (by omega) ?_
  exact kx (gh) gdT gdq gdg gdo gdA gdB gda gdb gdR gdU gdV gdN gdNU gdNV gdL gdLU gdLV gdf _ ws _ _ ls hw h_x h_y h_o x_TLX_x_gh x_TLM_y_gh x_BYX_x_gdT x_BYM_y_gdT x_WKX_x x_GWX_x_gdq x_GQ_gdq_gdg x_HE_gdq_gdg_gdo_gdA_gdB_false_false x_FLP_gdq_gda_gdb x_HD_y_gdR x_KP_y_gdU_gdV x_ISA_y_gda_gdb x_NAM_y_gdL x_KNM_y_gdLU_gdLV x_PDF_gdo_gdR_gdN x_NLP_gdR_gdN_gdL x_LKP_gda_gdA_gdU_gdNU_gdLU x_LKP_gdb_gdB_gdV_gdNV_gdLV x_LF_x_gdf x_MF_y_gdf (lv_sub hl [0, 1, 2, 3, 4] rfl)
set_option maxHeartbeats 4000000 in
set_option maxRecDepth 100000 in
theorem op27 {p : Program} {e : Env} {s : State} {m : MethodId} {below : List Frame} {meth : Method} {c : Code} (l : Launch) (hl0 : l.stackTraces = false) {b L : Nat} {xs : Nat → Int32} (hx : p.tables.exec = Jvm.exec) (hb : c.code = code) (hml : c.maxLocals = 7) (hown : s.vm.findClass RL = some m.cls) (hts : ∀ w ∈ gT, w.before #[Value.ref b] s = true) (hX : va_X b L xs s s.heap) (hbl : b < s.heap.size) (D : va_G) (cy : Nat → ClassId) (z : Nat → Nat) (hK : va_K D classes (TY cy) s) (hSD : SD z (fun q : Nat => s.heap.size ≤ q) s) (hSE : SE z (fun q : Nat => s.heap.size ≤ q) s) {Ps : PSI} {ws : va_W} {H : Heap} {locs : List Loc} {x y o : Nat} (hw : WD D cy GG (fun q : Nat => s.heap.size ≤ q) s wrL waL [] [] Ps ws H locs) (h_x : (x, 33) ∈ Ps) (h_y : (y, 55) ∈ Ps) (h_o : (o, 56) ∈ Ps) {gh : Int} {gdT : Nat → Nat} {gdq : Nat → Nat} {gdg : Nat → Nat} {gdo : OS} {gdA : OS} {gdB : OS} {gda : Int32} {gdb : Int32} {gdR : Nat → Int32} {gdU : Nat → Int32} {gdV : Nat → Int32} {gdN : Nat → Nat} {gdNU : Nat → Nat} {gdNV : Nat → Nat} {gdL : Nat → Int64} {gdLU : Nat → Int64} {gdLV : Nat → Int64} {gdf : Int32} (x_TLX_x_gh : TLX ws x (gh)) (x_TLM_y_gh : TLM ws y (gh)) (x_BYX_x_gdT : BYX Ps ws x gdT) (x_BYM_y_gdT : BYM Ps ws y gdT) (x_WKX_x : WKX Ps ws x) (x_GWX_x_gdq : GWX ws x gdq) (x_GQ_gdq_gdg : GQ Ps ws gdq gdg) (x_HE_gdq_gdg_gdo_gdA_gdB_false_false : HE Ps ws gdq gdg gdo gdA gdB false false) (x_FLP_gdq_gda_gdb : FLP ws gdq gda gdb) (x_HD_y_gdR : AX 14 34 (HDp gdR) Ps ws y) (x_KP_y_gdU_gdV : AX 16 36 (KPp gdU gdV) Ps ws y) (x_ISA_y_gda_gdb : AX 23 44 (ISp gda gdb) Ps ws y) (x_NAM_y_gdL : AXL 20 41 (NMp gdL) Ps ws y) (x_KNM_y_gdLU_gdLV : AXL 22 43 (KNp gdLU gdLV) Ps ws y) (x_PDF_gdo_gdR_gdN : (PDO gdo gdR gdN)) (x_NLP_gdR_gdN_gdL : (NLC gdR gdN gdL)) (x_LKP_gda_gdA_gdU_gdNU_gdLU : (LKP gda gdA gdU gdNU gdLU)) (x_LKP_gdb_gdB_gdV_gdNV_gdLV : (LKP gdb gdB gdV gdNV gdLV)) (x_LF_x_gdf : FLD ws x 9 11 (.int gdf)) (x_MF_y_gdf : FLD ws y 10 10 (.int gdf)) {i : Int32} (r_i : RI i 0 3066) (hiL : i.toInt + 6 ≤ L) {C S : Nat} (hC : C + 6 ≤ 601024) (hSl : S + 125 ≤ 7293034) {ls : Array Slot} (hl : lv_has ls 7 [(4, .int i), (3, .ref o), (2, .ref y), (1, .ref x), (0, .ref b)]) {Q : State → Prop} (kx : ∀ (gh : Int) (gdT : Nat → Nat) (gdq : Nat → Nat) (gdg : Nat → Nat) (gdo : OS) (gdA : OS) (gdB : OS) (gda : Int32) (gdb : Int32) (gdR : Nat → Int32) (gdU : Nat → Int32) (gdV : Nat → Int32) (gdN : Nat → Nat) (gdNU : Nat → Nat) (gdNV : Nat → Nat) (gdL : Nat → Int64) (gdLU : Nat → Int64) (gdLV : Nat → Int64) (gdf : Int32) (Ps : PSI) (ws : va_W) (H : Heap) (locs : List Loc) (ls : Array Slot), WD D cy GG (fun q : Nat => s.heap.size ≤ q) s wrL waL [] [] Ps ws H locs → (x, 33) ∈ Ps → (y, 55) ∈ Ps → (o, 56) ∈ Ps → TLX ws x (gh) → TLM ws y (gh) → BYX Ps ws x gdT → BYM Ps ws y gdT → WKX Ps ws x → GWX ws x gdq → GQ Ps ws gdq gdg → HE Ps ws gdq gdg gdo gdA gdB false false → FLP ws gdq gda gdb → AX 14 34 (HDp gdR) Ps ws y → AX 16 36 (KPp gdU gdV) Ps ws y → AX 23 44 (ISp gda gdb) Ps ws y → AXL 20 41 (NMp gdL) Ps ws y → AXL 22 43 (KNp gdLU gdLV) Ps ws y → (PDO gdo gdR gdN) → (NLC gdR gdN gdL) → (LKP gda gdA gdU gdNU gdLU) → (LKP gdb gdB gdV gdNV gdLV) → FLD ws x 9 11 (.int gdf) → FLD ws y 10 10 (.int gdf) → lv_has ls 7 [(4, .int i), (3, .ref o), (2, .ref y), (1, .ref x), (0, .ref b)] → W p l e room_1 s m #[Value.ref b] below meth c H locs (C + 6) (S + 125) Q (F0 m 1335 ls [])) : W p l e room_1 s m #[Value.ref b] below meth c H locs C S Q (F0 m 973 ls []) := by
  have hA : ∀ q : Nat, s.heap.size ≤ q → (fun q : Nat => s.heap.size ≤ q) q := fun _ h => h
  have hbA : ¬ (fun q : Nat => s.heap.size ≤ q) b := Nat.not_le.mpr hbl
  refine lv_aload_n hx hb dL_law_973 rfl (lv_at hl 3 rfl) ?_
  refine tk_i (va_runV (As := []) (rest := []) ⟨hx, hb, hml, hown, hts⟩ (c_X9_rest__1 l D cy z H.size Ps ws hw.1 x (gdq) (gdg) (gdo) (gdA) (gdB) h_x x_GWX_x_gdq x_GQ_gdq_gdg x_HE_gdq_gdg_gdo_gdA_gdB_false_false) (cwV 0 hts (gV tw_807 tw_808 tw_809 tw_1 tw_810) rfl rfl rfl (by decide +kernel) ⟨Nat.le_of_ble_eq_true rfl, Nat.le_of_ble_eq_true rfl⟩) (tg_preV hw hK hSD hA (ci := 9) (q := (RX9, TX9, 15)) rfl h_x rfl) rfl rfl hl.1 rfl (lv_room (Nat.le_of_ble_eq_true rfl)) dL_law_974 ⟨by show _ ≤ 601024; omega, by show _ ≤ 7293034; omega⟩) hw hA ⟨by decide, by decide⟩ (fun v_1 ws H locs hp_v_1 hw hF9 => ?_)
  have x_TLX_x_gh := TLX.over hF9 x_TLX_x_gh (by decide)
  have x_TLM_y_gh := TLM.over hF9 x_TLM_y_gh (by decide)
  have x_BYX_x_gdT := BYX.over hF9 x_BYX_x_gdT (by decide)
  have x_BYM_y_gdT := BYM.over hF9 x_BYM_y_gdT (by decide)
  have x_WKX_x := WKX.over hF9 x_WKX_x (by decide)
  have x_GWX_x_gdq := GWX.over hF9 x_GWX_x_gdq (by decide)
  have x_GQ_gdq_gdg := GQ.over hF9 x_GQ_gdq_gdg (by decide)
  have x_FLP_gdq_gda_gdb := FLP.over hF9 x_FLP_gdq_gda_gdb (by decide)
  have x_HD_y_gdR := AX.over hF9 x_HD_y_gdR (by decide)
  have x_KP_y_gdU_gdV := AX.over hF9 x_KP_y_gdU_gdV (by decide)
  have x_ISA_y_gda_gdb := AX.over hF9 x_ISA_y_gda_gdb (by decide)
  have x_NAM_y_gdL := AXL.over hF9 x_NAM_y_gdL (by decide)
  have x_KNM_y_gdLU_gdLV := AXL.over hF9 x_KNM_y_gdLU_gdLV (by decide)
  have x_LF_x_gdf := FLD.over hF9 x_LF_x_gdf (by decide)
  have x_MF_y_gdf := FLD.over hF9 x_MF_y_gdf (by decide)
  have r_v_1 : RI v_1 0 10 := hp_v_1.1
  have x_HE_gdq_gdg_gdo_gdA_gdB_false_false := hp_v_1.2.2.2.1.1
  refine lv_pop hx hb dL_law_977 rfl ?_
  refine lv_aload_n hx hb dL_law_978 rfl (lv_at hl 2 rfl) ?_
  refine tk_i (va_runV (As := []) (rest := []) ⟨hx, hb, hml, hown, hts⟩ (c_X10_rest__1 l D cy z H.size Ps ws hw.1 y (gdR) h_y x_HD_y_gdR) (cwV 0 hts (gV tw_1646 tw_1647 tw_1648 tw_15 tw_1649) rfl rfl rfl (by decide +kernel) ⟨Nat.le_of_ble_eq_true rfl, Nat.le_of_ble_eq_true rfl⟩) (tg_preV hw hK hSD hA (ci := 10) (q := (RX10, TX10, 49)) rfl h_y rfl) rfl rfl hl.1 rfl (lv_room (Nat.le_of_ble_eq_true rfl)) dL_law_979 ⟨by show _ ≤ 601024; omega, by show _ ≤ 7293034; omega⟩) hw hA ⟨by decide, by decide⟩ (fun v_2 ws H locs hp_v_2 hw hF9 => ?_)
  have x_TLX_x_gh := TLX.over hF9 x_TLX_x_gh (by decide)
  have x_TLM_y_gh := TLM.over hF9 x_TLM_y_gh (by decide)
  have x_BYX_x_gdT := BYX.over hF9 x_BYX_x_gdT (by decide)
  have x_BYM_y_gdT := BYM.over hF9 x_BYM_y_gdT (by decide)
  have x_WKX_x := WKX.over hF9 x_WKX_x (by decide)
  have x_GWX_x_gdq := GWX.over hF9 x_GWX_x_gdq (by decide)
  have x_GQ_gdq_gdg := GQ.over hF9 x_GQ_gdq_gdg (by decide)
  have x_FLP_gdq_gda_gdb := FLP.over hF9 x_FLP_gdq_gda_gdb (by decide)
  have x_KP_y_gdU_gdV := AX.over hF9 x_KP_y_gdU_gdV (by decide)
  have x_ISA_y_gda_gdb := AX.over hF9 x_ISA_y_gda_gdb (by decide)
  have x_NAM_y_gdL := AXL.over hF9 x_NAM_y_gdL (by decide)
  have x_KNM_y_gdLU_gdLV := AXL.over hF9 x_KNM_y_gdLU_gdLV (by decide)
  have x_LF_x_gdf := FLD.over hF9 x_LF_x_gdf (by decide)
  have x_MF_y_gdf := FLD.over hF9 x_MF_y_gdf (by decide)
  have x_HE_gdq_gdg_gdo_gdA_gdB_false_false := HE.over hF9 x_HE_gdq_gdg_gdo_gdA_gdB_false_false (by decide)
  obtain ⟨x_HD_y_gdR, hp_v_2⟩ := hp_v_2
  have r_v_2 : RI v_2 0 10 := hp_v_2.1
  refine lv_pop hx hb dL_law_982 rfl ?_
  refine lv_goto (tgt := 1335) hx hb dL_law_983 (by decide) ?_
  refine W.widen (k := C + 6) (n := S + 125) (by omega) (by omega) ?_
  exact kx (gh) gdT gdq gdg gdo gdA gdB gda gdb gdR gdU gdV gdN gdNU gdNV gdL gdLU gdLV gdf _ ws _ _ ls hw h_x h_y h_o x_TLX_x_gh x_TLM_y_gh x_BYX_x_gdT x_BYM_y_gdT x_WKX_x x_GWX_x_gdq x_GQ_gdq_gdg x_HE_gdq_gdg_gdo_gdA_gdB_false_false x_FLP_gdq_gda_gdb x_HD_y_gdR x_KP_y_gdU_gdV x_ISA_y_gda_gdb x_NAM_y_gdL x_KNM_y_gdLU_gdLV x_PDF_gdo_gdR_gdN x_NLP_gdR_gdN_gdL x_LKP_gda_gdA_gdU_gdNU_gdLU x_LKP_gdb_gdB_gdV_gdNV_gdLV x_LF_x_gdf x_MF_y_gdf (lv_sub hl [0, 1, 2, 3, 4] rfl)
set_option maxHeartbeats 4000000 in
set_option maxRecDepth 100000 in
theorem op28 {p : Program} {e : Env} {s : State} {m : MethodId} {below : List Frame} {meth : Method} {c : Code} (l : Launch) (hl0 : l.stackTraces = false) {b L : Nat} {xs : Nat → Int32} (hx : p.tables.exec = Jvm.exec) (hb : c.code = code) (hml : c.maxLocals = 7) (hown : s.vm.findClass RL = some m.cls) (hts : ∀ w ∈ gT, w.before #[Value.ref b] s = true) (hX : va_X b L xs s s.heap) (hbl : b < s.heap.size) (D : va_G) (cy : Nat → ClassId) (z : Nat → Nat) (hK : va_K D classes (TY cy) s) (hSD : SD z (fun q : Nat => s.heap.size ≤ q) s) (hSE : SE z (fun q : Nat => s.heap.size ≤ q) s) {Ps : PSI} {ws : va_W} {H : Heap} {locs : List Loc} {x y o : Nat} (hw : WD D cy GG (fun q : Nat => s.heap.size ≤ q) s wrL waL [] [] Ps ws H locs) (h_x : (x, 33) ∈ Ps) (h_y : (y, 55) ∈ Ps) (h_o : (o, 56) ∈ Ps) {gh : Int} {gdT : Nat → Nat} {gdq : Nat → Nat} {gdg : Nat → Nat} {gdo : OS} {gdA : OS} {gdB : OS} {gda : Int32} {gdb : Int32} {gdR : Nat → Int32} {gdU : Nat → Int32} {gdV : Nat → Int32} {gdN : Nat → Nat} {gdNU : Nat → Nat} {gdNV : Nat → Nat} {gdL : Nat → Int64} {gdLU : Nat → Int64} {gdLV : Nat → Int64} {gdf : Int32} (x_TLX_x_gh : TLX ws x (gh)) (x_TLM_y_gh : TLM ws y (gh)) (x_BYX_x_gdT : BYX Ps ws x gdT) (x_BYM_y_gdT : BYM Ps ws y gdT) (x_WKX_x : WKX Ps ws x) (x_GWX_x_gdq : GWX ws x gdq) (x_GQ_gdq_gdg : GQ Ps ws gdq gdg) (x_HE_gdq_gdg_gdo_gdA_gdB_false_false : HE Ps ws gdq gdg gdo gdA gdB false false) (x_FLP_gdq_gda_gdb : FLP ws gdq gda gdb) (x_HD_y_gdR : AX 14 34 (HDp gdR) Ps ws y) (x_KP_y_gdU_gdV : AX 16 36 (KPp gdU gdV) Ps ws y) (x_ISA_y_gda_gdb : AX 23 44 (ISp gda gdb) Ps ws y) (x_NAM_y_gdL : AXL 20 41 (NMp gdL) Ps ws y) (x_KNM_y_gdLU_gdLV : AXL 22 43 (KNp gdLU gdLV) Ps ws y) (x_PDF_gdo_gdR_gdN : (PDO gdo gdR gdN)) (x_NLP_gdR_gdN_gdL : (NLC gdR gdN gdL)) (x_LKP_gda_gdA_gdU_gdNU_gdLU : (LKP gda gdA gdU gdNU gdLU)) (x_LKP_gdb_gdB_gdV_gdNV_gdLV : (LKP gdb gdB gdV gdNV gdLV)) (x_LF_x_gdf : FLD ws x 9 11 (.int gdf)) (x_MF_y_gdf : FLD ws y 10 10 (.int gdf)) {i : Int32} (r_i : RI i 0 3066) (hiL : i.toInt + 6 ≤ L) {C S : Nat} (hC : C + 6 ≤ 601024) (hSl : S + 125 ≤ 7293034) {ls : Array Slot} (hl : lv_has ls 7 [(4, .int i), (3, .ref o), (2, .ref y), (1, .ref x), (0, .ref b)]) {Q : State → Prop} (kx : ∀ (gh : Int) (gdT : Nat → Nat) (gdq : Nat → Nat) (gdg : Nat → Nat) (gdo : OS) (gdA : OS) (gdB : OS) (gda : Int32) (gdb : Int32) (gdR : Nat → Int32) (gdU : Nat → Int32) (gdV : Nat → Int32) (gdN : Nat → Nat) (gdNU : Nat → Nat) (gdNV : Nat → Nat) (gdL : Nat → Int64) (gdLU : Nat → Int64) (gdLV : Nat → Int64) (gdf : Int32) (Ps : PSI) (ws : va_W) (H : Heap) (locs : List Loc) (ls : Array Slot), WD D cy GG (fun q : Nat => s.heap.size ≤ q) s wrL waL [] [] Ps ws H locs → (x, 33) ∈ Ps → (y, 55) ∈ Ps → (o, 56) ∈ Ps → TLX ws x (gh) → TLM ws y (gh) → BYX Ps ws x gdT → BYM Ps ws y gdT → WKX Ps ws x → GWX ws x gdq → GQ Ps ws gdq gdg → HE Ps ws gdq gdg gdo gdA gdB false false → FLP ws gdq gda gdb → AX 14 34 (HDp gdR) Ps ws y → AX 16 36 (KPp gdU gdV) Ps ws y → AX 23 44 (ISp gda gdb) Ps ws y → AXL 20 41 (NMp gdL) Ps ws y → AXL 22 43 (KNp gdLU gdLV) Ps ws y → (PDO gdo gdR gdN) → (NLC gdR gdN gdL) → (LKP gda gdA gdU gdNU gdLU) → (LKP gdb gdB gdV gdNV gdLV) → FLD ws x 9 11 (.int gdf) → FLD ws y 10 10 (.int gdf) → lv_has ls 7 [(4, .int i), (3, .ref o), (2, .ref y), (1, .ref x), (0, .ref b)] → W p l e room_1 s m #[Value.ref b] below meth c H locs (C + 6) (S + 125) Q (F0 m 1335 ls [])) : W p l e room_1 s m #[Value.ref b] below meth c H locs C S Q (F0 m 986 ls []) := by
  have hA : ∀ q : Nat, s.heap.size ≤ q → (fun q : Nat => s.heap.size ≤ q) q := fun _ h => h
  have hbA : ¬ (fun q : Nat => s.heap.size ≤ q) b := Nat.not_le.mpr hbl
  refine lv_aload_n hx hb dL_law_986 rfl (lv_at hl 3 rfl) ?_
  refine lv_aload_n hx hb dL_law_987 rfl (lv_at hl 4 rfl) ?_
  refine lv_iload hx hb dL_law_988 (lv_at hl 0 rfl) ?_
  refine lv_iconst (v := 1) hx hb dL_law_990 (by decide) ?_
  refine lv_iadd hx hb dL_law_991 (lv_topi (fun v_1 e_v_1 => ?_))
  obtain ⟨t_v_1, r_v_1⟩ := tq_add (lo := 1) (hi := 3067) r_i rl_1 (by decide +kernel) e_v_1
  have t_v_1 : v_1.toInt = i.toInt + 1 := t_v_1
  refine va_sld hx hb hX hbl hbA hw.2.2.2.1 (i := v_1) (vp_in_iff.mpr ⟨by have k1 := r_v_1.1; omega, by have k1 := r_v_1.2; omega⟩) dL_law_992 ?_
  obtain ⟨v_2, e_v_2⟩ : ∃ q9 : Int32, xs (Int32.toNatClampNeg v_1) = q9 := ⟨_, rfl⟩
  refine tI e_v_2 ?_
  have r_v_2 := ri_any v_2
  refine tk_ir (va_runV (As := [.int v_2]) (rest := []) ⟨hx, hb, hml, hown, hts⟩ (c_X9_rested l D cy z H.size Ps ws hw.1 x v_2 h_x r_v_2) (cwV 1 hts (gV tw_820 tw_821 tw_822 tw_1 tw_823) rfl rfl rfl (by decide +kernel) ⟨Nat.le_of_ble_eq_true rfl, Nat.le_of_ble_eq_true rfl⟩) (tg_preV hw hK hSD hA (ci := 9) (q := (RX9, TX9, 15)) rfl h_x rfl) rfl rfl hl.1 rfl (lv_room (Nat.le_of_ble_eq_true rfl)) dL_law_993 ⟨by show _ ≤ 601024; omega, by show _ ≤ 7293034; omega⟩) hw hA (fun v_3  H locs hp_v_3 hw => ?_)
  have r_v_3 : RI v_3 (-2147483648) 2147483647 := hp_v_3.1
  refine lv_pop hx hb dL_law_996 rfl ?_
  refine lv_aload_n hx hb dL_law_997 rfl (lv_at hl 2 rfl) ?_
  refine lv_aload_n hx hb dL_law_998 rfl (lv_at hl 4 rfl) ?_
  refine lv_iload hx hb dL_law_999 (lv_at hl 0 rfl) ?_
  refine lv_iconst (v := 1) hx hb dL_law_1001 (by decide) ?_
  refine lv_iadd hx hb dL_law_1002 (lv_topi (fun v_4 e_v_4 => ?_))
  obtain ⟨t_v_4, r_v_4⟩ := tq_add (lo := 1) (hi := 3067) r_i rl_1 (by decide +kernel) e_v_4
  have t_v_4 : v_4.toInt = i.toInt + 1 := t_v_4
  refine va_sld hx hb hX hbl hbA hw.2.2.2.1 (i := v_4) (vp_in_iff.mpr ⟨by have k1 := r_v_4.1; omega, by have k1 := r_v_4.2; omega⟩) dL_law_1003 ?_
  refine tI (y := v_2) (by rw [e_v_4, ← e_v_1]; exact e_v_2) ?_
  refine tk_i (va_runV (As := [.int v_2]) (rest := []) ⟨hx, hb, hml, hown, hts⟩ (c_X10_rested l D cy z H.size Ps ws hw.1 y v_2 h_y r_v_2) (cwV 1 hts (gV tw_1658 tw_1659 tw_1660 tw_15 tw_1661) rfl rfl rfl (by decide +kernel) ⟨Nat.le_of_ble_eq_true rfl, Nat.le_of_ble_eq_true rfl⟩) (tg_preV hw hK hSD hA (ci := 10) (q := (RX10, TX10, 49)) rfl h_y rfl) rfl rfl hl.1 rfl (lv_room (Nat.le_of_ble_eq_true rfl)) dL_law_1004 ⟨by show _ ≤ 601024; omega, by show _ ≤ 7293034; omega⟩) hw hA ⟨by decide, by decide⟩ (fun v_6 ws H locs hp_v_6 hw hF9 => ?_)
  have x_TLX_x_gh := TLX.over hF9 x_TLX_x_gh (by decide)
  have x_TLM_y_gh := TLM.over hF9 x_TLM_y_gh (by decide)
  have x_BYX_x_gdT := BYX.over hF9 x_BYX_x_gdT (by decide)
  have x_BYM_y_gdT := BYM.over hF9 x_BYM_y_gdT (by decide)
  have x_WKX_x := WKX.over hF9 x_WKX_x (by decide)
  have x_GWX_x_gdq := GWX.over hF9 x_GWX_x_gdq (by decide)
  have x_GQ_gdq_gdg := GQ.over hF9 x_GQ_gdq_gdg (by decide)
  have x_HE_gdq_gdg_gdo_gdA_gdB_false_false := HE.over hF9 x_HE_gdq_gdg_gdo_gdA_gdB_false_false (by decide)
  have x_FLP_gdq_gda_gdb := FLP.over hF9 x_FLP_gdq_gda_gdb (by decide)
  have x_HD_y_gdR := AX.over hF9 x_HD_y_gdR (by decide)
  have x_KP_y_gdU_gdV := AX.over hF9 x_KP_y_gdU_gdV (by decide)
  have x_ISA_y_gda_gdb := AX.over hF9 x_ISA_y_gda_gdb (by decide)
  have x_NAM_y_gdL := AXL.over hF9 x_NAM_y_gdL (by decide)
  have x_KNM_y_gdLU_gdLV := AXL.over hF9 x_KNM_y_gdLU_gdLV (by decide)
  have x_LF_x_gdf := FLD.over hF9 x_LF_x_gdf (by decide)
  have x_MF_y_gdf := FLD.over hF9 x_MF_y_gdf (by decide)
  have r_v_6 : RI v_6 (-2147483648) 2147483647 := hp_v_6.1
  refine lv_pop hx hb dL_law_1007 rfl ?_
  refine lv_goto (tgt := 1335) hx hb dL_law_1008 (by decide) ?_
  refine W.widen (k := C + 6) (n := S + 125) (by omega) (by omega) ?_
  exact kx (gh) gdT gdq gdg gdo gdA gdB gda gdb gdR gdU gdV gdN gdNU gdNV gdL gdLU gdLV gdf _ ws _ _ ls hw h_x h_y h_o x_TLX_x_gh x_TLM_y_gh x_BYX_x_gdT x_BYM_y_gdT x_WKX_x x_GWX_x_gdq x_GQ_gdq_gdg x_HE_gdq_gdg_gdo_gdA_gdB_false_false x_FLP_gdq_gda_gdb x_HD_y_gdR x_KP_y_gdU_gdV x_ISA_y_gda_gdb x_NAM_y_gdL x_KNM_y_gdLU_gdLV x_PDF_gdo_gdR_gdN x_NLP_gdR_gdN_gdL x_LKP_gda_gdA_gdU_gdNU_gdLU x_LKP_gdb_gdB_gdV_gdNV_gdLV x_LF_x_gdf x_MF_y_gdf (lv_sub hl [0, 1, 2, 3, 4] rfl)
set_option maxHeartbeats 4000000 in
set_option maxRecDepth 100000 in
theorem op29 {p : Program} {e : Env} {s : State} {m : MethodId} {below : List Frame} {meth : Method} {c : Code} (l : Launch) (hl0 : l.stackTraces = false) {b L : Nat} {xs : Nat → Int32} (hx : p.tables.exec = Jvm.exec) (hb : c.code = code) (hml : c.maxLocals = 7) (hown : s.vm.findClass RL = some m.cls) (hts : ∀ w ∈ gT, w.before #[Value.ref b] s = true) (hX : va_X b L xs s s.heap) (hbl : b < s.heap.size) (D : va_G) (cy : Nat → ClassId) (z : Nat → Nat) (hK : va_K D classes (TY cy) s) (hSD : SD z (fun q : Nat => s.heap.size ≤ q) s) (hSE : SE z (fun q : Nat => s.heap.size ≤ q) s) {Ps : PSI} {ws : va_W} {H : Heap} {locs : List Loc} {x y o : Nat} (hw : WD D cy GG (fun q : Nat => s.heap.size ≤ q) s wrL waL [] [] Ps ws H locs) (h_x : (x, 33) ∈ Ps) (h_y : (y, 55) ∈ Ps) (h_o : (o, 56) ∈ Ps) {gh : Int} {gdT : Nat → Nat} {gdq : Nat → Nat} {gdg : Nat → Nat} {gdo : OS} {gdA : OS} {gdB : OS} {gda : Int32} {gdb : Int32} {gdR : Nat → Int32} {gdU : Nat → Int32} {gdV : Nat → Int32} {gdN : Nat → Nat} {gdNU : Nat → Nat} {gdNV : Nat → Nat} {gdL : Nat → Int64} {gdLU : Nat → Int64} {gdLV : Nat → Int64} {gdf : Int32} (x_TLX_x_gh : TLX ws x (gh)) (x_TLM_y_gh : TLM ws y (gh)) (x_BYX_x_gdT : BYX Ps ws x gdT) (x_BYM_y_gdT : BYM Ps ws y gdT) (x_WKX_x : WKX Ps ws x) (x_GWX_x_gdq : GWX ws x gdq) (x_GQ_gdq_gdg : GQ Ps ws gdq gdg) (x_HE_gdq_gdg_gdo_gdA_gdB_false_false : HE Ps ws gdq gdg gdo gdA gdB false false) (x_FLP_gdq_gda_gdb : FLP ws gdq gda gdb) (x_HD_y_gdR : AX 14 34 (HDp gdR) Ps ws y) (x_KP_y_gdU_gdV : AX 16 36 (KPp gdU gdV) Ps ws y) (x_ISA_y_gda_gdb : AX 23 44 (ISp gda gdb) Ps ws y) (x_NAM_y_gdL : AXL 20 41 (NMp gdL) Ps ws y) (x_KNM_y_gdLU_gdLV : AXL 22 43 (KNp gdLU gdLV) Ps ws y) (x_PDF_gdo_gdR_gdN : (PDO gdo gdR gdN)) (x_NLP_gdR_gdN_gdL : (NLC gdR gdN gdL)) (x_LKP_gda_gdA_gdU_gdNU_gdLU : (LKP gda gdA gdU gdNU gdLU)) (x_LKP_gdb_gdB_gdV_gdNV_gdLV : (LKP gdb gdB gdV gdNV gdLV)) (x_LF_x_gdf : FLD ws x 9 11 (.int gdf)) (x_MF_y_gdf : FLD ws y 10 10 (.int gdf)) {i : Int32} (r_i : RI i 0 3066) (hiL : i.toInt + 6 ≤ L) {C S : Nat} (hC : C + 6 ≤ 601024) (hSl : S + 125 ≤ 7293034) {ls : Array Slot} (hl : lv_has ls 7 [(4, .int i), (3, .ref o), (2, .ref y), (1, .ref x), (0, .ref b)]) {Q : State → Prop} (kx : ∀ (gh : Int) (gdT : Nat → Nat) (gdq : Nat → Nat) (gdg : Nat → Nat) (gdo : OS) (gdA : OS) (gdB : OS) (gda : Int32) (gdb : Int32) (gdR : Nat → Int32) (gdU : Nat → Int32) (gdV : Nat → Int32) (gdN : Nat → Nat) (gdNU : Nat → Nat) (gdNV : Nat → Nat) (gdL : Nat → Int64) (gdLU : Nat → Int64) (gdLV : Nat → Int64) (gdf : Int32) (Ps : PSI) (ws : va_W) (H : Heap) (locs : List Loc) (ls : Array Slot), WD D cy GG (fun q : Nat => s.heap.size ≤ q) s wrL waL [] [] Ps ws H locs → (x, 33) ∈ Ps → (y, 55) ∈ Ps → (o, 56) ∈ Ps → TLX ws x (gh) → TLM ws y (gh) → BYX Ps ws x gdT → BYM Ps ws y gdT → WKX Ps ws x → GWX ws x gdq → GQ Ps ws gdq gdg → HE Ps ws gdq gdg gdo gdA gdB false false → FLP ws gdq gda gdb → AX 14 34 (HDp gdR) Ps ws y → AX 16 36 (KPp gdU gdV) Ps ws y → AX 23 44 (ISp gda gdb) Ps ws y → AXL 20 41 (NMp gdL) Ps ws y → AXL 22 43 (KNp gdLU gdLV) Ps ws y → (PDO gdo gdR gdN) → (NLC gdR gdN gdL) → (LKP gda gdA gdU gdNU gdLU) → (LKP gdb gdB gdV gdNV gdLV) → FLD ws x 9 11 (.int gdf) → FLD ws y 10 10 (.int gdf) → lv_has ls 7 [(4, .int i), (3, .ref o), (2, .ref y), (1, .ref x), (0, .ref b)] → W p l e room_1 s m #[Value.ref b] below meth c H locs (C + 6) (S + 125) Q (F0 m 1335 ls [])) : W p l e room_1 s m #[Value.ref b] below meth c H locs C S Q (F0 m 1011 ls []) := by
  have hA : ∀ q : Nat, s.heap.size ≤ q → (fun q : Nat => s.heap.size ≤ q) q := fun _ h => h
  have hbA : ¬ (fun q : Nat => s.heap.size ≤ q) b := Nat.not_le.mpr hbl
  refine lv_aload_n hx hb dL_law_1011 rfl (lv_at hl 3 rfl) ?_
  refine tk_ir (va_runV (As := []) (rest := []) ⟨hx, hb, hml, hown, hts⟩ (c_X9_greatest l D cy z H.size Ps ws hw.1 x h_x) (cwV 0 hts (gV tw_824 tw_825 tw_826 tw_1 tw_827) rfl rfl rfl (by decide +kernel) ⟨Nat.le_of_ble_eq_true rfl, Nat.le_of_ble_eq_true rfl⟩) (tg_preV hw hK hSD hA (ci := 9) (q := (RX9, TX9, 15)) rfl h_x rfl) rfl rfl hl.1 rfl (lv_room (Nat.le_of_ble_eq_true rfl)) dL_law_1012 ⟨by show _ ≤ 601024; omega, by show _ ≤ 7293034; omega⟩) hw hA (fun v_1  H locs hp_v_1 hw => ?_)
  have r_v_1 : RI v_1 (-1) 5 := hp_v_1.1
  refine lv_pop hx hb dL_law_1015 rfl ?_
  refine lv_aload_n hx hb dL_law_1016 rfl (lv_at hl 2 rfl) ?_
  refine tk_i (va_runV (As := []) (rest := []) ⟨hx, hb, hml, hown, hts⟩ (c_X10_greatest l D cy z H.size Ps ws hw.1 y h_y) (cwV 0 hts (gV tw_1662 tw_1663 tw_1664 tw_15 tw_1665) rfl rfl rfl (by decide +kernel) ⟨Nat.le_of_ble_eq_true rfl, Nat.le_of_ble_eq_true rfl⟩) (tg_preV hw hK hSD hA (ci := 10) (q := (RX10, TX10, 49)) rfl h_y rfl) rfl rfl hl.1 rfl (lv_room (Nat.le_of_ble_eq_true rfl)) dL_law_1017 ⟨by show _ ≤ 601024; omega, by show _ ≤ 7293034; omega⟩) hw hA ⟨by decide, by decide⟩ (fun v_2 ws H locs hp_v_2 hw hF9 => ?_)
  have x_TLX_x_gh := TLX.over hF9 x_TLX_x_gh (by decide)
  have x_TLM_y_gh := TLM.over hF9 x_TLM_y_gh (by decide)
  have x_BYX_x_gdT := BYX.over hF9 x_BYX_x_gdT (by decide)
  have x_BYM_y_gdT := BYM.over hF9 x_BYM_y_gdT (by decide)
  have x_WKX_x := WKX.over hF9 x_WKX_x (by decide)
  have x_GWX_x_gdq := GWX.over hF9 x_GWX_x_gdq (by decide)
  have x_GQ_gdq_gdg := GQ.over hF9 x_GQ_gdq_gdg (by decide)
  have x_HE_gdq_gdg_gdo_gdA_gdB_false_false := HE.over hF9 x_HE_gdq_gdg_gdo_gdA_gdB_false_false (by decide)
  have x_FLP_gdq_gda_gdb := FLP.over hF9 x_FLP_gdq_gda_gdb (by decide)
  have x_HD_y_gdR := AX.over hF9 x_HD_y_gdR (by decide)
  have x_KP_y_gdU_gdV := AX.over hF9 x_KP_y_gdU_gdV (by decide)
  have x_ISA_y_gda_gdb := AX.over hF9 x_ISA_y_gda_gdb (by decide)
  have x_NAM_y_gdL := AXL.over hF9 x_NAM_y_gdL (by decide)
  have x_KNM_y_gdLU_gdLV := AXL.over hF9 x_KNM_y_gdLU_gdLV (by decide)
  have x_LF_x_gdf := FLD.over hF9 x_LF_x_gdf (by decide)
  have x_MF_y_gdf := FLD.over hF9 x_MF_y_gdf (by decide)
  have r_v_2 : RI v_2 (-1) 5 := hp_v_2.1
  refine lv_pop hx hb dL_law_1020 rfl ?_
  refine lv_goto (tgt := 1335) hx hb dL_law_1021 (by decide) ?_
  refine W.widen (k := C + 6) (n := S + 125) (by omega) (by omega) ?_
  exact kx (gh) gdT gdq gdg gdo gdA gdB gda gdb gdR gdU gdV gdN gdNU gdNV gdL gdLU gdLV gdf _ ws _ _ ls hw h_x h_y h_o x_TLX_x_gh x_TLM_y_gh x_BYX_x_gdT x_BYM_y_gdT x_WKX_x x_GWX_x_gdq x_GQ_gdq_gdg x_HE_gdq_gdg_gdo_gdA_gdB_false_false x_FLP_gdq_gda_gdb x_HD_y_gdR x_KP_y_gdU_gdV x_ISA_y_gda_gdb x_NAM_y_gdL x_KNM_y_gdLU_gdLV x_PDF_gdo_gdR_gdN x_NLP_gdR_gdN_gdL x_LKP_gda_gdA_gdU_gdNU_gdLU x_LKP_gdb_gdB_gdV_gdNV_gdLV x_LF_x_gdf x_MF_y_gdf (lv_sub hl [0, 1, 2, 3, 4] rfl)
set_option maxHeartbeats 4000000 in
set_option maxRecDepth 100000 in
theorem op30 {p : Program} {e : Env} {s : State} {m : MethodId} {below : List Frame} {meth : Method} {c : Code} (l : Launch) (hl0 : l.stackTraces = false) {b L : Nat} {xs : Nat → Int32} (hx : p.tables.exec = Jvm.exec) (hb : c.code = code) (hml : c.maxLocals = 7) (hown : s.vm.findClass RL = some m.cls) (hts : ∀ w ∈ gT, w.before #[Value.ref b] s = true) (hX : va_X b L xs s s.heap) (hbl : b < s.heap.size) (D : va_G) (cy : Nat → ClassId) (z : Nat → Nat) (hK : va_K D classes (TY cy) s) (hSD : SD z (fun q : Nat => s.heap.size ≤ q) s) (hSE : SE z (fun q : Nat => s.heap.size ≤ q) s) {Ps : PSI} {ws : va_W} {H : Heap} {locs : List Loc} {x y o : Nat} (hw : WD D cy GG (fun q : Nat => s.heap.size ≤ q) s wrL waL [] [] Ps ws H locs) (h_x : (x, 33) ∈ Ps) (h_y : (y, 55) ∈ Ps) (h_o : (o, 56) ∈ Ps) {gh : Int} {gdT : Nat → Nat} {gdq : Nat → Nat} {gdg : Nat → Nat} {gdo : OS} {gdA : OS} {gdB : OS} {gda : Int32} {gdb : Int32} {gdR : Nat → Int32} {gdU : Nat → Int32} {gdV : Nat → Int32} {gdN : Nat → Nat} {gdNU : Nat → Nat} {gdNV : Nat → Nat} {gdL : Nat → Int64} {gdLU : Nat → Int64} {gdLV : Nat → Int64} {gdf : Int32} (x_TLX_x_gh : TLX ws x (gh)) (x_TLM_y_gh : TLM ws y (gh)) (x_BYX_x_gdT : BYX Ps ws x gdT) (x_BYM_y_gdT : BYM Ps ws y gdT) (x_WKX_x : WKX Ps ws x) (x_GWX_x_gdq : GWX ws x gdq) (x_GQ_gdq_gdg : GQ Ps ws gdq gdg) (x_HE_gdq_gdg_gdo_gdA_gdB_false_false : HE Ps ws gdq gdg gdo gdA gdB false false) (x_FLP_gdq_gda_gdb : FLP ws gdq gda gdb) (x_HD_y_gdR : AX 14 34 (HDp gdR) Ps ws y) (x_KP_y_gdU_gdV : AX 16 36 (KPp gdU gdV) Ps ws y) (x_ISA_y_gda_gdb : AX 23 44 (ISp gda gdb) Ps ws y) (x_NAM_y_gdL : AXL 20 41 (NMp gdL) Ps ws y) (x_KNM_y_gdLU_gdLV : AXL 22 43 (KNp gdLU gdLV) Ps ws y) (x_PDF_gdo_gdR_gdN : (PDO gdo gdR gdN)) (x_NLP_gdR_gdN_gdL : (NLC gdR gdN gdL)) (x_LKP_gda_gdA_gdU_gdNU_gdLU : (LKP gda gdA gdU gdNU gdLU)) (x_LKP_gdb_gdB_gdV_gdNV_gdLV : (LKP gdb gdB gdV gdNV gdLV)) (x_LF_x_gdf : FLD ws x 9 11 (.int gdf)) (x_MF_y_gdf : FLD ws y 10 10 (.int gdf)) {i : Int32} (r_i : RI i 0 3066) (hiL : i.toInt + 6 ≤ L) {C S : Nat} (hC : C + 6 ≤ 601024) (hSl : S + 125 ≤ 7293034) {ls : Array Slot} (hl : lv_has ls 7 [(4, .int i), (3, .ref o), (2, .ref y), (1, .ref x), (0, .ref b)]) {Q : State → Prop} (kx : ∀ (gh : Int) (gdT : Nat → Nat) (gdq : Nat → Nat) (gdg : Nat → Nat) (gdo : OS) (gdA : OS) (gdB : OS) (gda : Int32) (gdb : Int32) (gdR : Nat → Int32) (gdU : Nat → Int32) (gdV : Nat → Int32) (gdN : Nat → Nat) (gdNU : Nat → Nat) (gdNV : Nat → Nat) (gdL : Nat → Int64) (gdLU : Nat → Int64) (gdLV : Nat → Int64) (gdf : Int32) (Ps : PSI) (ws : va_W) (H : Heap) (locs : List Loc) (ls : Array Slot), WD D cy GG (fun q : Nat => s.heap.size ≤ q) s wrL waL [] [] Ps ws H locs → (x, 33) ∈ Ps → (y, 55) ∈ Ps → (o, 56) ∈ Ps → TLX ws x (gh) → TLM ws y (gh) → BYX Ps ws x gdT → BYM Ps ws y gdT → WKX Ps ws x → GWX ws x gdq → GQ Ps ws gdq gdg → HE Ps ws gdq gdg gdo gdA gdB false false → FLP ws gdq gda gdb → AX 14 34 (HDp gdR) Ps ws y → AX 16 36 (KPp gdU gdV) Ps ws y → AX 23 44 (ISp gda gdb) Ps ws y → AXL 20 41 (NMp gdL) Ps ws y → AXL 22 43 (KNp gdLU gdLV) Ps ws y → (PDO gdo gdR gdN) → (NLC gdR gdN gdL) → (LKP gda gdA gdU gdNU gdLU) → (LKP gdb gdB gdV gdNV gdLV) → FLD ws x 9 11 (.int gdf) → FLD ws y 10 10 (.int gdf) → lv_has ls 7 [(4, .int i), (3, .ref o), (2, .ref y), (1, .ref x), (0, .ref b)] → W p l e room_1 s m #[Value.ref b] below meth c H locs (C + 6) (S + 125) Q (F0 m 1335 ls [])) : W p l e room_1 s m #[Value.ref b] below meth c H locs C S Q (F0 m 1024 ls []) := by
  have hA : ∀ q : Nat, s.heap.size ≤ q → (fun q : Nat => s.heap.size ≤ q) q := fun _ h => h
  have hbA : ¬ (fun q : Nat => s.heap.size ≤ q) b := Nat.not_le.mpr hbl
  refine lv_aload_n hx hb dL_law_1024 rfl (lv_at hl 3 rfl) ?_
  refine lv_aload_n hx hb dL_law_1025 rfl (lv_at hl 4 rfl) ?_
  refine lv_iload hx hb dL_law_1026 (lv_at hl 0 rfl) ?_
  refine lv_iconst (v := 1) hx hb dL_law_1028 (by decide) ?_
  refine lv_iadd hx hb dL_law_1029 (lv_topi (fun v_1 e_v_1 => ?_))
  obtain ⟨t_v_1, r_v_1⟩ := tq_add (lo := 1) (hi := 3067) r_i rl_1 (by decide +kernel) e_v_1
  have t_v_1 : v_1.toInt = i.toInt + 1 := t_v_1
  refine va_sld hx hb hX hbl hbA hw.2.2.2.1 (i := v_1) (vp_in_iff.mpr ⟨by have k1 := r_v_1.1; omega, by have k1 := r_v_1.2; omega⟩) dL_law_1030 ?_
  obtain ⟨v_2, e_v_2⟩ : ∃ q9 : Int32, xs (Int32.toNatClampNeg v_1) = q9 := ⟨_, rfl⟩
  refine tI e_v_2 ?_
  have r_v_2 := ri_any v_2
  refine tk_i (va_runV (As := [.int v_2]) (rest := []) ⟨hx, hb, hml, hown, hts⟩ (c_X9_tag l D cy z H.size Ps ws hw.1 x v_2 h_x r_v_2) (cwV 1 hts (gV tw_829 tw_830 tw_831 tw_1 tw_832) rfl rfl rfl (by decide +kernel) ⟨Nat.le_of_ble_eq_true rfl, Nat.le_of_ble_eq_true rfl⟩) (tg_preVE hw hK hSD hSE hA (ci := 9) (q := (RX9, TX9, 15)) rfl h_x rfl) rfl rfl hl.1 rfl (lv_room (Nat.le_of_ble_eq_true rfl)) dL_law_1031 ⟨by show _ ≤ 601024; omega, by show _ ≤ 7293034; omega⟩) hw hA ⟨by decide, by decide⟩ (fun v_3 ws H locs hp_v_3 hw hF9 => ?_)
  have x_TLX_x_gh := TLX.over hF9 x_TLX_x_gh (by decide)
  have x_TLM_y_gh := TLM.over hF9 x_TLM_y_gh (by decide)
  have x_BYX_x_gdT := BYX.over hF9 x_BYX_x_gdT (by decide)
  have x_BYM_y_gdT := BYM.over hF9 x_BYM_y_gdT (by decide)
  have x_WKX_x := WKX.over hF9 x_WKX_x (by decide)
  have x_GWX_x_gdq := GWX.over hF9 x_GWX_x_gdq (by decide)
  have x_GQ_gdq_gdg := GQ.over hF9 x_GQ_gdq_gdg (by decide)
  have x_HE_gdq_gdg_gdo_gdA_gdB_false_false := HE.over hF9 x_HE_gdq_gdg_gdo_gdA_gdB_false_false (by decide)
  have x_FLP_gdq_gda_gdb := FLP.over hF9 x_FLP_gdq_gda_gdb (by decide)
  have x_HD_y_gdR := AX.over hF9 x_HD_y_gdR (by decide)
  have x_KP_y_gdU_gdV := AX.over hF9 x_KP_y_gdU_gdV (by decide)
  have x_ISA_y_gda_gdb := AX.over hF9 x_ISA_y_gda_gdb (by decide)
  have x_NAM_y_gdL := AXL.over hF9 x_NAM_y_gdL (by decide)
  have x_KNM_y_gdLU_gdLV := AXL.over hF9 x_KNM_y_gdLU_gdLV (by decide)
  have x_LF_x_gdf := FLD.over hF9 x_LF_x_gdf (by decide)
  have x_MF_y_gdf := FLD.over hF9 x_MF_y_gdf (by decide)
  have r_v_3 : RI v_3 (-1) 26 := hp_v_3.1
  refine lv_pop hx hb dL_law_1034 rfl ?_
  refine lv_aload_n hx hb dL_law_1035 rfl (lv_at hl 2 rfl) ?_
  refine lv_aload_n hx hb dL_law_1036 rfl (lv_at hl 4 rfl) ?_
  refine lv_iload hx hb dL_law_1037 (lv_at hl 0 rfl) ?_
  refine lv_iconst (v := 1) hx hb dL_law_1039 (by decide) ?_
  refine lv_iadd hx hb dL_law_1040 (lv_topi (fun v_4 e_v_4 => ?_))
  obtain ⟨t_v_4, r_v_4⟩ := tq_add (lo := 1) (hi := 3067) r_i rl_1 (by decide +kernel) e_v_4
  have t_v_4 : v_4.toInt = i.toInt + 1 := t_v_4
  refine va_sld hx hb hX hbl hbA hw.2.2.2.1 (i := v_4) (vp_in_iff.mpr ⟨by have k1 := r_v_4.1; omega, by have k1 := r_v_4.2; omega⟩) dL_law_1041 ?_
  refine tI (y := v_2) (by rw [e_v_4, ← e_v_1]; exact e_v_2) ?_
  refine tk_i (va_runV (As := [.int v_2]) (rest := []) ⟨hx, hb, hml, hown, hts⟩ (c_X10_tag l D cy z H.size Ps ws hw.1 y v_2 h_y r_v_2) (cwV 1 hts (gV tw_1666 tw_1667 tw_1668 tw_15 tw_1669) rfl rfl rfl (by decide +kernel) ⟨Nat.le_of_ble_eq_true rfl, Nat.le_of_ble_eq_true rfl⟩) (tg_preV hw hK hSD hA (ci := 10) (q := (RX10, TX10, 49)) rfl h_y rfl) rfl rfl hl.1 rfl (lv_room (Nat.le_of_ble_eq_true rfl)) dL_law_1042 ⟨by show _ ≤ 601024; omega, by show _ ≤ 7293034; omega⟩) hw hA ⟨by decide, by decide⟩ (fun v_6 ws H locs hp_v_6 hw hF9 => ?_)
  have x_TLX_x_gh := TLX.over hF9 x_TLX_x_gh (by decide)
  have x_TLM_y_gh := TLM.over hF9 x_TLM_y_gh (by decide)
  have x_BYX_x_gdT := BYX.over hF9 x_BYX_x_gdT (by decide)
  have x_BYM_y_gdT := BYM.over hF9 x_BYM_y_gdT (by decide)
  have x_WKX_x := WKX.over hF9 x_WKX_x (by decide)
  have x_GWX_x_gdq := GWX.over hF9 x_GWX_x_gdq (by decide)
  have x_GQ_gdq_gdg := GQ.over hF9 x_GQ_gdq_gdg (by decide)
  have x_HE_gdq_gdg_gdo_gdA_gdB_false_false := HE.over hF9 x_HE_gdq_gdg_gdo_gdA_gdB_false_false (by decide)
  have x_FLP_gdq_gda_gdb := FLP.over hF9 x_FLP_gdq_gda_gdb (by decide)
  have x_HD_y_gdR := AX.over hF9 x_HD_y_gdR (by decide)
  have x_KP_y_gdU_gdV := AX.over hF9 x_KP_y_gdU_gdV (by decide)
  have x_ISA_y_gda_gdb := AX.over hF9 x_ISA_y_gda_gdb (by decide)
  have x_NAM_y_gdL := AXL.over hF9 x_NAM_y_gdL (by decide)
  have x_KNM_y_gdLU_gdLV := AXL.over hF9 x_KNM_y_gdLU_gdLV (by decide)
  have x_LF_x_gdf := FLD.over hF9 x_LF_x_gdf (by decide)
  have x_MF_y_gdf := FLD.over hF9 x_MF_y_gdf (by decide)
  have r_v_6 : RI v_6 (-1) 40 := hp_v_6.1
  refine lv_pop hx hb dL_law_1045 rfl ?_
  refine lv_goto (tgt := 1335) hx hb dL_law_1046 (by decide) ?_
  refine W.widen (k := C + 6) (n := S + 125) (by omega) (by omega) ?_
  exact kx (gh) gdT gdq gdg gdo gdA gdB gda gdb gdR gdU gdV gdN gdNU gdNV gdL gdLU gdLV gdf _ ws _ _ ls hw h_x h_y h_o x_TLX_x_gh x_TLM_y_gh x_BYX_x_gdT x_BYM_y_gdT x_WKX_x x_GWX_x_gdq x_GQ_gdq_gdg x_HE_gdq_gdg_gdo_gdA_gdB_false_false x_FLP_gdq_gda_gdb x_HD_y_gdR x_KP_y_gdU_gdV x_ISA_y_gda_gdb x_NAM_y_gdL x_KNM_y_gdLU_gdLV x_PDF_gdo_gdR_gdN x_NLP_gdR_gdN_gdL x_LKP_gda_gdA_gdU_gdNU_gdLU x_LKP_gdb_gdB_gdV_gdNV_gdLV x_LF_x_gdf x_MF_y_gdf (lv_sub hl [0, 1, 2, 3, 4] rfl)
set_option maxHeartbeats 4000000 in
set_option maxRecDepth 100000 in
theorem op31 {p : Program} {e : Env} {s : State} {m : MethodId} {below : List Frame} {meth : Method} {c : Code} (l : Launch) (hl0 : l.stackTraces = false) {b L : Nat} {xs : Nat → Int32} (hx : p.tables.exec = Jvm.exec) (hb : c.code = code) (hml : c.maxLocals = 7) (hown : s.vm.findClass RL = some m.cls) (hts : ∀ w ∈ gT, w.before #[Value.ref b] s = true) (hX : va_X b L xs s s.heap) (hbl : b < s.heap.size) (D : va_G) (cy : Nat → ClassId) (z : Nat → Nat) (hK : va_K D classes (TY cy) s) (hSD : SD z (fun q : Nat => s.heap.size ≤ q) s) (hSE : SE z (fun q : Nat => s.heap.size ≤ q) s) {Ps : PSI} {ws : va_W} {H : Heap} {locs : List Loc} {x y o : Nat} (hw : WD D cy GG (fun q : Nat => s.heap.size ≤ q) s wrL waL [] [] Ps ws H locs) (h_x : (x, 33) ∈ Ps) (h_y : (y, 55) ∈ Ps) (h_o : (o, 56) ∈ Ps) {gh : Int} {gdT : Nat → Nat} {gdq : Nat → Nat} {gdg : Nat → Nat} {gdo : OS} {gdA : OS} {gdB : OS} {gda : Int32} {gdb : Int32} {gdR : Nat → Int32} {gdU : Nat → Int32} {gdV : Nat → Int32} {gdN : Nat → Nat} {gdNU : Nat → Nat} {gdNV : Nat → Nat} {gdL : Nat → Int64} {gdLU : Nat → Int64} {gdLV : Nat → Int64} {gdf : Int32} (x_TLX_x_gh : TLX ws x (gh)) (x_TLM_y_gh : TLM ws y (gh)) (x_BYX_x_gdT : BYX Ps ws x gdT) (x_BYM_y_gdT : BYM Ps ws y gdT) (x_WKX_x : WKX Ps ws x) (x_GWX_x_gdq : GWX ws x gdq) (x_GQ_gdq_gdg : GQ Ps ws gdq gdg) (x_HE_gdq_gdg_gdo_gdA_gdB_false_false : HE Ps ws gdq gdg gdo gdA gdB false false) (x_FLP_gdq_gda_gdb : FLP ws gdq gda gdb) (x_HD_y_gdR : AX 14 34 (HDp gdR) Ps ws y) (x_KP_y_gdU_gdV : AX 16 36 (KPp gdU gdV) Ps ws y) (x_ISA_y_gda_gdb : AX 23 44 (ISp gda gdb) Ps ws y) (x_NAM_y_gdL : AXL 20 41 (NMp gdL) Ps ws y) (x_KNM_y_gdLU_gdLV : AXL 22 43 (KNp gdLU gdLV) Ps ws y) (x_PDF_gdo_gdR_gdN : (PDO gdo gdR gdN)) (x_NLP_gdR_gdN_gdL : (NLC gdR gdN gdL)) (x_LKP_gda_gdA_gdU_gdNU_gdLU : (LKP gda gdA gdU gdNU gdLU)) (x_LKP_gdb_gdB_gdV_gdNV_gdLV : (LKP gdb gdB gdV gdNV gdLV)) (x_LF_x_gdf : FLD ws x 9 11 (.int gdf)) (x_MF_y_gdf : FLD ws y 10 10 (.int gdf)) {i : Int32} (r_i : RI i 0 3066) (hiL : i.toInt + 6 ≤ L) {C S : Nat} (hC : C + 6 ≤ 601024) (hSl : S + 125 ≤ 7293034) {ls : Array Slot} (hl : lv_has ls 7 [(4, .int i), (3, .ref o), (2, .ref y), (1, .ref x), (0, .ref b)]) {Q : State → Prop} (kx : ∀ (gh : Int) (gdT : Nat → Nat) (gdq : Nat → Nat) (gdg : Nat → Nat) (gdo : OS) (gdA : OS) (gdB : OS) (gda : Int32) (gdb : Int32) (gdR : Nat → Int32) (gdU : Nat → Int32) (gdV : Nat → Int32) (gdN : Nat → Nat) (gdNU : Nat → Nat) (gdNV : Nat → Nat) (gdL : Nat → Int64) (gdLU : Nat → Int64) (gdLV : Nat → Int64) (gdf : Int32) (Ps : PSI) (ws : va_W) (H : Heap) (locs : List Loc) (ls : Array Slot), WD D cy GG (fun q : Nat => s.heap.size ≤ q) s wrL waL [] [] Ps ws H locs → (x, 33) ∈ Ps → (y, 55) ∈ Ps → (o, 56) ∈ Ps → TLX ws x (gh) → TLM ws y (gh) → BYX Ps ws x gdT → BYM Ps ws y gdT → WKX Ps ws x → GWX ws x gdq → GQ Ps ws gdq gdg → HE Ps ws gdq gdg gdo gdA gdB false false → FLP ws gdq gda gdb → AX 14 34 (HDp gdR) Ps ws y → AX 16 36 (KPp gdU gdV) Ps ws y → AX 23 44 (ISp gda gdb) Ps ws y → AXL 20 41 (NMp gdL) Ps ws y → AXL 22 43 (KNp gdLU gdLV) Ps ws y → (PDO gdo gdR gdN) → (NLC gdR gdN gdL) → (LKP gda gdA gdU gdNU gdLU) → (LKP gdb gdB gdV gdNV gdLV) → FLD ws x 9 11 (.int gdf) → FLD ws y 10 10 (.int gdf) → lv_has ls 7 [(4, .int i), (3, .ref o), (2, .ref y), (1, .ref x), (0, .ref b)] → W p l e room_1 s m #[Value.ref b] below meth c H locs (C + 6) (S + 125) Q (F0 m 1335 ls [])) : W p l e room_1 s m #[Value.ref b] below meth c H locs C S Q (F0 m 1049 ls []) := by
  have hA : ∀ q : Nat, s.heap.size ≤ q → (fun q : Nat => s.heap.size ≤ q) q := fun _ h => h
  have hbA : ¬ (fun q : Nat => s.heap.size ≤ q) b := Nat.not_le.mpr hbl
  refine lv_aload_n hx hb dL_law_1049 rfl (lv_at hl 3 rfl) ?_
  refine lv_aload_n hx hb dL_law_1050 rfl (lv_at hl 4 rfl) ?_
  refine lv_iload hx hb dL_law_1051 (lv_at hl 0 rfl) ?_
  refine lv_iconst (v := 1) hx hb dL_law_1053 (by decide) ?_
  refine lv_iadd hx hb dL_law_1054 (lv_topi (fun v_1 e_v_1 => ?_))
  obtain ⟨t_v_1, r_v_1⟩ := tq_add (lo := 1) (hi := 3067) r_i rl_1 (by decide +kernel) e_v_1
  have t_v_1 : v_1.toInt = i.toInt + 1 := t_v_1
  refine va_sld hx hb hX hbl hbA hw.2.2.2.1 (i := v_1) (vp_in_iff.mpr ⟨by have k1 := r_v_1.1; omega, by have k1 := r_v_1.2; omega⟩) dL_law_1055 ?_
  obtain ⟨v_2, e_v_2⟩ : ∃ q9 : Int32, xs (Int32.toNatClampNeg v_1) = q9 := ⟨_, rfl⟩
  refine tI e_v_2 ?_
  have r_v_2 := ri_any v_2
  refine tk_ir (va_runV (As := [.int v_2]) (rest := []) ⟨hx, hb, hml, hown, hts⟩ (c_X9_byteAt l D cy z H.size Ps ws hw.1 x v_2 h_x r_v_2) (cwV 1 hts (gV tw_854 tw_855 tw_856 tw_1 tw_857) rfl rfl rfl (by decide +kernel) ⟨Nat.le_of_ble_eq_true rfl, Nat.le_of_ble_eq_true rfl⟩) (tg_preV hw hK hSD hA (ci := 9) (q := (RX9, TX9, 15)) rfl h_x rfl) rfl rfl hl.1 rfl (lv_room (Nat.le_of_ble_eq_true rfl)) dL_law_1056 ⟨by show _ ≤ 601024; omega, by show _ ≤ 7293034; omega⟩) hw hA (fun v_3  H locs hp_v_3 hw => ?_)
  have r_v_3 : RI v_3 (-128) 127 := hp_v_3.1
  refine lv_pop hx hb dL_law_1059 rfl ?_
  refine lv_aload_n hx hb dL_law_1060 rfl (lv_at hl 2 rfl) ?_
  refine lv_aload_n hx hb dL_law_1061 rfl (lv_at hl 4 rfl) ?_
  refine lv_iload hx hb dL_law_1062 (lv_at hl 0 rfl) ?_
  refine lv_iconst (v := 1) hx hb dL_law_1064 (by decide) ?_
  refine lv_iadd hx hb dL_law_1065 (lv_topi (fun v_4 e_v_4 => ?_))
  obtain ⟨t_v_4, r_v_4⟩ := tq_add (lo := 1) (hi := 3067) r_i rl_1 (by decide +kernel) e_v_4
  have t_v_4 : v_4.toInt = i.toInt + 1 := t_v_4
  refine va_sld hx hb hX hbl hbA hw.2.2.2.1 (i := v_4) (vp_in_iff.mpr ⟨by have k1 := r_v_4.1; omega, by have k1 := r_v_4.2; omega⟩) dL_law_1066 ?_
  refine tI (y := v_2) (by rw [e_v_4, ← e_v_1]; exact e_v_2) ?_
  refine tk_i (va_runV (As := [.int v_2]) (rest := []) ⟨hx, hb, hml, hown, hts⟩ (c_X10_byteAt l D cy z H.size Ps ws hw.1 y v_2 h_y r_v_2) (cwV 1 hts (gV tw_1682 tw_1683 tw_1684 tw_15 tw_1685) rfl rfl rfl (by decide +kernel) ⟨Nat.le_of_ble_eq_true rfl, Nat.le_of_ble_eq_true rfl⟩) (tg_preV hw hK hSD hA (ci := 10) (q := (RX10, TX10, 49)) rfl h_y rfl) rfl rfl hl.1 rfl (lv_room (Nat.le_of_ble_eq_true rfl)) dL_law_1067 ⟨by show _ ≤ 601024; omega, by show _ ≤ 7293034; omega⟩) hw hA ⟨by decide, by decide⟩ (fun v_6 ws H locs hp_v_6 hw hF9 => ?_)
  have x_TLX_x_gh := TLX.over hF9 x_TLX_x_gh (by decide)
  have x_TLM_y_gh := TLM.over hF9 x_TLM_y_gh (by decide)
  have x_BYX_x_gdT := BYX.over hF9 x_BYX_x_gdT (by decide)
  have x_BYM_y_gdT := BYM.over hF9 x_BYM_y_gdT (by decide)
  have x_WKX_x := WKX.over hF9 x_WKX_x (by decide)
  have x_GWX_x_gdq := GWX.over hF9 x_GWX_x_gdq (by decide)
  have x_GQ_gdq_gdg := GQ.over hF9 x_GQ_gdq_gdg (by decide)
  have x_HE_gdq_gdg_gdo_gdA_gdB_false_false := HE.over hF9 x_HE_gdq_gdg_gdo_gdA_gdB_false_false (by decide)
  have x_FLP_gdq_gda_gdb := FLP.over hF9 x_FLP_gdq_gda_gdb (by decide)
  have x_HD_y_gdR := AX.over hF9 x_HD_y_gdR (by decide)
  have x_KP_y_gdU_gdV := AX.over hF9 x_KP_y_gdU_gdV (by decide)
  have x_ISA_y_gda_gdb := AX.over hF9 x_ISA_y_gda_gdb (by decide)
  have x_NAM_y_gdL := AXL.over hF9 x_NAM_y_gdL (by decide)
  have x_KNM_y_gdLU_gdLV := AXL.over hF9 x_KNM_y_gdLU_gdLV (by decide)
  have x_LF_x_gdf := FLD.over hF9 x_LF_x_gdf (by decide)
  have x_MF_y_gdf := FLD.over hF9 x_MF_y_gdf (by decide)
  have r_v_6 : RI v_6 (-2147483648) 2147483647 := hp_v_6.1
  refine lv_pop hx hb dL_law_1070 rfl ?_
  refine lv_goto (tgt := 1335) hx hb dL_law_1071 (by decide) ?_
  refine W.widen (k := C + 6) (n := S + 125) (by omega) (by omega) ?_
  exact kx (gh) gdT gdq gdg gdo gdA gdB gda gdb gdR gdU gdV gdN gdNU gdNV gdL gdLU gdLV gdf _ ws _ _ ls hw h_x h_y h_o x_TLX_x_gh x_TLM_y_gh x_BYX_x_gdT x_BYM_y_gdT x_WKX_x x_GWX_x_gdq x_GQ_gdq_gdg x_HE_gdq_gdg_gdo_gdA_gdB_false_false x_FLP_gdq_gda_gdb x_HD_y_gdR x_KP_y_gdU_gdV x_ISA_y_gda_gdb x_NAM_y_gdL x_KNM_y_gdLU_gdLV x_PDF_gdo_gdR_gdN x_NLP_gdR_gdN_gdL x_LKP_gda_gdA_gdU_gdNU_gdLU x_LKP_gdb_gdB_gdV_gdNV_gdLV x_LF_x_gdf x_MF_y_gdf (lv_sub hl [0, 1, 2, 3, 4] rfl)
set_option maxHeartbeats 4000000 in
set_option maxRecDepth 100000 in
theorem op32 {p : Program} {e : Env} {s : State} {m : MethodId} {below : List Frame} {meth : Method} {c : Code} (l : Launch) (hl0 : l.stackTraces = false) {b L : Nat} {xs : Nat → Int32} (hx : p.tables.exec = Jvm.exec) (hb : c.code = code) (hml : c.maxLocals = 7) (hown : s.vm.findClass RL = some m.cls) (hts : ∀ w ∈ gT, w.before #[Value.ref b] s = true) (hX : va_X b L xs s s.heap) (hbl : b < s.heap.size) (D : va_G) (cy : Nat → ClassId) (z : Nat → Nat) (hK : va_K D classes (TY cy) s) (hSD : SD z (fun q : Nat => s.heap.size ≤ q) s) (hSE : SE z (fun q : Nat => s.heap.size ≤ q) s) {Ps : PSI} {ws : va_W} {H : Heap} {locs : List Loc} {x y o : Nat} (hw : WD D cy GG (fun q : Nat => s.heap.size ≤ q) s wrL waL [] [] Ps ws H locs) (h_x : (x, 33) ∈ Ps) (h_y : (y, 55) ∈ Ps) (h_o : (o, 56) ∈ Ps) {gh : Int} {gdT : Nat → Nat} {gdq : Nat → Nat} {gdg : Nat → Nat} {gdo : OS} {gdA : OS} {gdB : OS} {gda : Int32} {gdb : Int32} {gdR : Nat → Int32} {gdU : Nat → Int32} {gdV : Nat → Int32} {gdN : Nat → Nat} {gdNU : Nat → Nat} {gdNV : Nat → Nat} {gdL : Nat → Int64} {gdLU : Nat → Int64} {gdLV : Nat → Int64} {gdf : Int32} (x_TLX_x_gh : TLX ws x (gh)) (x_TLM_y_gh : TLM ws y (gh)) (x_BYX_x_gdT : BYX Ps ws x gdT) (x_BYM_y_gdT : BYM Ps ws y gdT) (x_WKX_x : WKX Ps ws x) (x_GWX_x_gdq : GWX ws x gdq) (x_GQ_gdq_gdg : GQ Ps ws gdq gdg) (x_HE_gdq_gdg_gdo_gdA_gdB_false_false : HE Ps ws gdq gdg gdo gdA gdB false false) (x_FLP_gdq_gda_gdb : FLP ws gdq gda gdb) (x_HD_y_gdR : AX 14 34 (HDp gdR) Ps ws y) (x_KP_y_gdU_gdV : AX 16 36 (KPp gdU gdV) Ps ws y) (x_ISA_y_gda_gdb : AX 23 44 (ISp gda gdb) Ps ws y) (x_NAM_y_gdL : AXL 20 41 (NMp gdL) Ps ws y) (x_KNM_y_gdLU_gdLV : AXL 22 43 (KNp gdLU gdLV) Ps ws y) (x_PDF_gdo_gdR_gdN : (PDO gdo gdR gdN)) (x_NLP_gdR_gdN_gdL : (NLC gdR gdN gdL)) (x_LKP_gda_gdA_gdU_gdNU_gdLU : (LKP gda gdA gdU gdNU gdLU)) (x_LKP_gdb_gdB_gdV_gdNV_gdLV : (LKP gdb gdB gdV gdNV gdLV)) (x_LF_x_gdf : FLD ws x 9 11 (.int gdf)) (x_MF_y_gdf : FLD ws y 10 10 (.int gdf)) {i : Int32} (r_i : RI i 0 3066) (hiL : i.toInt + 6 ≤ L) {C S : Nat} (hC : C + 6 ≤ 601024) (hSl : S + 125 ≤ 7293034) {ls : Array Slot} (hl : lv_has ls 7 [(4, .int i), (3, .ref o), (2, .ref y), (1, .ref x), (0, .ref b)]) {Q : State → Prop} (kx : ∀ (gh : Int) (gdT : Nat → Nat) (gdq : Nat → Nat) (gdg : Nat → Nat) (gdo : OS) (gdA : OS) (gdB : OS) (gda : Int32) (gdb : Int32) (gdR : Nat → Int32) (gdU : Nat → Int32) (gdV : Nat → Int32) (gdN : Nat → Nat) (gdNU : Nat → Nat) (gdNV : Nat → Nat) (gdL : Nat → Int64) (gdLU : Nat → Int64) (gdLV : Nat → Int64) (gdf : Int32) (Ps : PSI) (ws : va_W) (H : Heap) (locs : List Loc) (ls : Array Slot), WD D cy GG (fun q : Nat => s.heap.size ≤ q) s wrL waL [] [] Ps ws H locs → (x, 33) ∈ Ps → (y, 55) ∈ Ps → (o, 56) ∈ Ps → TLX ws x (gh) → TLM ws y (gh) → BYX Ps ws x gdT → BYM Ps ws y gdT → WKX Ps ws x → GWX ws x gdq → GQ Ps ws gdq gdg → HE Ps ws gdq gdg gdo gdA gdB false false → FLP ws gdq gda gdb → AX 14 34 (HDp gdR) Ps ws y → AX 16 36 (KPp gdU gdV) Ps ws y → AX 23 44 (ISp gda gdb) Ps ws y → AXL 20 41 (NMp gdL) Ps ws y → AXL 22 43 (KNp gdLU gdLV) Ps ws y → (PDO gdo gdR gdN) → (NLC gdR gdN gdL) → (LKP gda gdA gdU gdNU gdLU) → (LKP gdb gdB gdV gdNV gdLV) → FLD ws x 9 11 (.int gdf) → FLD ws y 10 10 (.int gdf) → lv_has ls 7 [(4, .int i), (3, .ref o), (2, .ref y), (1, .ref x), (0, .ref b)] → W p l e room_1 s m #[Value.ref b] below meth c H locs (C + 6) (S + 125) Q (F0 m 1335 ls [])) : W p l e room_1 s m #[Value.ref b] below meth c H locs C S Q (F0 m 1074 ls []) := by
  have hA : ∀ q : Nat, s.heap.size ≤ q → (fun q : Nat => s.heap.size ≤ q) q := fun _ h => h
  have hbA : ¬ (fun q : Nat => s.heap.size ≤ q) b := Nat.not_le.mpr hbl
  refine lv_aload_n hx hb dL_law_1074 rfl (lv_at hl 3 rfl) ?_
  refine lv_aload_n hx hb dL_law_1075 rfl (lv_at hl 4 rfl) ?_
  refine lv_iload hx hb dL_law_1076 (lv_at hl 0 rfl) ?_
  refine lv_iconst (v := 1) hx hb dL_law_1078 (by decide) ?_
  refine lv_iadd hx hb dL_law_1079 (lv_topi (fun v_1 e_v_1 => ?_))
  obtain ⟨t_v_1, r_v_1⟩ := tq_add (lo := 1) (hi := 3067) r_i rl_1 (by decide +kernel) e_v_1
  have t_v_1 : v_1.toInt = i.toInt + 1 := t_v_1
  refine va_sld hx hb hX hbl hbA hw.2.2.2.1 (i := v_1) (vp_in_iff.mpr ⟨by have k1 := r_v_1.1; omega, by have k1 := r_v_1.2; omega⟩) dL_law_1080 ?_
  obtain ⟨v_2, e_v_2⟩ : ∃ q9 : Int32, xs (Int32.toNatClampNeg v_1) = q9 := ⟨_, rfl⟩
  refine tI e_v_2 ?_
  have r_v_2 := ri_any v_2
  refine lv_aload_n hx hb dL_law_1081 rfl (lv_at hl 4 rfl) ?_
  refine lv_iload hx hb dL_law_1082 (lv_at hl 0 rfl) ?_
  refine lv_iconst (v := 2) hx hb dL_law_1084 (by decide) ?_
  refine lv_iadd hx hb dL_law_1085 (lv_topi (fun v_3 e_v_3 => ?_))
  obtain ⟨t_v_3, r_v_3⟩ := tq_add (lo := 2) (hi := 3068) r_i rl_2 (by decide +kernel) e_v_3
  have t_v_3 : v_3.toInt = i.toInt + 2 := t_v_3
  refine va_sld hx hb hX hbl hbA hw.2.2.2.1 (i := v_3) (vp_in_iff.mpr ⟨by have k1 := r_v_3.1; omega, by have k1 := r_v_3.2; omega⟩) dL_law_1086 ?_
  obtain ⟨v_4, e_v_4⟩ : ∃ q9 : Int32, xs (Int32.toNatClampNeg v_3) = q9 := ⟨_, rfl⟩
  refine tI e_v_4 ?_
  have r_v_4 := ri_any v_4
  refine tk_i (va_runV (As := [.int v_2, .int v_4]) (rest := []) ⟨hx, hb, hml, hown, hts⟩ (c_X9_drawn__1 l D cy z H.size Ps ws hw.1 x v_2 v_4 (gdq) (gdg) (gdo) (gdA) (gdB) h_x r_v_2 r_v_4 x_GWX_x_gdq x_GQ_gdq_gdg x_HE_gdq_gdg_gdo_gdA_gdB_false_false) (cwV 2 hts (gV tw_858 tw_859 tw_860 tw_1 tw_861) rfl rfl rfl (by decide +kernel) ⟨Nat.le_of_ble_eq_true rfl, Nat.le_of_ble_eq_true rfl⟩) (tg_preV hw hK hSD hA (ci := 9) (q := (RX9, TX9, 15)) rfl h_x rfl) rfl rfl hl.1 rfl (lv_room (Nat.le_of_ble_eq_true rfl)) dL_law_1087 ⟨by show _ ≤ 601024; omega, by show _ ≤ 7293034; omega⟩) hw hA ⟨by decide, by decide⟩ (fun v_5 ws H locs hp_v_5 hw hF9 => ?_)
  have x_TLX_x_gh := TLX.over hF9 x_TLX_x_gh (by decide)
  have x_TLM_y_gh := TLM.over hF9 x_TLM_y_gh (by decide)
  have x_BYX_x_gdT := BYX.over hF9 x_BYX_x_gdT (by decide)
  have x_BYM_y_gdT := BYM.over hF9 x_BYM_y_gdT (by decide)
  have x_WKX_x := WKX.over hF9 x_WKX_x (by decide)
  have x_GWX_x_gdq := GWX.over hF9 x_GWX_x_gdq (by decide)
  have x_GQ_gdq_gdg := GQ.over hF9 x_GQ_gdq_gdg (by decide)
  have x_FLP_gdq_gda_gdb := FLP.over hF9 x_FLP_gdq_gda_gdb (by decide)
  have x_HD_y_gdR := AX.over hF9 x_HD_y_gdR (by decide)
  have x_KP_y_gdU_gdV := AX.over hF9 x_KP_y_gdU_gdV (by decide)
  have x_ISA_y_gda_gdb := AX.over hF9 x_ISA_y_gda_gdb (by decide)
  have x_NAM_y_gdL := AXL.over hF9 x_NAM_y_gdL (by decide)
  have x_KNM_y_gdLU_gdLV := AXL.over hF9 x_KNM_y_gdLU_gdLV (by decide)
  have x_LF_x_gdf := FLD.over hF9 x_LF_x_gdf (by decide)
  have x_MF_y_gdf := FLD.over hF9 x_MF_y_gdf (by decide)
  have r_v_5 : RI v_5 (-2147483648) 2147483647 := hp_v_5.1
  have x_HE_gdq_gdg_gdo_gdA_gdB_false_false := hp_v_5.2.2.2.1.1
  refine lv_pop hx hb dL_law_1090 rfl ?_
  refine lv_aload_n hx hb dL_law_1091 rfl (lv_at hl 2 rfl) ?_
  refine lv_aload_n hx hb dL_law_1092 rfl (lv_at hl 4 rfl) ?_
  refine lv_iload hx hb dL_law_1093 (lv_at hl 0 rfl) ?_
  refine lv_iconst (v := 1) hx hb dL_law_1095 (by decide) ?_
  refine lv_iadd hx hb dL_law_1096 (lv_topi (fun v_6 e_v_6 => ?_))
  obtain ⟨t_v_6, r_v_6⟩ := tq_add (lo := 1) (hi := 3067) r_i rl_1 (by decide +kernel) e_v_6
  have t_v_6 : v_6.toInt = i.toInt + 1 := t_v_6
  refine va_sld hx hb hX hbl hbA hw.2.2.2.1 (i := v_6) (vp_in_iff.mpr ⟨by have k1 := r_v_6.1; omega, by have k1 := r_v_6.2; omega⟩) dL_law_1097 ?_
  refine tI (y := v_2) (by rw [e_v_6, ← e_v_1]; exact e_v_2) ?_
  refine lv_aload_n hx hb dL_law_1098 rfl (lv_at hl 4 rfl) ?_
  refine lv_iload hx hb dL_law_1099 (lv_at hl 0 rfl) ?_
  refine lv_iconst (v := 2) hx hb dL_law_1101 (by decide) ?_
  refine lv_iadd hx hb dL_law_1102 (lv_topi (fun v_8 e_v_8 => ?_))
  obtain ⟨t_v_8, r_v_8⟩ := tq_add (lo := 2) (hi := 3068) r_i rl_2 (by decide +kernel) e_v_8
  have t_v_8 : v_8.toInt = i.toInt + 2 := t_v_8
  refine va_sld hx hb hX hbl hbA hw.2.2.2.1 (i := v_8) (vp_in_iff.mpr ⟨by have k1 := r_v_8.1; omega, by have k1 := r_v_8.2; omega⟩) dL_law_1103 ?_
  refine tI (y := v_4) (by rw [e_v_8, ← e_v_3]; exact e_v_4) ?_
  refine tk_i (va_runV (As := [.int v_2, .int v_4]) (rest := []) ⟨hx, hb, hml, hown, hts⟩ (c_X10_drawn__1 l D cy z H.size Ps ws hw.1 y v_2 v_4 (gdR) h_y r_v_2 r_v_4 x_HD_y_gdR) (cwV 2 hts (gV tw_1686 tw_1687 tw_1688 tw_15 tw_1689) rfl rfl rfl (by decide +kernel) ⟨Nat.le_of_ble_eq_true rfl, Nat.le_of_ble_eq_true rfl⟩) (tg_preV hw hK hSD hA (ci := 10) (q := (RX10, TX10, 49)) rfl h_y rfl) rfl rfl hl.1 rfl (lv_room (Nat.le_of_ble_eq_true rfl)) dL_law_1104 ⟨by show _ ≤ 601024; omega, by show _ ≤ 7293034; omega⟩) hw hA ⟨by decide, by decide⟩ (fun v_10 ws H locs hp_v_10 hw hF9 => ?_)
  have x_TLX_x_gh := TLX.over hF9 x_TLX_x_gh (by decide)
  have x_TLM_y_gh := TLM.over hF9 x_TLM_y_gh (by decide)
  have x_BYX_x_gdT := BYX.over hF9 x_BYX_x_gdT (by decide)
  have x_BYM_y_gdT := BYM.over hF9 x_BYM_y_gdT (by decide)
  have x_WKX_x := WKX.over hF9 x_WKX_x (by decide)
  have x_GWX_x_gdq := GWX.over hF9 x_GWX_x_gdq (by decide)
  have x_GQ_gdq_gdg := GQ.over hF9 x_GQ_gdq_gdg (by decide)
  have x_FLP_gdq_gda_gdb := FLP.over hF9 x_FLP_gdq_gda_gdb (by decide)
  have x_KP_y_gdU_gdV := AX.over hF9 x_KP_y_gdU_gdV (by decide)
  have x_ISA_y_gda_gdb := AX.over hF9 x_ISA_y_gda_gdb (by decide)
  have x_NAM_y_gdL := AXL.over hF9 x_NAM_y_gdL (by decide)
  have x_KNM_y_gdLU_gdLV := AXL.over hF9 x_KNM_y_gdLU_gdLV (by decide)
  have x_LF_x_gdf := FLD.over hF9 x_LF_x_gdf (by decide)
  have x_MF_y_gdf := FLD.over hF9 x_MF_y_gdf (by decide)
  have x_HE_gdq_gdg_gdo_gdA_gdB_false_false := HE.over hF9 x_HE_gdq_gdg_gdo_gdA_gdB_false_false (by decide)
  obtain ⟨x_HD_y_gdR, hp_v_10⟩ := hp_v_10
  have r_v_10 : RI v_10 (-2147483648) 2147483647 := hp_v_10.1
  refine lv_pop hx hb dL_law_1107 rfl ?_
  refine lv_goto (tgt := 1335) hx hb dL_law_1108 (by decide) ?_
  refine W.widen (k := C + 6) (n := S + 125) (by omega) (by omega) ?_
  exact kx (gh) gdT gdq gdg gdo gdA gdB gda gdb gdR gdU gdV gdN gdNU gdNV gdL gdLU gdLV gdf _ ws _ _ ls hw h_x h_y h_o x_TLX_x_gh x_TLM_y_gh x_BYX_x_gdT x_BYM_y_gdT x_WKX_x x_GWX_x_gdq x_GQ_gdq_gdg x_HE_gdq_gdg_gdo_gdA_gdB_false_false x_FLP_gdq_gda_gdb x_HD_y_gdR x_KP_y_gdU_gdV x_ISA_y_gda_gdb x_NAM_y_gdL x_KNM_y_gdLU_gdLV x_PDF_gdo_gdR_gdN x_NLP_gdR_gdN_gdL x_LKP_gda_gdA_gdU_gdNU_gdLU x_LKP_gdb_gdB_gdV_gdNV_gdLV x_LF_x_gdf x_MF_y_gdf (lv_sub hl [0, 1, 2, 3, 4] rfl)
set_option maxHeartbeats 4000000 in
set_option maxRecDepth 100000 in
theorem op33 {p : Program} {e : Env} {s : State} {m : MethodId} {below : List Frame} {meth : Method} {c : Code} (l : Launch) (hl0 : l.stackTraces = false) {b L : Nat} {xs : Nat → Int32} (hx : p.tables.exec = Jvm.exec) (hb : c.code = code) (hml : c.maxLocals = 7) (hown : s.vm.findClass RL = some m.cls) (hts : ∀ w ∈ gT, w.before #[Value.ref b] s = true) (hX : va_X b L xs s s.heap) (hbl : b < s.heap.size) (D : va_G) (cy : Nat → ClassId) (z : Nat → Nat) (hK : va_K D classes (TY cy) s) (hSD : SD z (fun q : Nat => s.heap.size ≤ q) s) (hSE : SE z (fun q : Nat => s.heap.size ≤ q) s) {Ps : PSI} {ws : va_W} {H : Heap} {locs : List Loc} {x y o : Nat} (hw : WD D cy GG (fun q : Nat => s.heap.size ≤ q) s wrL waL [] [] Ps ws H locs) (h_x : (x, 33) ∈ Ps) (h_y : (y, 55) ∈ Ps) (h_o : (o, 56) ∈ Ps) {gh : Int} {gdT : Nat → Nat} {gdq : Nat → Nat} {gdg : Nat → Nat} {gdo : OS} {gdA : OS} {gdB : OS} {gda : Int32} {gdb : Int32} {gdR : Nat → Int32} {gdU : Nat → Int32} {gdV : Nat → Int32} {gdN : Nat → Nat} {gdNU : Nat → Nat} {gdNV : Nat → Nat} {gdL : Nat → Int64} {gdLU : Nat → Int64} {gdLV : Nat → Int64} {gdf : Int32} (x_TLX_x_gh : TLX ws x (gh)) (x_TLM_y_gh : TLM ws y (gh)) (x_BYX_x_gdT : BYX Ps ws x gdT) (x_BYM_y_gdT : BYM Ps ws y gdT) (x_WKX_x : WKX Ps ws x) (x_GWX_x_gdq : GWX ws x gdq) (x_GQ_gdq_gdg : GQ Ps ws gdq gdg) (x_HE_gdq_gdg_gdo_gdA_gdB_false_false : HE Ps ws gdq gdg gdo gdA gdB false false) (x_FLP_gdq_gda_gdb : FLP ws gdq gda gdb) (x_HD_y_gdR : AX 14 34 (HDp gdR) Ps ws y) (x_KP_y_gdU_gdV : AX 16 36 (KPp gdU gdV) Ps ws y) (x_ISA_y_gda_gdb : AX 23 44 (ISp gda gdb) Ps ws y) (x_NAM_y_gdL : AXL 20 41 (NMp gdL) Ps ws y) (x_KNM_y_gdLU_gdLV : AXL 22 43 (KNp gdLU gdLV) Ps ws y) (x_PDF_gdo_gdR_gdN : (PDO gdo gdR gdN)) (x_NLP_gdR_gdN_gdL : (NLC gdR gdN gdL)) (x_LKP_gda_gdA_gdU_gdNU_gdLU : (LKP gda gdA gdU gdNU gdLU)) (x_LKP_gdb_gdB_gdV_gdNV_gdLV : (LKP gdb gdB gdV gdNV gdLV)) (x_LF_x_gdf : FLD ws x 9 11 (.int gdf)) (x_MF_y_gdf : FLD ws y 10 10 (.int gdf)) {i : Int32} (r_i : RI i 0 3066) (hiL : i.toInt + 6 ≤ L) {C S : Nat} (hC : C + 6 ≤ 601024) (hSl : S + 125 ≤ 7293034) {ls : Array Slot} (hl : lv_has ls 7 [(4, .int i), (3, .ref o), (2, .ref y), (1, .ref x), (0, .ref b)]) {Q : State → Prop} (kx : ∀ (gh : Int) (gdT : Nat → Nat) (gdq : Nat → Nat) (gdg : Nat → Nat) (gdo : OS) (gdA : OS) (gdB : OS) (gda : Int32) (gdb : Int32) (gdR : Nat → Int32) (gdU : Nat → Int32) (gdV : Nat → Int32) (gdN : Nat → Nat) (gdNU : Nat → Nat) (gdNV : Nat → Nat) (gdL : Nat → Int64) (gdLU : Nat → Int64) (gdLV : Nat → Int64) (gdf : Int32) (Ps : PSI) (ws : va_W) (H : Heap) (locs : List Loc) (ls : Array Slot), WD D cy GG (fun q : Nat => s.heap.size ≤ q) s wrL waL [] [] Ps ws H locs → (x, 33) ∈ Ps → (y, 55) ∈ Ps → (o, 56) ∈ Ps → TLX ws x (gh) → TLM ws y (gh) → BYX Ps ws x gdT → BYM Ps ws y gdT → WKX Ps ws x → GWX ws x gdq → GQ Ps ws gdq gdg → HE Ps ws gdq gdg gdo gdA gdB false false → FLP ws gdq gda gdb → AX 14 34 (HDp gdR) Ps ws y → AX 16 36 (KPp gdU gdV) Ps ws y → AX 23 44 (ISp gda gdb) Ps ws y → AXL 20 41 (NMp gdL) Ps ws y → AXL 22 43 (KNp gdLU gdLV) Ps ws y → (PDO gdo gdR gdN) → (NLC gdR gdN gdL) → (LKP gda gdA gdU gdNU gdLU) → (LKP gdb gdB gdV gdNV gdLV) → FLD ws x 9 11 (.int gdf) → FLD ws y 10 10 (.int gdf) → lv_has ls 7 [(4, .int i), (3, .ref o), (2, .ref y), (1, .ref x), (0, .ref b)] → W p l e room_1 s m #[Value.ref b] below meth c H locs (C + 6) (S + 125) Q (F0 m 1335 ls [])) : W p l e room_1 s m #[Value.ref b] below meth c H locs C S Q (F0 m 1111 ls []) := by
  have hA : ∀ q : Nat, s.heap.size ≤ q → (fun q : Nat => s.heap.size ≤ q) q := fun _ h => h
  have hbA : ¬ (fun q : Nat => s.heap.size ≤ q) b := Nat.not_le.mpr hbl
  refine lv_aload_n hx hb dL_law_1111 rfl (lv_at hl 3 rfl) ?_
  refine lv_aload_n hx hb dL_law_1112 rfl (lv_at hl 4 rfl) ?_
  refine lv_iload hx hb dL_law_1113 (lv_at hl 0 rfl) ?_
  refine lv_iconst (v := 1) hx hb dL_law_1115 (by decide) ?_
  refine lv_iadd hx hb dL_law_1116 (lv_topi (fun v_1 e_v_1 => ?_))
  obtain ⟨t_v_1, r_v_1⟩ := tq_add (lo := 1) (hi := 3067) r_i rl_1 (by decide +kernel) e_v_1
  have t_v_1 : v_1.toInt = i.toInt + 1 := t_v_1
  refine va_sld hx hb hX hbl hbA hw.2.2.2.1 (i := v_1) (vp_in_iff.mpr ⟨by have k1 := r_v_1.1; omega, by have k1 := r_v_1.2; omega⟩) dL_law_1117 ?_
  obtain ⟨v_2, e_v_2⟩ : ∃ q9 : Int32, xs (Int32.toNatClampNeg v_1) = q9 := ⟨_, rfl⟩
  refine tI e_v_2 ?_
  have r_v_2 := ri_any v_2
  refine lv_aload_n hx hb dL_law_1118 rfl (lv_at hl 4 rfl) ?_
  refine lv_iload hx hb dL_law_1119 (lv_at hl 0 rfl) ?_
  refine lv_iconst (v := 2) hx hb dL_law_1121 (by decide) ?_
  refine lv_iadd hx hb dL_law_1122 (lv_topi (fun v_3 e_v_3 => ?_))
  obtain ⟨t_v_3, r_v_3⟩ := tq_add (lo := 2) (hi := 3068) r_i rl_2 (by decide +kernel) e_v_3
  have t_v_3 : v_3.toInt = i.toInt + 2 := t_v_3
  refine va_sld hx hb hX hbl hbA hw.2.2.2.1 (i := v_3) (vp_in_iff.mpr ⟨by have k1 := r_v_3.1; omega, by have k1 := r_v_3.2; omega⟩) dL_law_1123 ?_
  obtain ⟨v_4, e_v_4⟩ : ∃ q9 : Int32, xs (Int32.toNatClampNeg v_3) = q9 := ⟨_, rfl⟩
  refine tI e_v_4 ?_
  have r_v_4 := ri_any v_4
  refine lv_aload_n hx hb dL_law_1124 rfl (lv_at hl 4 rfl) ?_
  refine lv_iload hx hb dL_law_1125 (lv_at hl 0 rfl) ?_
  refine lv_iconst (v := 3) hx hb dL_law_1127 (by decide) ?_
  refine lv_iadd hx hb dL_law_1128 (lv_topi (fun v_5 e_v_5 => ?_))
  obtain ⟨t_v_5, r_v_5⟩ := tq_add (lo := 3) (hi := 3069) r_i rl_3 (by decide +kernel) e_v_5
  have t_v_5 : v_5.toInt = i.toInt + 3 := t_v_5
  refine va_sld hx hb hX hbl hbA hw.2.2.2.1 (i := v_5) (vp_in_iff.mpr ⟨by have k1 := r_v_5.1; omega, by have k1 := r_v_5.2; omega⟩) dL_law_1129 ?_
  obtain ⟨v_6, e_v_6⟩ : ∃ q9 : Int32, xs (Int32.toNatClampNeg v_5) = q9 := ⟨_, rfl⟩
  refine tI e_v_6 ?_
  have r_v_6 := ri_any v_6
  refine lv_aload_n hx hb dL_law_1130 rfl (lv_at hl 4 rfl) ?_
  refine lv_iload hx hb dL_law_1131 (lv_at hl 0 rfl) ?_
  refine lv_iconst (v := 4) hx hb dL_law_1133 (by decide) ?_
  refine lv_iadd hx hb dL_law_1134 (lv_topi (fun v_7 e_v_7 => ?_))
  obtain ⟨t_v_7, r_v_7⟩ := tq_add (lo := 4) (hi := 3070) r_i rl_4 (by decide +kernel) e_v_7
  have t_v_7 : v_7.toInt = i.toInt + 4 := t_v_7
  refine va_sld hx hb hX hbl hbA hw.2.2.2.1 (i := v_7) (vp_in_iff.mpr ⟨by have k1 := r_v_7.1; omega, by have k1 := r_v_7.2; omega⟩) dL_law_1135 ?_
  obtain ⟨v_8, e_v_8⟩ : ∃ q9 : Int32, xs (Int32.toNatClampNeg v_7) = q9 := ⟨_, rfl⟩
  refine tI e_v_8 ?_
  have r_v_8 := ri_any v_8
  refine tk_i (va_runV (As := [.int v_2, .int v_4, .int v_6, .int v_8]) (rest := []) ⟨hx, hb, hml, hown, hts⟩ (c_X9_odds__1 l D cy z H.size Ps ws hw.1 x v_2 v_4 v_6 v_8 (gdq) (gdg) (gdo) (gdA) (gdB) h_x r_v_2 r_v_4 r_v_6 r_v_8 x_GWX_x_gdq x_GQ_gdq_gdg x_HE_gdq_gdg_gdo_gdA_gdB_false_false) (cwV 4 hts (gV tw_878 tw_879 tw_880 tw_1 tw_881) rfl rfl rfl (by decide +kernel) ⟨Nat.le_of_ble_eq_true rfl, Nat.le_of_ble_eq_true rfl⟩) (tg_preV hw hK hSD hA (ci := 9) (q := (RX9, TX9, 15)) rfl h_x rfl) rfl rfl hl.1 rfl (lv_room (Nat.le_of_ble_eq_true rfl)) dL_law_1136 ⟨by show _ ≤ 601024; omega, by show _ ≤ 7293034; omega⟩) hw hA ⟨by decide, by decide⟩ (fun v_9 ws H locs hp_v_9 hw hF9 => ?_)
  have x_TLX_x_gh := TLX.over hF9 x_TLX_x_gh (by decide)
  have x_TLM_y_gh := TLM.over hF9 x_TLM_y_gh (by decide)
  have x_BYX_x_gdT := BYX.over hF9 x_BYX_x_gdT (by decide)
  have x_BYM_y_gdT := BYM.over hF9 x_BYM_y_gdT (by decide)
  have x_WKX_x := WKX.over hF9 x_WKX_x (by decide)
  have x_GWX_x_gdq := GWX.over hF9 x_GWX_x_gdq (by decide)
  have x_GQ_gdq_gdg := GQ.over hF9 x_GQ_gdq_gdg (by decide)
  have x_FLP_gdq_gda_gdb := FLP.over hF9 x_FLP_gdq_gda_gdb (by decide)
  have x_HD_y_gdR := AX.over hF9 x_HD_y_gdR (by decide)
  have x_KP_y_gdU_gdV := AX.over hF9 x_KP_y_gdU_gdV (by decide)
  have x_ISA_y_gda_gdb := AX.over hF9 x_ISA_y_gda_gdb (by decide)
  have x_NAM_y_gdL := AXL.over hF9 x_NAM_y_gdL (by decide)
  have x_KNM_y_gdLU_gdLV := AXL.over hF9 x_KNM_y_gdLU_gdLV (by decide)
  have x_LF_x_gdf := FLD.over hF9 x_LF_x_gdf (by decide)
  have x_MF_y_gdf := FLD.over hF9 x_MF_y_gdf (by decide)
  have r_v_9 : RI v_9 (-2147483648) 2147483647 := hp_v_9.1
  have x_HE_gdq_gdg_gdo_gdA_gdB_false_false := hp_v_9.2.2.2.1.1
  refine lv_pop hx hb dL_law_1139 rfl ?_
  refine lv_aload_n hx hb dL_law_1140 rfl (lv_at hl 2 rfl) ?_
  refine lv_aload_n hx hb dL_law_1141 rfl (lv_at hl 4 rfl) ?_
  refine lv_iload hx hb dL_law_1142 (lv_at hl 0 rfl) ?_
  refine lv_iconst (v := 1) hx hb dL_law_1144 (by decide) ?_
  refine lv_iadd hx hb dL_law_1145 (lv_topi (fun v_10 e_v_10 => ?_))
  obtain ⟨t_v_10, r_v_10⟩ := tq_add (lo := 1) (hi := 3067) r_i rl_1 (by decide +kernel) e_v_10
  have t_v_10 : v_10.toInt = i.toInt + 1 := t_v_10
  refine va_sld hx hb hX hbl hbA hw.2.2.2.1 (i := v_10) (vp_in_iff.mpr ⟨by have k1 := r_v_10.1; omega, by have k1 := r_v_10.2; omega⟩) dL_law_1146 ?_
  refine tI (y := v_2) (by rw [e_v_10, ← e_v_1]; exact e_v_2) ?_
  refine lv_aload_n hx hb dL_law_1147 rfl (lv_at hl 4 rfl) ?_
  refine lv_iload hx hb dL_law_1148 (lv_at hl 0 rfl) ?_
  refine lv_iconst (v := 2) hx hb dL_law_1150 (by decide) ?_
  refine lv_iadd hx hb dL_law_1151 (lv_topi (fun v_12 e_v_12 => ?_))
  obtain ⟨t_v_12, r_v_12⟩ := tq_add (lo := 2) (hi := 3068) r_i rl_2 (by decide +kernel) e_v_12
  have t_v_12 : v_12.toInt = i.toInt + 2 := t_v_12
  refine va_sld hx hb hX hbl hbA hw.2.2.2.1 (i := v_12) (vp_in_iff.mpr ⟨by have k1 := r_v_12.1; omega, by have k1 := r_v_12.2; omega⟩) dL_law_1152 ?_
  refine tI (y := v_4) (by rw [e_v_12, ← e_v_3]; exact e_v_4) ?_
  refine lv_aload_n hx hb dL_law_1153 rfl (lv_at hl 4 rfl) ?_
  refine lv_iload hx hb dL_law_1154 (lv_at hl 0 rfl) ?_
  refine lv_iconst (v := 3) hx hb dL_law_1156 (by decide) ?_
  refine lv_iadd hx hb dL_law_1157 (lv_topi (fun v_14 e_v_14 => ?_))
  obtain ⟨t_v_14, r_v_14⟩ := tq_add (lo := 3) (hi := 3069) r_i rl_3 (by decide +kernel) e_v_14
  have t_v_14 : v_14.toInt = i.toInt + 3 := t_v_14
  refine va_sld hx hb hX hbl hbA hw.2.2.2.1 (i := v_14) (vp_in_iff.mpr ⟨by have k1 := r_v_14.1; omega, by have k1 := r_v_14.2; omega⟩) dL_law_1158 ?_
  refine tI (y := v_6) (by rw [e_v_14, ← e_v_5]; exact e_v_6) ?_
  refine lv_aload_n hx hb dL_law_1159 rfl (lv_at hl 4 rfl) ?_
  refine lv_iload hx hb dL_law_1160 (lv_at hl 0 rfl) ?_
  refine lv_iconst (v := 4) hx hb dL_law_1162 (by decide) ?_
  refine lv_iadd hx hb dL_law_1163 (lv_topi (fun v_16 e_v_16 => ?_))
  obtain ⟨t_v_16, r_v_16⟩ := tq_add (lo := 4) (hi := 3070) r_i rl_4 (by decide +kernel) e_v_16
  have t_v_16 : v_16.toInt = i.toInt + 4 := t_v_16
  refine va_sld hx hb hX hbl hbA hw.2.2.2.1 (i := v_16) (vp_in_iff.mpr ⟨by have k1 := r_v_16.1; omega, by have k1 := r_v_16.2; omega⟩) dL_law_1164 ?_
  refine tI (y := v_8) (by rw [e_v_16, ← e_v_7]; exact e_v_8) ?_
  refine tk_i (va_runV (As := [.int v_2, .int v_4, .int v_6, .int v_8]) (rest := []) ⟨hx, hb, hml, hown, hts⟩ (c_X10_odds__1 l D cy z H.size Ps ws hw.1 y v_2 v_4 v_6 v_8 (gdR) h_y r_v_2 r_v_4 r_v_6 r_v_8 x_HD_y_gdR) (cwV 4 hts (gV tw_1703 tw_1704 tw_1705 tw_15 tw_1706) rfl rfl rfl (by decide +kernel) ⟨Nat.le_of_ble_eq_true rfl, Nat.le_of_ble_eq_true rfl⟩) (tg_preV hw hK hSD hA (ci := 10) (q := (RX10, TX10, 49)) rfl h_y rfl) rfl rfl hl.1 rfl (lv_room (Nat.le_of_ble_eq_true rfl)) dL_law_1165 ⟨by show _ ≤ 601024; omega, by show _ ≤ 7293034; omega⟩) hw hA ⟨by decide, by decide⟩ (fun v_18 ws H locs hp_v_18 hw hF9 => ?_)
  have x_TLX_x_gh := TLX.over hF9 x_TLX_x_gh (by decide)
  have x_TLM_y_gh := TLM.over hF9 x_TLM_y_gh (by decide)
  have x_BYX_x_gdT := BYX.over hF9 x_BYX_x_gdT (by decide)
  have x_BYM_y_gdT := BYM.over hF9 x_BYM_y_gdT (by decide)
  have x_WKX_x := WKX.over hF9 x_WKX_x (by decide)
  have x_GWX_x_gdq := GWX.over hF9 x_GWX_x_gdq (by decide)
  have x_GQ_gdq_gdg := GQ.over hF9 x_GQ_gdq_gdg (by decide)
  have x_FLP_gdq_gda_gdb := FLP.over hF9 x_FLP_gdq_gda_gdb (by decide)
  have x_KP_y_gdU_gdV := AX.over hF9 x_KP_y_gdU_gdV (by decide)
  have x_ISA_y_gda_gdb := AX.over hF9 x_ISA_y_gda_gdb (by decide)
  have x_NAM_y_gdL := AXL.over hF9 x_NAM_y_gdL (by decide)
  have x_KNM_y_gdLU_gdLV := AXL.over hF9 x_KNM_y_gdLU_gdLV (by decide)
  have x_LF_x_gdf := FLD.over hF9 x_LF_x_gdf (by decide)
  have x_MF_y_gdf := FLD.over hF9 x_MF_y_gdf (by decide)
  have x_HE_gdq_gdg_gdo_gdA_gdB_false_false := HE.over hF9 x_HE_gdq_gdg_gdo_gdA_gdB_false_false (by decide)
  obtain ⟨x_HD_y_gdR, hp_v_18⟩ := hp_v_18
  have r_v_18 : RI v_18 (-2147483648) 2147483647 := hp_v_18.1
  refine lv_pop hx hb dL_law_1168 rfl ?_
  refine lv_goto (tgt := 1335) hx hb dL_law_1169 (by decide) ?_
  refine W.widen (k := C + 6) (n := S + 125) (by omega) (by omega) ?_
  exact kx (gh) gdT gdq gdg gdo gdA gdB gda gdb gdR gdU gdV gdN gdNU gdNV gdL gdLU gdLV gdf _ ws _ _ ls hw h_x h_y h_o x_TLX_x_gh x_TLM_y_gh x_BYX_x_gdT x_BYM_y_gdT x_WKX_x x_GWX_x_gdq x_GQ_gdq_gdg x_HE_gdq_gdg_gdo_gdA_gdB_false_false x_FLP_gdq_gda_gdb x_HD_y_gdR x_KP_y_gdU_gdV x_ISA_y_gda_gdb x_NAM_y_gdL x_KNM_y_gdLU_gdLV x_PDF_gdo_gdR_gdN x_NLP_gdR_gdN_gdL x_LKP_gda_gdA_gdU_gdNU_gdLU x_LKP_gdb_gdB_gdV_gdNV_gdLV x_LF_x_gdf x_MF_y_gdf (lv_sub hl [0, 1, 2, 3, 4] rfl)
set_option maxHeartbeats 4000000 in
set_option maxRecDepth 100000 in
theorem op34 {p : Program} {e : Env} {s : State} {m : MethodId} {below : List Frame} {meth : Method} {c : Code} (l : Launch) (hl0 : l.stackTraces = false) {b L : Nat} {xs : Nat → Int32} (hx : p.tables.exec = Jvm.exec) (hb : c.code = code) (hml : c.maxLocals = 7) (hown : s.vm.findClass RL = some m.cls) (hts : ∀ w ∈ gT, w.before #[Value.ref b] s = true) (hX : va_X b L xs s s.heap) (hbl : b < s.heap.size) (D : va_G) (cy : Nat → ClassId) (z : Nat → Nat) (hK : va_K D classes (TY cy) s) (hSD : SD z (fun q : Nat => s.heap.size ≤ q) s) (hSE : SE z (fun q : Nat => s.heap.size ≤ q) s) {Ps : PSI} {ws : va_W} {H : Heap} {locs : List Loc} {x y o : Nat} (hw : WD D cy GG (fun q : Nat => s.heap.size ≤ q) s wrL waL [] [] Ps ws H locs) (h_x : (x, 33) ∈ Ps) (h_y : (y, 55) ∈ Ps) (h_o : (o, 56) ∈ Ps) {gh : Int} {gdT : Nat → Nat} {gdq : Nat → Nat} {gdg : Nat → Nat} {gdo : OS} {gdA : OS} {gdB : OS} {gda : Int32} {gdb : Int32} {gdR : Nat → Int32} {gdU : Nat → Int32} {gdV : Nat → Int32} {gdN : Nat → Nat} {gdNU : Nat → Nat} {gdNV : Nat → Nat} {gdL : Nat → Int64} {gdLU : Nat → Int64} {gdLV : Nat → Int64} {gdf : Int32} (x_TLX_x_gh : TLX ws x (gh)) (x_TLM_y_gh : TLM ws y (gh)) (x_BYX_x_gdT : BYX Ps ws x gdT) (x_BYM_y_gdT : BYM Ps ws y gdT) (x_WKX_x : WKX Ps ws x) (x_GWX_x_gdq : GWX ws x gdq) (x_GQ_gdq_gdg : GQ Ps ws gdq gdg) (x_HE_gdq_gdg_gdo_gdA_gdB_false_false : HE Ps ws gdq gdg gdo gdA gdB false false) (x_FLP_gdq_gda_gdb : FLP ws gdq gda gdb) (x_HD_y_gdR : AX 14 34 (HDp gdR) Ps ws y) (x_KP_y_gdU_gdV : AX 16 36 (KPp gdU gdV) Ps ws y) (x_ISA_y_gda_gdb : AX 23 44 (ISp gda gdb) Ps ws y) (x_NAM_y_gdL : AXL 20 41 (NMp gdL) Ps ws y) (x_KNM_y_gdLU_gdLV : AXL 22 43 (KNp gdLU gdLV) Ps ws y) (x_PDF_gdo_gdR_gdN : (PDO gdo gdR gdN)) (x_NLP_gdR_gdN_gdL : (NLC gdR gdN gdL)) (x_LKP_gda_gdA_gdU_gdNU_gdLU : (LKP gda gdA gdU gdNU gdLU)) (x_LKP_gdb_gdB_gdV_gdNV_gdLV : (LKP gdb gdB gdV gdNV gdLV)) (x_LF_x_gdf : FLD ws x 9 11 (.int gdf)) (x_MF_y_gdf : FLD ws y 10 10 (.int gdf)) {i : Int32} (r_i : RI i 0 3066) (hiL : i.toInt + 6 ≤ L) {C S : Nat} (hC : C + 6 ≤ 601024) (hSl : S + 125 ≤ 7293034) {ls : Array Slot} (hl : lv_has ls 7 [(4, .int i), (3, .ref o), (2, .ref y), (1, .ref x), (0, .ref b)]) {Q : State → Prop} (kx : ∀ (gh : Int) (gdT : Nat → Nat) (gdq : Nat → Nat) (gdg : Nat → Nat) (gdo : OS) (gdA : OS) (gdB : OS) (gda : Int32) (gdb : Int32) (gdR : Nat → Int32) (gdU : Nat → Int32) (gdV : Nat → Int32) (gdN : Nat → Nat) (gdNU : Nat → Nat) (gdNV : Nat → Nat) (gdL : Nat → Int64) (gdLU : Nat → Int64) (gdLV : Nat → Int64) (gdf : Int32) (Ps : PSI) (ws : va_W) (H : Heap) (locs : List Loc) (ls : Array Slot), WD D cy GG (fun q : Nat => s.heap.size ≤ q) s wrL waL [] [] Ps ws H locs → (x, 33) ∈ Ps → (y, 55) ∈ Ps → (o, 56) ∈ Ps → TLX ws x (gh) → TLM ws y (gh) → BYX Ps ws x gdT → BYM Ps ws y gdT → WKX Ps ws x → GWX ws x gdq → GQ Ps ws gdq gdg → HE Ps ws gdq gdg gdo gdA gdB false false → FLP ws gdq gda gdb → AX 14 34 (HDp gdR) Ps ws y → AX 16 36 (KPp gdU gdV) Ps ws y → AX 23 44 (ISp gda gdb) Ps ws y → AXL 20 41 (NMp gdL) Ps ws y → AXL 22 43 (KNp gdLU gdLV) Ps ws y → (PDO gdo gdR gdN) → (NLC gdR gdN gdL) → (LKP gda gdA gdU gdNU gdLU) → (LKP gdb gdB gdV gdNV gdLV) → FLD ws x 9 11 (.int gdf) → FLD ws y 10 10 (.int gdf) → lv_has ls 7 [(4, .int i), (3, .ref o), (2, .ref y), (1, .ref x), (0, .ref b)] → W p l e room_1 s m #[Value.ref b] below meth c H locs (C + 6) (S + 125) Q (F0 m 1335 ls [])) : W p l e room_1 s m #[Value.ref b] below meth c H locs C S Q (F0 m 1172 ls []) := by
  have hA : ∀ q : Nat, s.heap.size ≤ q → (fun q : Nat => s.heap.size ≤ q) q := fun _ h => h
  have hbA : ¬ (fun q : Nat => s.heap.size ≤ q) b := Nat.not_le.mpr hbl
  refine lv_aload_n hx hb dL_law_1172 rfl (lv_at hl 3 rfl) ?_
  refine lv_aload_n hx hb dL_law_1173 rfl (lv_at hl 4 rfl) ?_
  refine lv_iload hx hb dL_law_1174 (lv_at hl 0 rfl) ?_
  refine lv_iconst (v := 1) hx hb dL_law_1176 (by decide) ?_
  refine lv_iadd hx hb dL_law_1177 (lv_topi (fun v_1 e_v_1 => ?_))
  obtain ⟨t_v_1, r_v_1⟩ := tq_add (lo := 1) (hi := 3067) r_i rl_1 (by decide +kernel) e_v_1
  have t_v_1 : v_1.toInt = i.toInt + 1 := t_v_1
  refine va_sld hx hb hX hbl hbA hw.2.2.2.1 (i := v_1) (vp_in_iff.mpr ⟨by have k1 := r_v_1.1; omega, by have k1 := r_v_1.2; omega⟩) dL_law_1178 ?_
  obtain ⟨v_2, e_v_2⟩ : ∃ q9 : Int32, xs (Int32.toNatClampNeg v_1) = q9 := ⟨_, rfl⟩
  refine tI e_v_2 ?_
  have r_v_2 := ri_any v_2
  refine tk_i (va_runV (As := [.int v_2]) (rest := []) ⟨hx, hb, hml, hown, hts⟩ (c_X9_book__3 l D cy z H.size Ps ws hw.1 x v_2 (gh) (gdT) (gdq) (gdg) (gdo) (gdA) (gdB) (gdR) (gdN) (gdf) h_x r_v_2 x_TLX_x_gh x_GWX_x_gdq x_GQ_gdq_gdg x_HE_gdq_gdg_gdo_gdA_gdB_false_false x_BYX_x_gdT x_WKX_x x_PDF_gdo_gdR_gdN x_LF_x_gdf) (cwV 1 hts (gV tw_882 tw_883 tw_884 tw_1 tw_885) rfl rfl rfl (by decide +kernel) ⟨Nat.le_of_ble_eq_true rfl, Nat.le_of_ble_eq_true rfl⟩) (tg_preV hw hK hSD hA (ci := 9) (q := (RX9, TX9, 15)) rfl h_x rfl) rfl rfl hl.1 rfl (lv_room (Nat.le_of_ble_eq_true rfl)) dL_law_1179 ⟨by show _ ≤ 601024; omega, by show _ ≤ 7293034; omega⟩) hw hA ⟨by decide, by decide⟩ (fun v_3 ws H locs hp_v_3 hw hF9 => ?_)
  have x_TLM_y_gh := TLM.over hF9 x_TLM_y_gh (by decide)
  have x_BYX_x_gdT := BYX.over hF9 x_BYX_x_gdT (by decide)
  have x_BYM_y_gdT := BYM.over hF9 x_BYM_y_gdT (by decide)
  have x_WKX_x := WKX.over hF9 x_WKX_x (by decide)
  have x_GWX_x_gdq := GWX.over hF9 x_GWX_x_gdq (by decide)
  have x_GQ_gdq_gdg := GQ.over hF9 x_GQ_gdq_gdg (by decide)
  have x_FLP_gdq_gda_gdb := FLP.over hF9 x_FLP_gdq_gda_gdb (by decide)
  have x_HD_y_gdR := AX.over hF9 x_HD_y_gdR (by decide)
  have x_KP_y_gdU_gdV := AX.over hF9 x_KP_y_gdU_gdV (by decide)
  have x_ISA_y_gda_gdb := AX.over hF9 x_ISA_y_gda_gdb (by decide)
  have x_NAM_y_gdL := AXL.over hF9 x_NAM_y_gdL (by decide)
  have x_KNM_y_gdLU_gdLV := AXL.over hF9 x_KNM_y_gdLU_gdLV (by decide)
  have x_MF_y_gdf := FLD.over hF9 x_MF_y_gdf (by decide)
  have r_v_3 : RI v_3 (-2147483648) 2147483647 := hp_v_3.1
  have x_BKX_x_v_2_gh := hp_v_3.2.2.2.1.1
  have x_HE_gdq_gdg_gdo_gdA_gdB_false_false := hp_v_3.2.2.2.1.2.1
  have x_LFK_x_v_2_gdT_gh_gdR_gdN_gdf := hp_v_3.2.2.2.1.2.2.1
  refine lv_pop hx hb dL_law_1182 rfl ?_
  refine lv_aload_n hx hb dL_law_1183 rfl (lv_at hl 2 rfl) ?_
  refine lv_aload_n hx hb dL_law_1184 rfl (lv_at hl 4 rfl) ?_
  refine lv_iload hx hb dL_law_1185 (lv_at hl 0 rfl) ?_
  refine lv_iconst (v := 1) hx hb dL_law_1187 (by decide) ?_
  refine lv_iadd hx hb dL_law_1188 (lv_topi (fun v_4 e_v_4 => ?_))
  obtain ⟨t_v_4, r_v_4⟩ := tq_add (lo := 1) (hi := 3067) r_i rl_1 (by decide +kernel) e_v_4
  have t_v_4 : v_4.toInt = i.toInt + 1 := t_v_4
  refine va_sld hx hb hX hbl hbA hw.2.2.2.1 (i := v_4) (vp_in_iff.mpr ⟨by have k1 := r_v_4.1; omega, by have k1 := r_v_4.2; omega⟩) dL_law_1189 ?_
  refine tI (y := v_2) (by rw [e_v_4, ← e_v_1]; exact e_v_2) ?_
  refine tk_i (va_runV (As := [.int v_2]) (rest := []) ⟨hx, hb, hml, hown, hts⟩ (c_X10_book__3 l D cy z H.size Ps ws hw.1 y v_2 (gh) (gdT) (gdR) (gdN) (gdL) (gdf) h_y r_v_2 x_TLM_y_gh x_BYM_y_gdT x_HD_y_gdR x_NAM_y_gdL x_NLP_gdR_gdN_gdL x_MF_y_gdf) (cwV 1 hts (gV tw_1707 tw_1708 tw_1709 tw_15 tw_1710) rfl rfl rfl (by decide +kernel) ⟨Nat.le_of_ble_eq_true rfl, Nat.le_of_ble_eq_true rfl⟩) (tg_preV hw hK hSD hA (ci := 10) (q := (RX10, TX10, 49)) rfl h_y rfl) rfl rfl hl.1 rfl (lv_room (Nat.le_of_ble_eq_true rfl)) dL_law_1190 ⟨by show _ ≤ 601024; omega, by show _ ≤ 7293034; omega⟩) hw hA ⟨by decide, by decide⟩ (fun v_6 ws H locs hp_v_6 hw hF9 => ?_)
  have x_BYX_x_gdT := BYX.over hF9 x_BYX_x_gdT (by decide)
  have x_BYM_y_gdT := BYM.over hF9 x_BYM_y_gdT (by decide)
  have x_WKX_x := WKX.over hF9 x_WKX_x (by decide)
  have x_GWX_x_gdq := GWX.over hF9 x_GWX_x_gdq (by decide)
  have x_GQ_gdq_gdg := GQ.over hF9 x_GQ_gdq_gdg (by decide)
  have x_FLP_gdq_gda_gdb := FLP.over hF9 x_FLP_gdq_gda_gdb (by decide)
  have x_KP_y_gdU_gdV := AX.over hF9 x_KP_y_gdU_gdV (by decide)
  have x_ISA_y_gda_gdb := AX.over hF9 x_ISA_y_gda_gdb (by decide)
  have x_NAM_y_gdL := AXL.over hF9 x_NAM_y_gdL (by decide)
  have x_KNM_y_gdLU_gdLV := AXL.over hF9 x_KNM_y_gdLU_gdLV (by decide)
  have x_BKX_x_v_2_gh := BKX.over hF9 x_BKX_x_v_2_gh (by decide)
  have x_HE_gdq_gdg_gdo_gdA_gdB_false_false := HE.over hF9 x_HE_gdq_gdg_gdo_gdA_gdB_false_false (by decide)
  have x_LFK_x_v_2_gdT_gh_gdR_gdN_gdf := FLD2.over hF9 x_LFK_x_v_2_gdT_gh_gdR_gdN_gdf (by decide)
  obtain ⟨x_HD_y_gdR, hp_v_6⟩ := hp_v_6
  have r_v_6 : RI v_6 (-2147483648) 2147483647 := hp_v_6.1
  have x_BKM_y_v_2_gh := hp_v_6.2.2.2.1.1
  have x_MFK_y_v_2_gdT_gh_gdR_gdN_gdf := hp_v_6.2.2.2.1.2.1
  refine lv_pop hx hb dL_law_1193 rfl ?_
  refine lv_goto (tgt := 1335) hx hb dL_law_1194 (by decide) ?_
  refine W.widen (k := C + 6) (n := S + 125) (by omega) (by omega) ?_
  by_cases h9 : (0 ≤ Int32.toInt v_2 ∧ Int32.toInt v_2 ≤ 1)
  · exact kx 0 gdT gdq gdg gdo gdA gdB gda gdb gdR gdU gdV gdN gdNU gdNV gdL gdLU gdLV (FAU (SBK gdT gh gdR gdN)) _ ws _ _ ls hw h_x h_y h_o (x_BKX_x_v_2_gh.1 h9) (x_BKM_y_v_2_gh.1 h9) x_BYX_x_gdT x_BYM_y_gdT x_WKX_x x_GWX_x_gdq x_GQ_gdq_gdg x_HE_gdq_gdg_gdo_gdA_gdB_false_false x_FLP_gdq_gda_gdb x_HD_y_gdR x_KP_y_gdU_gdV x_ISA_y_gda_gdb x_NAM_y_gdL x_KNM_y_gdLU_gdLV x_PDF_gdo_gdR_gdN x_NLP_gdR_gdN_gdL x_LKP_gda_gdA_gdU_gdNU_gdLU x_LKP_gdb_gdB_gdV_gdNV_gdLV (x_LFK_x_v_2_gdT_gh_gdR_gdN_gdf.1 h9) (x_MFK_y_v_2_gdT_gh_gdR_gdN_gdf.1 h9) (lv_sub hl [0, 1, 2, 3, 4] rfl)
  · exact kx (gh) gdT gdq gdg gdo gdA gdB gda gdb gdR gdU gdV gdN gdNU gdNV gdL gdLU gdLV gdf _ ws _ _ ls hw h_x h_y h_o (x_BKX_x_v_2_gh.2 h9) (x_BKM_y_v_2_gh.2 h9) x_BYX_x_gdT x_BYM_y_gdT x_WKX_x x_GWX_x_gdq x_GQ_gdq_gdg x_HE_gdq_gdg_gdo_gdA_gdB_false_false x_FLP_gdq_gda_gdb x_HD_y_gdR x_KP_y_gdU_gdV x_ISA_y_gda_gdb x_NAM_y_gdL x_KNM_y_gdLU_gdLV x_PDF_gdo_gdR_gdN x_NLP_gdR_gdN_gdL x_LKP_gda_gdA_gdU_gdNU_gdLU x_LKP_gdb_gdB_gdV_gdNV_gdLV (x_LFK_x_v_2_gdT_gh_gdR_gdN_gdf.2 h9) (x_MFK_y_v_2_gdT_gh_gdR_gdN_gdf.2 h9) (lv_sub hl [0, 1, 2, 3, 4] rfl)
set_option maxHeartbeats 4000000 in
set_option maxRecDepth 100000 in
theorem op35 {p : Program} {e : Env} {s : State} {m : MethodId} {below : List Frame} {meth : Method} {c : Code} (l : Launch) (hl0 : l.stackTraces = false) {b L : Nat} {xs : Nat → Int32} (hx : p.tables.exec = Jvm.exec) (hb : c.code = code) (hml : c.maxLocals = 7) (hown : s.vm.findClass RL = some m.cls) (hts : ∀ w ∈ gT, w.before #[Value.ref b] s = true) (hX : va_X b L xs s s.heap) (hbl : b < s.heap.size) (D : va_G) (cy : Nat → ClassId) (z : Nat → Nat) (hK : va_K D classes (TY cy) s) (hSD : SD z (fun q : Nat => s.heap.size ≤ q) s) (hSE : SE z (fun q : Nat => s.heap.size ≤ q) s) {Ps : PSI} {ws : va_W} {H : Heap} {locs : List Loc} {x y o : Nat} (hw : WD D cy GG (fun q : Nat => s.heap.size ≤ q) s wrL waL [] [] Ps ws H locs) (h_x : (x, 33) ∈ Ps) (h_y : (y, 55) ∈ Ps) (h_o : (o, 56) ∈ Ps) {gh : Int} {gdT : Nat → Nat} {gdq : Nat → Nat} {gdg : Nat → Nat} {gdo : OS} {gdA : OS} {gdB : OS} {gda : Int32} {gdb : Int32} {gdR : Nat → Int32} {gdU : Nat → Int32} {gdV : Nat → Int32} {gdN : Nat → Nat} {gdNU : Nat → Nat} {gdNV : Nat → Nat} {gdL : Nat → Int64} {gdLU : Nat → Int64} {gdLV : Nat → Int64} {gdf : Int32} (x_TLX_x_gh : TLX ws x (gh)) (x_TLM_y_gh : TLM ws y (gh)) (x_BYX_x_gdT : BYX Ps ws x gdT) (x_BYM_y_gdT : BYM Ps ws y gdT) (x_WKX_x : WKX Ps ws x) (x_GWX_x_gdq : GWX ws x gdq) (x_GQ_gdq_gdg : GQ Ps ws gdq gdg) (x_HE_gdq_gdg_gdo_gdA_gdB_false_false : HE Ps ws gdq gdg gdo gdA gdB false false) (x_FLP_gdq_gda_gdb : FLP ws gdq gda gdb) (x_HD_y_gdR : AX 14 34 (HDp gdR) Ps ws y) (x_KP_y_gdU_gdV : AX 16 36 (KPp gdU gdV) Ps ws y) (x_ISA_y_gda_gdb : AX 23 44 (ISp gda gdb) Ps ws y) (x_NAM_y_gdL : AXL 20 41 (NMp gdL) Ps ws y) (x_KNM_y_gdLU_gdLV : AXL 22 43 (KNp gdLU gdLV) Ps ws y) (x_PDF_gdo_gdR_gdN : (PDO gdo gdR gdN)) (x_NLP_gdR_gdN_gdL : (NLC gdR gdN gdL)) (x_LKP_gda_gdA_gdU_gdNU_gdLU : (LKP gda gdA gdU gdNU gdLU)) (x_LKP_gdb_gdB_gdV_gdNV_gdLV : (LKP gdb gdB gdV gdNV gdLV)) (x_LF_x_gdf : FLD ws x 9 11 (.int gdf)) (x_MF_y_gdf : FLD ws y 10 10 (.int gdf)) {i : Int32} (r_i : RI i 0 3066) (hiL : i.toInt + 6 ≤ L) {C S : Nat} (hC : C + 6 ≤ 601024) (hSl : S + 125 ≤ 7293034) {ls : Array Slot} (hl : lv_has ls 7 [(4, .int i), (3, .ref o), (2, .ref y), (1, .ref x), (0, .ref b)]) {Q : State → Prop} (kx : ∀ (gh : Int) (gdT : Nat → Nat) (gdq : Nat → Nat) (gdg : Nat → Nat) (gdo : OS) (gdA : OS) (gdB : OS) (gda : Int32) (gdb : Int32) (gdR : Nat → Int32) (gdU : Nat → Int32) (gdV : Nat → Int32) (gdN : Nat → Nat) (gdNU : Nat → Nat) (gdNV : Nat → Nat) (gdL : Nat → Int64) (gdLU : Nat → Int64) (gdLV : Nat → Int64) (gdf : Int32) (Ps : PSI) (ws : va_W) (H : Heap) (locs : List Loc) (ls : Array Slot), WD D cy GG (fun q : Nat => s.heap.size ≤ q) s wrL waL [] [] Ps ws H locs → (x, 33) ∈ Ps → (y, 55) ∈ Ps → (o, 56) ∈ Ps → TLX ws x (gh) → TLM ws y (gh) → BYX Ps ws x gdT → BYM Ps ws y gdT → WKX Ps ws x → GWX ws x gdq → GQ Ps ws gdq gdg → HE Ps ws gdq gdg gdo gdA gdB false false → FLP ws gdq gda gdb → AX 14 34 (HDp gdR) Ps ws y → AX 16 36 (KPp gdU gdV) Ps ws y → AX 23 44 (ISp gda gdb) Ps ws y → AXL 20 41 (NMp gdL) Ps ws y → AXL 22 43 (KNp gdLU gdLV) Ps ws y → (PDO gdo gdR gdN) → (NLC gdR gdN gdL) → (LKP gda gdA gdU gdNU gdLU) → (LKP gdb gdB gdV gdNV gdLV) → FLD ws x 9 11 (.int gdf) → FLD ws y 10 10 (.int gdf) → lv_has ls 7 [(4, .int i), (3, .ref o), (2, .ref y), (1, .ref x), (0, .ref b)] → W p l e room_1 s m #[Value.ref b] below meth c H locs (C + 6) (S + 125) Q (F0 m 1335 ls [])) : W p l e room_1 s m #[Value.ref b] below meth c H locs C S Q (F0 m 1197 ls []) := by
  have hA : ∀ q : Nat, s.heap.size ≤ q → (fun q : Nat => s.heap.size ≤ q) q := fun _ h => h
  have hbA : ¬ (fun q : Nat => s.heap.size ≤ q) b := Nat.not_le.mpr hbl
  refine lv_aload_n hx hb dL_law_1197 rfl (lv_at hl 3 rfl) ?_
  refine lv_aload_n hx hb dL_law_1198 rfl (lv_at hl 4 rfl) ?_
  refine lv_iload hx hb dL_law_1199 (lv_at hl 0 rfl) ?_
  refine lv_iconst (v := 1) hx hb dL_law_1201 (by decide) ?_
  refine lv_iadd hx hb dL_law_1202 (lv_topi (fun v_1 e_v_1 => ?_))
  obtain ⟨t_v_1, r_v_1⟩ := tq_add (lo := 1) (hi := 3067) r_i rl_1 (by decide +kernel) e_v_1
  have t_v_1 : v_1.toInt = i.toInt + 1 := t_v_1
  refine va_sld hx hb hX hbl hbA hw.2.2.2.1 (i := v_1) (vp_in_iff.mpr ⟨by have k1 := r_v_1.1; omega, by have k1 := r_v_1.2; omega⟩) dL_law_1203 ?_
  obtain ⟨v_2, e_v_2⟩ : ∃ q9 : Int32, xs (Int32.toNatClampNeg v_1) = q9 := ⟨_, rfl⟩
  refine tI e_v_2 ?_
  have r_v_2 := ri_any v_2
  refine tk_ir (va_runV (As := [.int v_2]) (rest := []) ⟨hx, hb, hml, hown, hts⟩ (c_X9_told l D cy z H.size Ps ws hw.1 x v_2 h_x r_v_2) (cwV 1 hts (gV tw_937 tw_938 tw_939 tw_1 tw_940) rfl rfl rfl (by decide +kernel) ⟨Nat.le_of_ble_eq_true rfl, Nat.le_of_ble_eq_true rfl⟩) (tg_preV hw hK hSD hA (ci := 9) (q := (RX9, TX9, 15)) rfl h_x rfl) rfl rfl hl.1 rfl (lv_room (Nat.le_of_ble_eq_true rfl)) dL_law_1204 ⟨by show _ ≤ 601024; omega, by show _ ≤ 7293034; omega⟩) hw hA (fun v_3  H locs hp_v_3 hw => ?_)
  have r_v_3 : RI v_3 (-2147483648) 2147483647 := hp_v_3.1
  refine lv_pop hx hb dL_law_1207 rfl ?_
  refine lv_aload_n hx hb dL_law_1208 rfl (lv_at hl 2 rfl) ?_
  refine lv_aload_n hx hb dL_law_1209 rfl (lv_at hl 4 rfl) ?_
  refine lv_iload hx hb dL_law_1210 (lv_at hl 0 rfl) ?_
  refine lv_iconst (v := 1) hx hb dL_law_1212 (by decide) ?_
  refine lv_iadd hx hb dL_law_1213 (lv_topi (fun v_4 e_v_4 => ?_))
  obtain ⟨t_v_4, r_v_4⟩ := tq_add (lo := 1) (hi := 3067) r_i rl_1 (by decide +kernel) e_v_4
  have t_v_4 : v_4.toInt = i.toInt + 1 := t_v_4
  refine va_sld hx hb hX hbl hbA hw.2.2.2.1 (i := v_4) (vp_in_iff.mpr ⟨by have k1 := r_v_4.1; omega, by have k1 := r_v_4.2; omega⟩) dL_law_1214 ?_
  refine tI (y := v_2) (by rw [e_v_4, ← e_v_1]; exact e_v_2) ?_
  refine tk_i (va_runV (As := [.int v_2]) (rest := []) ⟨hx, hb, hml, hown, hts⟩ (c_X10_told l D cy z H.size Ps ws hw.1 y v_2 h_y r_v_2) (cwV 1 hts (gV tw_1743 tw_1744 tw_1745 tw_15 tw_1746) rfl rfl rfl (by decide +kernel) ⟨Nat.le_of_ble_eq_true rfl, Nat.le_of_ble_eq_true rfl⟩) (tg_preV hw hK hSD hA (ci := 10) (q := (RX10, TX10, 49)) rfl h_y rfl) rfl rfl hl.1 rfl (lv_room (Nat.le_of_ble_eq_true rfl)) dL_law_1215 ⟨by show _ ≤ 601024; omega, by show _ ≤ 7293034; omega⟩) hw hA ⟨by decide, by decide⟩ (fun v_6 ws H locs hp_v_6 hw hF9 => ?_)
  have x_TLX_x_gh := TLX.over hF9 x_TLX_x_gh (by decide)
  have x_TLM_y_gh := TLM.over hF9 x_TLM_y_gh (by decide)
  have x_BYX_x_gdT := BYX.over hF9 x_BYX_x_gdT (by decide)
  have x_BYM_y_gdT := BYM.over hF9 x_BYM_y_gdT (by decide)
  have x_WKX_x := WKX.over hF9 x_WKX_x (by decide)
  have x_GWX_x_gdq := GWX.over hF9 x_GWX_x_gdq (by decide)
  have x_GQ_gdq_gdg := GQ.over hF9 x_GQ_gdq_gdg (by decide)
  have x_HE_gdq_gdg_gdo_gdA_gdB_false_false := HE.over hF9 x_HE_gdq_gdg_gdo_gdA_gdB_false_false (by decide)
  have x_FLP_gdq_gda_gdb := FLP.over hF9 x_FLP_gdq_gda_gdb (by decide)
  have x_HD_y_gdR := AX.over hF9 x_HD_y_gdR (by decide)
  have x_KP_y_gdU_gdV := AX.over hF9 x_KP_y_gdU_gdV (by decide)
  have x_ISA_y_gda_gdb := AX.over hF9 x_ISA_y_gda_gdb (by decide)
  have x_NAM_y_gdL := AXL.over hF9 x_NAM_y_gdL (by decide)
  have x_KNM_y_gdLU_gdLV := AXL.over hF9 x_KNM_y_gdLU_gdLV (by decide)
  have x_LF_x_gdf := FLD.over hF9 x_LF_x_gdf (by decide)
  have x_MF_y_gdf := FLD.over hF9 x_MF_y_gdf (by decide)
  have r_v_6 : RI v_6 (-2147483648) 2147483647 := hp_v_6.1
  refine lv_pop hx hb dL_law_1218 rfl ?_
  refine lv_goto (tgt := 1335) hx hb dL_law_1219 (by decide) ?_
  refine W.widen (k := C + 6) (n := S + 125) (by omega) (by omega) ?_
  exact kx (gh) gdT gdq gdg gdo gdA gdB gda gdb gdR gdU gdV gdN gdNU gdNV gdL gdLU gdLV gdf _ ws _ _ ls hw h_x h_y h_o x_TLX_x_gh x_TLM_y_gh x_BYX_x_gdT x_BYM_y_gdT x_WKX_x x_GWX_x_gdq x_GQ_gdq_gdg x_HE_gdq_gdg_gdo_gdA_gdB_false_false x_FLP_gdq_gda_gdb x_HD_y_gdR x_KP_y_gdU_gdV x_ISA_y_gda_gdb x_NAM_y_gdL x_KNM_y_gdLU_gdLV x_PDF_gdo_gdR_gdN x_NLP_gdR_gdN_gdL x_LKP_gda_gdA_gdU_gdNU_gdLU x_LKP_gdb_gdB_gdV_gdNV_gdLV x_LF_x_gdf x_MF_y_gdf (lv_sub hl [0, 1, 2, 3, 4] rfl)
set_option maxHeartbeats 4000000 in
set_option maxRecDepth 100000 in
theorem op36 {p : Program} {e : Env} {s : State} {m : MethodId} {below : List Frame} {meth : Method} {c : Code} (l : Launch) (hl0 : l.stackTraces = false) {b L : Nat} {xs : Nat → Int32} (hx : p.tables.exec = Jvm.exec) (hb : c.code = code) (hml : c.maxLocals = 7) (hown : s.vm.findClass RL = some m.cls) (hts : ∀ w ∈ gT, w.before #[Value.ref b] s = true) (hX : va_X b L xs s s.heap) (hbl : b < s.heap.size) (D : va_G) (cy : Nat → ClassId) (z : Nat → Nat) (hK : va_K D classes (TY cy) s) (hSD : SD z (fun q : Nat => s.heap.size ≤ q) s) (hSE : SE z (fun q : Nat => s.heap.size ≤ q) s) {Ps : PSI} {ws : va_W} {H : Heap} {locs : List Loc} {x y o : Nat} (hw : WD D cy GG (fun q : Nat => s.heap.size ≤ q) s wrL waL [] [] Ps ws H locs) (h_x : (x, 33) ∈ Ps) (h_y : (y, 55) ∈ Ps) (h_o : (o, 56) ∈ Ps) {gh : Int} {gdT : Nat → Nat} {gdq : Nat → Nat} {gdg : Nat → Nat} {gdo : OS} {gdA : OS} {gdB : OS} {gda : Int32} {gdb : Int32} {gdR : Nat → Int32} {gdU : Nat → Int32} {gdV : Nat → Int32} {gdN : Nat → Nat} {gdNU : Nat → Nat} {gdNV : Nat → Nat} {gdL : Nat → Int64} {gdLU : Nat → Int64} {gdLV : Nat → Int64} {gdf : Int32} (x_TLX_x_gh : TLX ws x (gh)) (x_TLM_y_gh : TLM ws y (gh)) (x_BYX_x_gdT : BYX Ps ws x gdT) (x_BYM_y_gdT : BYM Ps ws y gdT) (x_WKX_x : WKX Ps ws x) (x_GWX_x_gdq : GWX ws x gdq) (x_GQ_gdq_gdg : GQ Ps ws gdq gdg) (x_HE_gdq_gdg_gdo_gdA_gdB_false_false : HE Ps ws gdq gdg gdo gdA gdB false false) (x_FLP_gdq_gda_gdb : FLP ws gdq gda gdb) (x_HD_y_gdR : AX 14 34 (HDp gdR) Ps ws y) (x_KP_y_gdU_gdV : AX 16 36 (KPp gdU gdV) Ps ws y) (x_ISA_y_gda_gdb : AX 23 44 (ISp gda gdb) Ps ws y) (x_NAM_y_gdL : AXL 20 41 (NMp gdL) Ps ws y) (x_KNM_y_gdLU_gdLV : AXL 22 43 (KNp gdLU gdLV) Ps ws y) (x_PDF_gdo_gdR_gdN : (PDO gdo gdR gdN)) (x_NLP_gdR_gdN_gdL : (NLC gdR gdN gdL)) (x_LKP_gda_gdA_gdU_gdNU_gdLU : (LKP gda gdA gdU gdNU gdLU)) (x_LKP_gdb_gdB_gdV_gdNV_gdLV : (LKP gdb gdB gdV gdNV gdLV)) (x_LF_x_gdf : FLD ws x 9 11 (.int gdf)) (x_MF_y_gdf : FLD ws y 10 10 (.int gdf)) {i : Int32} (r_i : RI i 0 3066) (hiL : i.toInt + 6 ≤ L) {C S : Nat} (hC : C + 6 ≤ 601024) (hSl : S + 125 ≤ 7293034) {ls : Array Slot} (hl : lv_has ls 7 [(4, .int i), (3, .ref o), (2, .ref y), (1, .ref x), (0, .ref b)]) {Q : State → Prop} (kx : ∀ (gh : Int) (gdT : Nat → Nat) (gdq : Nat → Nat) (gdg : Nat → Nat) (gdo : OS) (gdA : OS) (gdB : OS) (gda : Int32) (gdb : Int32) (gdR : Nat → Int32) (gdU : Nat → Int32) (gdV : Nat → Int32) (gdN : Nat → Nat) (gdNU : Nat → Nat) (gdNV : Nat → Nat) (gdL : Nat → Int64) (gdLU : Nat → Int64) (gdLV : Nat → Int64) (gdf : Int32) (Ps : PSI) (ws : va_W) (H : Heap) (locs : List Loc) (ls : Array Slot), WD D cy GG (fun q : Nat => s.heap.size ≤ q) s wrL waL [] [] Ps ws H locs → (x, 33) ∈ Ps → (y, 55) ∈ Ps → (o, 56) ∈ Ps → TLX ws x (gh) → TLM ws y (gh) → BYX Ps ws x gdT → BYM Ps ws y gdT → WKX Ps ws x → GWX ws x gdq → GQ Ps ws gdq gdg → HE Ps ws gdq gdg gdo gdA gdB false false → FLP ws gdq gda gdb → AX 14 34 (HDp gdR) Ps ws y → AX 16 36 (KPp gdU gdV) Ps ws y → AX 23 44 (ISp gda gdb) Ps ws y → AXL 20 41 (NMp gdL) Ps ws y → AXL 22 43 (KNp gdLU gdLV) Ps ws y → (PDO gdo gdR gdN) → (NLC gdR gdN gdL) → (LKP gda gdA gdU gdNU gdLU) → (LKP gdb gdB gdV gdNV gdLV) → FLD ws x 9 11 (.int gdf) → FLD ws y 10 10 (.int gdf) → lv_has ls 7 [(4, .int i), (3, .ref o), (2, .ref y), (1, .ref x), (0, .ref b)] → W p l e room_1 s m #[Value.ref b] below meth c H locs (C + 6) (S + 125) Q (F0 m 1335 ls [])) : W p l e room_1 s m #[Value.ref b] below meth c H locs C S Q (F0 m 1222 ls []) := by
  have hA : ∀ q : Nat, s.heap.size ≤ q → (fun q : Nat => s.heap.size ≤ q) q := fun _ h => h
  have hbA : ¬ (fun q : Nat => s.heap.size ≤ q) b := Nat.not_le.mpr hbl
  refine lv_aload_n hx hb dL_law_1222 rfl (lv_at hl 3 rfl) ?_
  refine tk_iA (va_runV (As := []) (rest := []) ⟨hx, hb, hml, hown, hts⟩ (c_X9_sentence__3 l D cy z H.size Ps ws hw.1 x (gh) (gdT) (gdq) (gdg) (gdo) (gdA) (gdB) (gdR) (gdN) h_x x_TLX_x_gh x_BYX_x_gdT x_WKX_x x_GWX_x_gdq x_HE_gdq_gdg_gdo_gdA_gdB_false_false x_PDF_gdo_gdR_gdN) (cwV 0 hts (gV tw_941 tw_942 tw_943 tw_1 tw_944) rfl rfl rfl (by decide +kernel) ⟨Nat.le_of_ble_eq_true rfl, Nat.le_of_ble_eq_true rfl⟩) (tg_preV hw hK hSD hA (ci := 9) (q := (RX9, TX9, 15)) rfl h_x rfl) rfl rfl hl.1 rfl (lv_room (Nat.le_of_ble_eq_true rfl)) dL_law_1223 ⟨by show _ ≤ 601024; omega, by show _ ≤ 7293034; omega⟩) hw hA ⟨by decide, by decide⟩ (fun v_1 Pn ws H locs hp_v_1 hup hw hF9 => ?_)
  have h_x := hup _ h_x
  have h_y := hup _ h_y
  have h_o := hup _ h_o
  have x_TLM_y_gh := TLM.over hF9 x_TLM_y_gh (by decide)
  have x_BYX_x_gdT := BYX.over hF9 x_BYX_x_gdT (by decide)
  have x_BYM_y_gdT := BYM.over hF9 x_BYM_y_gdT (by decide)
  have x_WKX_x := WKX.over hF9 x_WKX_x (by decide)
  have x_GWX_x_gdq := GWX.over hF9 x_GWX_x_gdq (by decide)
  have x_GQ_gdq_gdg := GQ.over hF9 x_GQ_gdq_gdg (by decide)
  have x_HE_gdq_gdg_gdo_gdA_gdB_false_false := HE.over hF9 x_HE_gdq_gdg_gdo_gdA_gdB_false_false (by decide)
  have x_FLP_gdq_gda_gdb := FLP.over hF9 x_FLP_gdq_gda_gdb (by decide)
  have x_HD_y_gdR := AX.over hF9 x_HD_y_gdR (by decide)
  have x_KP_y_gdU_gdV := AX.over hF9 x_KP_y_gdU_gdV (by decide)
  have x_ISA_y_gda_gdb := AX.over hF9 x_ISA_y_gda_gdb (by decide)
  have x_NAM_y_gdL := AXL.over hF9 x_NAM_y_gdL (by decide)
  have x_KNM_y_gdLU_gdLV := AXL.over hF9 x_KNM_y_gdLU_gdLV (by decide)
  have x_MF_y_gdf := FLD.over hF9 x_MF_y_gdf (by decide)
  have x_BYX_x_gdT := BYX.up hup hw x_BYX_x_gdT
  have x_BYM_y_gdT := BYM.up hup hw x_BYM_y_gdT
  have x_WKX_x := WKX.up hup hw x_WKX_x
  have x_GQ_gdq_gdg := GQ.up hup hw x_GQ_gdq_gdg
  have x_HE_gdq_gdg_gdo_gdA_gdB_false_false := HE.up hup hw x_HE_gdq_gdg_gdo_gdA_gdB_false_false
  have x_HD_y_gdR := AX.up hup hw x_HD_y_gdR
  have x_KP_y_gdU_gdV := AX.up hup hw x_KP_y_gdU_gdV
  have x_ISA_y_gda_gdb := AX.up hup hw x_ISA_y_gda_gdb
  have x_NAM_y_gdL := AXL.up hup hw x_NAM_y_gdL
  have x_KNM_y_gdLU_gdLV := AXL.up hup hw x_KNM_y_gdLU_gdLV
  have r_v_1 : RI v_1 (-2147483648) 2147483647 := hp_v_1.1
  have x_TLX_x_0 := hp_v_1.2.2.2.1.1
  have x_SSN_v_1_gdT_gh_gdR_gdN := hp_v_1.2.2.2.1.2.1
  have x_LFS_x_gdT_gh_gdR_gdN := hp_v_1.2.2.2.1.2.2.1
  refine lv_pop hx hb dL_law_1226 rfl ?_
  refine lv_aload_n hx hb dL_law_1227 rfl (lv_at hl 2 rfl) ?_
  refine tk_i (va_runV (As := []) (rest := []) ⟨hx, hb, hml, hown, hts⟩ (c_X10_sentence__4_s5 l D cy z H.size Pn ws hw.1 y (gh) (gdT) (gdR) (gdN) (gdL) h_y x_TLM_y_gh x_BYM_y_gdT x_HD_y_gdR x_NAM_y_gdL x_NLP_gdR_gdN_gdL) (cwV 0 hts (gV tw_1747 tw_1748 tw_1749 tw_15 tw_1750) rfl rfl rfl (by decide +kernel) ⟨Nat.le_of_ble_eq_true rfl, Nat.le_of_ble_eq_true rfl⟩) (tg_preV hw hK hSD hA (ci := 10) (q := (RX10, TX10, 49)) rfl h_y rfl) rfl rfl hl.1 rfl (lv_room (Nat.le_of_ble_eq_true rfl)) dL_law_1228 ⟨by show _ ≤ 601024; omega, by show _ ≤ 7293034; omega⟩) hw hA ⟨by decide, by decide⟩ (fun v_2 ws H locs hp_v_2 hw hF9 => ?_)
  have x_BYX_x_gdT := BYX.over hF9 x_BYX_x_gdT (by decide)
  have x_BYM_y_gdT := BYM.over hF9 x_BYM_y_gdT (by decide)
  have x_WKX_x := WKX.over hF9 x_WKX_x (by decide)
  have x_GWX_x_gdq := GWX.over hF9 x_GWX_x_gdq (by decide)
  have x_GQ_gdq_gdg := GQ.over hF9 x_GQ_gdq_gdg (by decide)
  have x_HE_gdq_gdg_gdo_gdA_gdB_false_false := HE.over hF9 x_HE_gdq_gdg_gdo_gdA_gdB_false_false (by decide)
  have x_FLP_gdq_gda_gdb := FLP.over hF9 x_FLP_gdq_gda_gdb (by decide)
  have x_KP_y_gdU_gdV := AX.over hF9 x_KP_y_gdU_gdV (by decide)
  have x_ISA_y_gda_gdb := AX.over hF9 x_ISA_y_gda_gdb (by decide)
  have x_NAM_y_gdL := AXL.over hF9 x_NAM_y_gdL (by decide)
  have x_KNM_y_gdLU_gdLV := AXL.over hF9 x_KNM_y_gdLU_gdLV (by decide)
  have x_TLX_x_0 := TLX.over hF9 x_TLX_x_0 (by decide)
  have x_LFS_x_gdT_gh_gdR_gdN := FLD.over hF9 x_LFS_x_gdT_gh_gdR_gdN (by decide)
  have r_v_2 : RI v_2 (-2147483648) 2147483647 := hp_v_2.1
  have x_TLM_y_0 := hp_v_2.2.2.2.1.1
  have x_HD_y_gdR := hp_v_2.2.2.2.1.2.1
  have x_SSN_v_2_gdT_gh_gdR_gdN := hp_v_2.2.2.2.1.2.2.1
  have x_MFS_y_gdT_gh_gdR_gdN := hp_v_2.2.2.2.1.2.2.2.1
  refine lv_pop hx hb dL_law_1231 rfl ?_
  refine lv_goto (tgt := 1335) hx hb dL_law_1232 (by decide) ?_
  refine W.widen (k := C + 6) (n := S + 125) (by omega) (by omega) ?_
  exact kx (0) gdT gdq gdg gdo gdA gdB gda gdb gdR gdU gdV gdN gdNU gdNV gdL gdLU gdLV (FAU (sSent gdT (Int.toNat gh) 200 gdR gdN)) _ ws _ _ ls hw h_x h_y h_o x_TLX_x_0 x_TLM_y_0 x_BYX_x_gdT x_BYM_y_gdT x_WKX_x x_GWX_x_gdq x_GQ_gdq_gdg x_HE_gdq_gdg_gdo_gdA_gdB_false_false x_FLP_gdq_gda_gdb x_HD_y_gdR x_KP_y_gdU_gdV x_ISA_y_gda_gdb x_NAM_y_gdL x_KNM_y_gdLU_gdLV x_PDF_gdo_gdR_gdN x_NLP_gdR_gdN_gdL x_LKP_gda_gdA_gdU_gdNU_gdLU x_LKP_gdb_gdB_gdV_gdNV_gdLV x_LFS_x_gdT_gh_gdR_gdN x_MFS_y_gdT_gh_gdR_gdN (lv_sub hl [0, 1, 2, 3, 4] rfl)
set_option maxHeartbeats 4000000 in
set_option maxRecDepth 100000 in
theorem op37 {p : Program} {e : Env} {s : State} {m : MethodId} {below : List Frame} {meth : Method} {c : Code} (l : Launch) (hl0 : l.stackTraces = false) {b L : Nat} {xs : Nat → Int32} (hx : p.tables.exec = Jvm.exec) (hb : c.code = code) (hml : c.maxLocals = 7) (hown : s.vm.findClass RL = some m.cls) (hts : ∀ w ∈ gT, w.before #[Value.ref b] s = true) (hX : va_X b L xs s s.heap) (hbl : b < s.heap.size) (D : va_G) (cy : Nat → ClassId) (z : Nat → Nat) (hK : va_K D classes (TY cy) s) (hSD : SD z (fun q : Nat => s.heap.size ≤ q) s) (hSE : SE z (fun q : Nat => s.heap.size ≤ q) s) {Ps : PSI} {ws : va_W} {H : Heap} {locs : List Loc} {x y o : Nat} (hw : WD D cy GG (fun q : Nat => s.heap.size ≤ q) s wrL waL [] [] Ps ws H locs) (h_x : (x, 33) ∈ Ps) (h_y : (y, 55) ∈ Ps) (h_o : (o, 56) ∈ Ps) {gh : Int} {gdT : Nat → Nat} {gdq : Nat → Nat} {gdg : Nat → Nat} {gdo : OS} {gdA : OS} {gdB : OS} {gda : Int32} {gdb : Int32} {gdR : Nat → Int32} {gdU : Nat → Int32} {gdV : Nat → Int32} {gdN : Nat → Nat} {gdNU : Nat → Nat} {gdNV : Nat → Nat} {gdL : Nat → Int64} {gdLU : Nat → Int64} {gdLV : Nat → Int64} {gdf : Int32} (x_TLX_x_gh : TLX ws x (gh)) (x_TLM_y_gh : TLM ws y (gh)) (x_BYX_x_gdT : BYX Ps ws x gdT) (x_BYM_y_gdT : BYM Ps ws y gdT) (x_WKX_x : WKX Ps ws x) (x_GWX_x_gdq : GWX ws x gdq) (x_GQ_gdq_gdg : GQ Ps ws gdq gdg) (x_HE_gdq_gdg_gdo_gdA_gdB_false_false : HE Ps ws gdq gdg gdo gdA gdB false false) (x_FLP_gdq_gda_gdb : FLP ws gdq gda gdb) (x_HD_y_gdR : AX 14 34 (HDp gdR) Ps ws y) (x_KP_y_gdU_gdV : AX 16 36 (KPp gdU gdV) Ps ws y) (x_ISA_y_gda_gdb : AX 23 44 (ISp gda gdb) Ps ws y) (x_NAM_y_gdL : AXL 20 41 (NMp gdL) Ps ws y) (x_KNM_y_gdLU_gdLV : AXL 22 43 (KNp gdLU gdLV) Ps ws y) (x_PDF_gdo_gdR_gdN : (PDO gdo gdR gdN)) (x_NLP_gdR_gdN_gdL : (NLC gdR gdN gdL)) (x_LKP_gda_gdA_gdU_gdNU_gdLU : (LKP gda gdA gdU gdNU gdLU)) (x_LKP_gdb_gdB_gdV_gdNV_gdLV : (LKP gdb gdB gdV gdNV gdLV)) (x_LF_x_gdf : FLD ws x 9 11 (.int gdf)) (x_MF_y_gdf : FLD ws y 10 10 (.int gdf)) {i : Int32} (r_i : RI i 0 3066) (hiL : i.toInt + 6 ≤ L) {C S : Nat} (hC : C + 6 ≤ 601024) (hSl : S + 125 ≤ 7293034) {ls : Array Slot} (hl : lv_has ls 7 [(4, .int i), (3, .ref o), (2, .ref y), (1, .ref x), (0, .ref b)]) {Q : State → Prop} (kx : ∀ (gh : Int) (gdT : Nat → Nat) (gdq : Nat → Nat) (gdg : Nat → Nat) (gdo : OS) (gdA : OS) (gdB : OS) (gda : Int32) (gdb : Int32) (gdR : Nat → Int32) (gdU : Nat → Int32) (gdV : Nat → Int32) (gdN : Nat → Nat) (gdNU : Nat → Nat) (gdNV : Nat → Nat) (gdL : Nat → Int64) (gdLU : Nat → Int64) (gdLV : Nat → Int64) (gdf : Int32) (Ps : PSI) (ws : va_W) (H : Heap) (locs : List Loc) (ls : Array Slot), WD D cy GG (fun q : Nat => s.heap.size ≤ q) s wrL waL [] [] Ps ws H locs → (x, 33) ∈ Ps → (y, 55) ∈ Ps → (o, 56) ∈ Ps → TLX ws x (gh) → TLM ws y (gh) → BYX Ps ws x gdT → BYM Ps ws y gdT → WKX Ps ws x → GWX ws x gdq → GQ Ps ws gdq gdg → HE Ps ws gdq gdg gdo gdA gdB false false → FLP ws gdq gda gdb → AX 14 34 (HDp gdR) Ps ws y → AX 16 36 (KPp gdU gdV) Ps ws y → AX 23 44 (ISp gda gdb) Ps ws y → AXL 20 41 (NMp gdL) Ps ws y → AXL 22 43 (KNp gdLU gdLV) Ps ws y → (PDO gdo gdR gdN) → (NLC gdR gdN gdL) → (LKP gda gdA gdU gdNU gdLU) → (LKP gdb gdB gdV gdNV gdLV) → FLD ws x 9 11 (.int gdf) → FLD ws y 10 10 (.int gdf) → lv_has ls 7 [(4, .int i), (3, .ref o), (2, .ref y), (1, .ref x), (0, .ref b)] → W p l e room_1 s m #[Value.ref b] below meth c H locs (C + 6) (S + 125) Q (F0 m 1335 ls [])) : W p l e room_1 s m #[Value.ref b] below meth c H locs C S Q (F0 m 1235 ls []) := by
  have hA : ∀ q : Nat, s.heap.size ≤ q → (fun q : Nat => s.heap.size ≤ q) q := fun _ h => h
  have hbA : ¬ (fun q : Nat => s.heap.size ≤ q) b := Nat.not_le.mpr hbl
  refine lv_aload_n hx hb dL_law_1235 rfl (lv_at hl 3 rfl) ?_
  refine lv_aload_n hx hb dL_law_1236 rfl (lv_at hl 4 rfl) ?_
  refine lv_iload hx hb dL_law_1237 (lv_at hl 0 rfl) ?_
  refine lv_iconst (v := 1) hx hb dL_law_1239 (by decide) ?_
  refine lv_iadd hx hb dL_law_1240 (lv_topi (fun v_1 e_v_1 => ?_))
  obtain ⟨t_v_1, r_v_1⟩ := tq_add (lo := 1) (hi := 3067) r_i rl_1 (by decide +kernel) e_v_1
  have t_v_1 : v_1.toInt = i.toInt + 1 := t_v_1
  refine va_sld hx hb hX hbl hbA hw.2.2.2.1 (i := v_1) (vp_in_iff.mpr ⟨by have k1 := r_v_1.1; omega, by have k1 := r_v_1.2; omega⟩) dL_law_1241 ?_
  obtain ⟨v_2, e_v_2⟩ : ∃ q9 : Int32, xs (Int32.toNatClampNeg v_1) = q9 := ⟨_, rfl⟩
  refine tI e_v_2 ?_
  have r_v_2 := ri_any v_2
  refine tk_ir (va_runV (As := [.int v_2]) (rest := []) ⟨hx, hb, hml, hown, hts⟩ (c_X9_said l D cy z H.size Ps ws hw.1 x v_2 h_x r_v_2) (cwV 1 hts (gV tw_999 tw_1000 tw_1001 tw_1 tw_1002) rfl rfl rfl (by decide +kernel) ⟨Nat.le_of_ble_eq_true rfl, Nat.le_of_ble_eq_true rfl⟩) (tg_preV hw hK hSD hA (ci := 9) (q := (RX9, TX9, 15)) rfl h_x rfl) rfl rfl hl.1 rfl (lv_room (Nat.le_of_ble_eq_true rfl)) dL_law_1242 ⟨by show _ ≤ 601024; omega, by show _ ≤ 7293034; omega⟩) hw hA (fun v_3  H locs hp_v_3 hw => ?_)
  have r_v_3 : RI v_3 (-2147483648) 2147483647 := hp_v_3.1
  refine lv_pop hx hb dL_law_1245 rfl ?_
  refine lv_aload_n hx hb dL_law_1246 rfl (lv_at hl 2 rfl) ?_
  refine lv_aload_n hx hb dL_law_1247 rfl (lv_at hl 4 rfl) ?_
  refine lv_iload hx hb dL_law_1248 (lv_at hl 0 rfl) ?_
  refine lv_iconst (v := 1) hx hb dL_law_1250 (by decide) ?_
  refine lv_iadd hx hb dL_law_1251 (lv_topi (fun v_4 e_v_4 => ?_))
  obtain ⟨t_v_4, r_v_4⟩ := tq_add (lo := 1) (hi := 3067) r_i rl_1 (by decide +kernel) e_v_4
  have t_v_4 : v_4.toInt = i.toInt + 1 := t_v_4
  refine va_sld hx hb hX hbl hbA hw.2.2.2.1 (i := v_4) (vp_in_iff.mpr ⟨by have k1 := r_v_4.1; omega, by have k1 := r_v_4.2; omega⟩) dL_law_1252 ?_
  refine tI (y := v_2) (by rw [e_v_4, ← e_v_1]; exact e_v_2) ?_
  refine tk_i (va_runV (As := [.int v_2]) (rest := []) ⟨hx, hb, hml, hown, hts⟩ (c_X10_said l D cy z H.size Ps ws hw.1 y v_2 h_y r_v_2) (cwV 1 hts (gV tw_1783 tw_1784 tw_1785 tw_15 tw_1786) rfl rfl rfl (by decide +kernel) ⟨Nat.le_of_ble_eq_true rfl, Nat.le_of_ble_eq_true rfl⟩) (tg_preV hw hK hSD hA (ci := 10) (q := (RX10, TX10, 49)) rfl h_y rfl) rfl rfl hl.1 rfl (lv_room (Nat.le_of_ble_eq_true rfl)) dL_law_1253 ⟨by show _ ≤ 601024; omega, by show _ ≤ 7293034; omega⟩) hw hA ⟨by decide, by decide⟩ (fun v_6 ws H locs hp_v_6 hw hF9 => ?_)
  have x_TLX_x_gh := TLX.over hF9 x_TLX_x_gh (by decide)
  have x_TLM_y_gh := TLM.over hF9 x_TLM_y_gh (by decide)
  have x_BYX_x_gdT := BYX.over hF9 x_BYX_x_gdT (by decide)
  have x_BYM_y_gdT := BYM.over hF9 x_BYM_y_gdT (by decide)
  have x_WKX_x := WKX.over hF9 x_WKX_x (by decide)
  have x_GWX_x_gdq := GWX.over hF9 x_GWX_x_gdq (by decide)
  have x_GQ_gdq_gdg := GQ.over hF9 x_GQ_gdq_gdg (by decide)
  have x_HE_gdq_gdg_gdo_gdA_gdB_false_false := HE.over hF9 x_HE_gdq_gdg_gdo_gdA_gdB_false_false (by decide)
  have x_FLP_gdq_gda_gdb := FLP.over hF9 x_FLP_gdq_gda_gdb (by decide)
  have x_HD_y_gdR := AX.over hF9 x_HD_y_gdR (by decide)
  have x_KP_y_gdU_gdV := AX.over hF9 x_KP_y_gdU_gdV (by decide)
  have x_ISA_y_gda_gdb := AX.over hF9 x_ISA_y_gda_gdb (by decide)
  have x_NAM_y_gdL := AXL.over hF9 x_NAM_y_gdL (by decide)
  have x_KNM_y_gdLU_gdLV := AXL.over hF9 x_KNM_y_gdLU_gdLV (by decide)
  have x_LF_x_gdf := FLD.over hF9 x_LF_x_gdf (by decide)
  have x_MF_y_gdf := FLD.over hF9 x_MF_y_gdf (by decide)
  have r_v_6 : RI v_6 (-2147483648) 2147483647 := hp_v_6.1
  refine lv_pop hx hb dL_law_1256 rfl ?_
  refine lv_goto (tgt := 1335) hx hb dL_law_1257 (by decide) ?_
  refine W.widen (k := C + 6) (n := S + 125) (by omega) (by omega) ?_
  exact kx (gh) gdT gdq gdg gdo gdA gdB gda gdb gdR gdU gdV gdN gdNU gdNV gdL gdLU gdLV gdf _ ws _ _ ls hw h_x h_y h_o x_TLX_x_gh x_TLM_y_gh x_BYX_x_gdT x_BYM_y_gdT x_WKX_x x_GWX_x_gdq x_GQ_gdq_gdg x_HE_gdq_gdg_gdo_gdA_gdB_false_false x_FLP_gdq_gda_gdb x_HD_y_gdR x_KP_y_gdU_gdV x_ISA_y_gda_gdb x_NAM_y_gdL x_KNM_y_gdLU_gdLV x_PDF_gdo_gdR_gdN x_NLP_gdR_gdN_gdL x_LKP_gda_gdA_gdU_gdNU_gdLU x_LKP_gdb_gdB_gdV_gdNV_gdLV x_LF_x_gdf x_MF_y_gdf (lv_sub hl [0, 1, 2, 3, 4] rfl)
set_option maxHeartbeats 4000000 in
set_option maxRecDepth 100000 in
theorem op38 {p : Program} {e : Env} {s : State} {m : MethodId} {below : List Frame} {meth : Method} {c : Code} (l : Launch) (hl0 : l.stackTraces = false) {b L : Nat} {xs : Nat → Int32} (hx : p.tables.exec = Jvm.exec) (hb : c.code = code) (hml : c.maxLocals = 7) (hown : s.vm.findClass RL = some m.cls) (hts : ∀ w ∈ gT, w.before #[Value.ref b] s = true) (hX : va_X b L xs s s.heap) (hbl : b < s.heap.size) (D : va_G) (cy : Nat → ClassId) (z : Nat → Nat) (hK : va_K D classes (TY cy) s) (hSD : SD z (fun q : Nat => s.heap.size ≤ q) s) (hSE : SE z (fun q : Nat => s.heap.size ≤ q) s) {Ps : PSI} {ws : va_W} {H : Heap} {locs : List Loc} {x y o : Nat} (hw : WD D cy GG (fun q : Nat => s.heap.size ≤ q) s wrL waL [] [] Ps ws H locs) (h_x : (x, 33) ∈ Ps) (h_y : (y, 55) ∈ Ps) (h_o : (o, 56) ∈ Ps) {gh : Int} {gdT : Nat → Nat} {gdq : Nat → Nat} {gdg : Nat → Nat} {gdo : OS} {gdA : OS} {gdB : OS} {gda : Int32} {gdb : Int32} {gdR : Nat → Int32} {gdU : Nat → Int32} {gdV : Nat → Int32} {gdN : Nat → Nat} {gdNU : Nat → Nat} {gdNV : Nat → Nat} {gdL : Nat → Int64} {gdLU : Nat → Int64} {gdLV : Nat → Int64} {gdf : Int32} (x_TLX_x_gh : TLX ws x (gh)) (x_TLM_y_gh : TLM ws y (gh)) (x_BYX_x_gdT : BYX Ps ws x gdT) (x_BYM_y_gdT : BYM Ps ws y gdT) (x_WKX_x : WKX Ps ws x) (x_GWX_x_gdq : GWX ws x gdq) (x_GQ_gdq_gdg : GQ Ps ws gdq gdg) (x_HE_gdq_gdg_gdo_gdA_gdB_false_false : HE Ps ws gdq gdg gdo gdA gdB false false) (x_FLP_gdq_gda_gdb : FLP ws gdq gda gdb) (x_HD_y_gdR : AX 14 34 (HDp gdR) Ps ws y) (x_KP_y_gdU_gdV : AX 16 36 (KPp gdU gdV) Ps ws y) (x_ISA_y_gda_gdb : AX 23 44 (ISp gda gdb) Ps ws y) (x_NAM_y_gdL : AXL 20 41 (NMp gdL) Ps ws y) (x_KNM_y_gdLU_gdLV : AXL 22 43 (KNp gdLU gdLV) Ps ws y) (x_PDF_gdo_gdR_gdN : (PDO gdo gdR gdN)) (x_NLP_gdR_gdN_gdL : (NLC gdR gdN gdL)) (x_LKP_gda_gdA_gdU_gdNU_gdLU : (LKP gda gdA gdU gdNU gdLU)) (x_LKP_gdb_gdB_gdV_gdNV_gdLV : (LKP gdb gdB gdV gdNV gdLV)) (x_LF_x_gdf : FLD ws x 9 11 (.int gdf)) (x_MF_y_gdf : FLD ws y 10 10 (.int gdf)) {i : Int32} (r_i : RI i 0 3066) (hiL : i.toInt + 6 ≤ L) {C S : Nat} (hC : C + 6 ≤ 601024) (hSl : S + 125 ≤ 7293034) {ls : Array Slot} (hl : lv_has ls 7 [(4, .int i), (3, .ref o), (2, .ref y), (1, .ref x), (0, .ref b)]) {Q : State → Prop} (kx : ∀ (gh : Int) (gdT : Nat → Nat) (gdq : Nat → Nat) (gdg : Nat → Nat) (gdo : OS) (gdA : OS) (gdB : OS) (gda : Int32) (gdb : Int32) (gdR : Nat → Int32) (gdU : Nat → Int32) (gdV : Nat → Int32) (gdN : Nat → Nat) (gdNU : Nat → Nat) (gdNV : Nat → Nat) (gdL : Nat → Int64) (gdLU : Nat → Int64) (gdLV : Nat → Int64) (gdf : Int32) (Ps : PSI) (ws : va_W) (H : Heap) (locs : List Loc) (ls : Array Slot), WD D cy GG (fun q : Nat => s.heap.size ≤ q) s wrL waL [] [] Ps ws H locs → (x, 33) ∈ Ps → (y, 55) ∈ Ps → (o, 56) ∈ Ps → TLX ws x (gh) → TLM ws y (gh) → BYX Ps ws x gdT → BYM Ps ws y gdT → WKX Ps ws x → GWX ws x gdq → GQ Ps ws gdq gdg → HE Ps ws gdq gdg gdo gdA gdB false false → FLP ws gdq gda gdb → AX 14 34 (HDp gdR) Ps ws y → AX 16 36 (KPp gdU gdV) Ps ws y → AX 23 44 (ISp gda gdb) Ps ws y → AXL 20 41 (NMp gdL) Ps ws y → AXL 22 43 (KNp gdLU gdLV) Ps ws y → (PDO gdo gdR gdN) → (NLC gdR gdN gdL) → (LKP gda gdA gdU gdNU gdLU) → (LKP gdb gdB gdV gdNV gdLV) → FLD ws x 9 11 (.int gdf) → FLD ws y 10 10 (.int gdf) → lv_has ls 7 [(4, .int i), (3, .ref o), (2, .ref y), (1, .ref x), (0, .ref b)] → W p l e room_1 s m #[Value.ref b] below meth c H locs (C + 6) (S + 125) Q (F0 m 1335 ls [])) : W p l e room_1 s m #[Value.ref b] below meth c H locs C S Q (F0 m 1260 ls []) := by
  have hA : ∀ q : Nat, s.heap.size ≤ q → (fun q : Nat => s.heap.size ≤ q) q := fun _ h => h
  have hbA : ¬ (fun q : Nat => s.heap.size ≤ q) b := Nat.not_le.mpr hbl
  refine lv_aload_n hx hb dL_law_1260 rfl (lv_at hl 3 rfl) ?_
  refine lv_aload_n hx hb dL_law_1261 rfl (lv_at hl 4 rfl) ?_
  refine lv_iload hx hb dL_law_1262 (lv_at hl 0 rfl) ?_
  refine lv_iconst (v := 1) hx hb dL_law_1264 (by decide) ?_
  refine lv_iadd hx hb dL_law_1265 (lv_topi (fun v_1 e_v_1 => ?_))
  obtain ⟨t_v_1, r_v_1⟩ := tq_add (lo := 1) (hi := 3067) r_i rl_1 (by decide +kernel) e_v_1
  have t_v_1 : v_1.toInt = i.toInt + 1 := t_v_1
  refine va_sld hx hb hX hbl hbA hw.2.2.2.1 (i := v_1) (vp_in_iff.mpr ⟨by have k1 := r_v_1.1; omega, by have k1 := r_v_1.2; omega⟩) dL_law_1266 ?_
  obtain ⟨v_2, e_v_2⟩ : ∃ q9 : Int32, xs (Int32.toNatClampNeg v_1) = q9 := ⟨_, rfl⟩
  refine tI e_v_2 ?_
  have r_v_2 := ri_any v_2
  refine tk_i (va_runV (As := [.int v_2]) (rest := []) ⟨hx, hb, hml, hown, hts⟩ (c_X9_image__1 l D cy z H.size Ps ws hw.1 x v_2 (gdq) (gdg) (gdo) (gdA) (gdB) (gda) (gdb) h_x r_v_2 x_GWX_x_gdq x_GQ_gdq_gdg x_HE_gdq_gdg_gdo_gdA_gdB_false_false x_FLP_gdq_gda_gdb) (cwV 1 hts (gV tw_1018 tw_1019 tw_1020 tw_1 tw_1021) rfl rfl rfl (by decide +kernel) ⟨Nat.le_of_ble_eq_true rfl, Nat.le_of_ble_eq_true rfl⟩) (tg_preV hw hK hSD hA (ci := 9) (q := (RX9, TX9, 15)) rfl h_x rfl) rfl rfl hl.1 rfl (lv_room (Nat.le_of_ble_eq_true rfl)) dL_law_1267 ⟨by show _ ≤ 601024; omega, by show _ ≤ 7293034; omega⟩) hw hA ⟨by decide, by decide⟩ (fun v_3 ws H locs hp_v_3 hw hF9 => ?_)
  have x_TLX_x_gh := TLX.over hF9 x_TLX_x_gh (by decide)
  have x_TLM_y_gh := TLM.over hF9 x_TLM_y_gh (by decide)
  have x_BYX_x_gdT := BYX.over hF9 x_BYX_x_gdT (by decide)
  have x_BYM_y_gdT := BYM.over hF9 x_BYM_y_gdT (by decide)
  have x_WKX_x := WKX.over hF9 x_WKX_x (by decide)
  have x_GWX_x_gdq := GWX.over hF9 x_GWX_x_gdq (by decide)
  have x_GQ_gdq_gdg := GQ.over hF9 x_GQ_gdq_gdg (by decide)
  have x_HD_y_gdR := AX.over hF9 x_HD_y_gdR (by decide)
  have x_KP_y_gdU_gdV := AX.over hF9 x_KP_y_gdU_gdV (by decide)
  have x_ISA_y_gda_gdb := AX.over hF9 x_ISA_y_gda_gdb (by decide)
  have x_NAM_y_gdL := AXL.over hF9 x_NAM_y_gdL (by decide)
  have x_KNM_y_gdLU_gdLV := AXL.over hF9 x_KNM_y_gdLU_gdLV (by decide)
  have x_LF_x_gdf := FLD.over hF9 x_LF_x_gdf (by decide)
  have x_MF_y_gdf := FLD.over hF9 x_MF_y_gdf (by decide)
  have r_v_3 : RI v_3 0 1 := hp_v_3.1
  have x_HEI_gdq_gdg_gdo_gdA_gdB_v_2 := hp_v_3.2.2.2.1.1
  have x_FLI_gdq_v_2_gda_gdb := hp_v_3.2.2.2.1.2.1
  refine lv_pop hx hb dL_law_1270 rfl ?_
  refine lv_aload_n hx hb dL_law_1271 rfl (lv_at hl 2 rfl) ?_
  refine lv_aload_n hx hb dL_law_1272 rfl (lv_at hl 4 rfl) ?_
  refine lv_iload hx hb dL_law_1273 (lv_at hl 0 rfl) ?_
  refine lv_iconst (v := 1) hx hb dL_law_1275 (by decide) ?_
  refine lv_iadd hx hb dL_law_1276 (lv_topi (fun v_4 e_v_4 => ?_))
  obtain ⟨t_v_4, r_v_4⟩ := tq_add (lo := 1) (hi := 3067) r_i rl_1 (by decide +kernel) e_v_4
  have t_v_4 : v_4.toInt = i.toInt + 1 := t_v_4
  refine va_sld hx hb hX hbl hbA hw.2.2.2.1 (i := v_4) (vp_in_iff.mpr ⟨by have k1 := r_v_4.1; omega, by have k1 := r_v_4.2; omega⟩) dL_law_1277 ?_
  refine tI (y := v_2) (by rw [e_v_4, ← e_v_1]; exact e_v_2) ?_
  refine tk_i (va_runV (As := [.int v_2]) (rest := []) ⟨hx, hb, hml, hown, hts⟩ (c_X10_image__2 l D cy z H.size Ps ws hw.1 y v_2 (gdR) (gdU) (gdV) (gda) (gdb) (gdL) (gdLU) (gdLV) h_y r_v_2 x_HD_y_gdR x_KP_y_gdU_gdV x_ISA_y_gda_gdb x_NAM_y_gdL x_KNM_y_gdLU_gdLV) (cwV 1 hts (gV tw_1791 tw_1792 tw_1793 tw_15 tw_1794) rfl rfl rfl (by decide +kernel) ⟨Nat.le_of_ble_eq_true rfl, Nat.le_of_ble_eq_true rfl⟩) (tg_preV hw hK hSD hA (ci := 10) (q := (RX10, TX10, 49)) rfl h_y rfl) rfl rfl hl.1 rfl (lv_room (Nat.le_of_ble_eq_true rfl)) dL_law_1278 ⟨by show _ ≤ 601024; omega, by show _ ≤ 7293034; omega⟩) hw hA ⟨by decide, by decide⟩ (fun v_6 ws H locs hp_v_6 hw hF9 => ?_)
  have x_TLX_x_gh := TLX.over hF9 x_TLX_x_gh (by decide)
  have x_TLM_y_gh := TLM.over hF9 x_TLM_y_gh (by decide)
  have x_BYX_x_gdT := BYX.over hF9 x_BYX_x_gdT (by decide)
  have x_BYM_y_gdT := BYM.over hF9 x_BYM_y_gdT (by decide)
  have x_WKX_x := WKX.over hF9 x_WKX_x (by decide)
  have x_GWX_x_gdq := GWX.over hF9 x_GWX_x_gdq (by decide)
  have x_GQ_gdq_gdg := GQ.over hF9 x_GQ_gdq_gdg (by decide)
  have x_HD_y_gdR := AX.over hF9 x_HD_y_gdR (by decide)
  have x_NAM_y_gdL := AXL.over hF9 x_NAM_y_gdL (by decide)
  have x_LF_x_gdf := FLD.over hF9 x_LF_x_gdf (by decide)
  have x_MF_y_gdf := FLD.over hF9 x_MF_y_gdf (by decide)
  have x_HEI_gdq_gdg_gdo_gdA_gdB_v_2 := HE.over hF9 x_HEI_gdq_gdg_gdo_gdA_gdB_v_2 (by decide)
  have x_FLI_gdq_v_2_gda_gdb := FLP.over hF9 x_FLI_gdq_v_2_gda_gdb (by decide)
  have r_v_6 : RI v_6 0 1 := hp_v_6.1
  have x_HD_y_gdR := hp_v_6.2.2.2.1.1
  have x_KPI_y_v_2_gdR_gdU_gdV := hp_v_6.2.2.2.1.2.1
  have x_ISI_y_v_2_gda_gdb := hp_v_6.2.2.2.1.2.2.1
  have x_NAM_y_gdL := hp_v_6.2.2.2.1.2.2.2.1
  have x_KNI_y_v_2_gdL_gdLU_gdLV := hp_v_6.2.2.2.1.2.2.2.2.1
  refine lv_pop hx hb dL_law_1281 rfl ?_
  refine lv_goto (tgt := 1335) hx hb dL_law_1282 (by decide) ?_
  refine W.widen (k := C + 6) (n := S + 125) (by omega) (by omega) ?_
  exact kx (gh) gdT gdq gdg gdo (pick v_2 0 gdo gdA) (pick v_2 1 gdo gdB) (pick v_2 0 1 gda) (pick v_2 1 1 gdb) gdR (pick v_2 0 gdR gdU) (pick v_2 1 gdR gdV) gdN (pick v_2 0 gdN gdNU) (pick v_2 1 gdN gdNV) gdL (pick v_2 0 gdL gdLU) (pick v_2 1 gdL gdLV) gdf _ ws _ _ ls hw h_x h_y h_o x_TLX_x_gh x_TLM_y_gh x_BYX_x_gdT x_BYM_y_gdT x_WKX_x x_GWX_x_gdq x_GQ_gdq_gdg x_HEI_gdq_gdg_gdo_gdA_gdB_v_2 x_FLI_gdq_v_2_gda_gdb x_HD_y_gdR x_KPI_y_v_2_gdR_gdU_gdV x_ISI_y_v_2_gda_gdb x_NAM_y_gdL x_KNI_y_v_2_gdL_gdLU_gdLV x_PDF_gdo_gdR_gdN x_NLP_gdR_gdN_gdL (LKP.pk x_PDF_gdo_gdR_gdN x_NLP_gdR_gdN_gdL x_LKP_gda_gdA_gdU_gdNU_gdLU) (LKP.pk x_PDF_gdo_gdR_gdN x_NLP_gdR_gdN_gdL x_LKP_gdb_gdB_gdV_gdNV_gdLV) x_LF_x_gdf x_MF_y_gdf (lv_sub hl [0, 1, 2, 3, 4] rfl)
set_option maxHeartbeats 4000000 in
set_option maxRecDepth 100000 in
theorem op39 {p : Program} {e : Env} {s : State} {m : MethodId} {below : List Frame} {meth : Method} {c : Code} (l : Launch) (hl0 : l.stackTraces = false) {b L : Nat} {xs : Nat → Int32} (hx : p.tables.exec = Jvm.exec) (hb : c.code = code) (hml : c.maxLocals = 7) (hown : s.vm.findClass RL = some m.cls) (hts : ∀ w ∈ gT, w.before #[Value.ref b] s = true) (hX : va_X b L xs s s.heap) (hbl : b < s.heap.size) (D : va_G) (cy : Nat → ClassId) (z : Nat → Nat) (hK : va_K D classes (TY cy) s) (hSD : SD z (fun q : Nat => s.heap.size ≤ q) s) (hSE : SE z (fun q : Nat => s.heap.size ≤ q) s) {Ps : PSI} {ws : va_W} {H : Heap} {locs : List Loc} {x y o : Nat} (hw : WD D cy GG (fun q : Nat => s.heap.size ≤ q) s wrL waL [] [] Ps ws H locs) (h_x : (x, 33) ∈ Ps) (h_y : (y, 55) ∈ Ps) (h_o : (o, 56) ∈ Ps) {gh : Int} {gdT : Nat → Nat} {gdq : Nat → Nat} {gdg : Nat → Nat} {gdo : OS} {gdA : OS} {gdB : OS} {gda : Int32} {gdb : Int32} {gdR : Nat → Int32} {gdU : Nat → Int32} {gdV : Nat → Int32} {gdN : Nat → Nat} {gdNU : Nat → Nat} {gdNV : Nat → Nat} {gdL : Nat → Int64} {gdLU : Nat → Int64} {gdLV : Nat → Int64} {gdf : Int32} (x_TLX_x_gh : TLX ws x (gh)) (x_TLM_y_gh : TLM ws y (gh)) (x_BYX_x_gdT : BYX Ps ws x gdT) (x_BYM_y_gdT : BYM Ps ws y gdT) (x_WKX_x : WKX Ps ws x) (x_GWX_x_gdq : GWX ws x gdq) (x_GQ_gdq_gdg : GQ Ps ws gdq gdg) (x_HE_gdq_gdg_gdo_gdA_gdB_false_false : HE Ps ws gdq gdg gdo gdA gdB false false) (x_FLP_gdq_gda_gdb : FLP ws gdq gda gdb) (x_HD_y_gdR : AX 14 34 (HDp gdR) Ps ws y) (x_KP_y_gdU_gdV : AX 16 36 (KPp gdU gdV) Ps ws y) (x_ISA_y_gda_gdb : AX 23 44 (ISp gda gdb) Ps ws y) (x_NAM_y_gdL : AXL 20 41 (NMp gdL) Ps ws y) (x_KNM_y_gdLU_gdLV : AXL 22 43 (KNp gdLU gdLV) Ps ws y) (x_PDF_gdo_gdR_gdN : (PDO gdo gdR gdN)) (x_NLP_gdR_gdN_gdL : (NLC gdR gdN gdL)) (x_LKP_gda_gdA_gdU_gdNU_gdLU : (LKP gda gdA gdU gdNU gdLU)) (x_LKP_gdb_gdB_gdV_gdNV_gdLV : (LKP gdb gdB gdV gdNV gdLV)) (x_LF_x_gdf : FLD ws x 9 11 (.int gdf)) (x_MF_y_gdf : FLD ws y 10 10 (.int gdf)) {i : Int32} (r_i : RI i 0 3066) (hiL : i.toInt + 6 ≤ L) {C S : Nat} (hC : C + 6 ≤ 601024) (hSl : S + 125 ≤ 7293034) {ls : Array Slot} (hl : lv_has ls 7 [(4, .int i), (3, .ref o), (2, .ref y), (1, .ref x), (0, .ref b)]) {Q : State → Prop} (kx : ∀ (gh : Int) (gdT : Nat → Nat) (gdq : Nat → Nat) (gdg : Nat → Nat) (gdo : OS) (gdA : OS) (gdB : OS) (gda : Int32) (gdb : Int32) (gdR : Nat → Int32) (gdU : Nat → Int32) (gdV : Nat → Int32) (gdN : Nat → Nat) (gdNU : Nat → Nat) (gdNV : Nat → Nat) (gdL : Nat → Int64) (gdLU : Nat → Int64) (gdLV : Nat → Int64) (gdf : Int32) (Ps : PSI) (ws : va_W) (H : Heap) (locs : List Loc) (ls : Array Slot), WD D cy GG (fun q : Nat => s.heap.size ≤ q) s wrL waL [] [] Ps ws H locs → (x, 33) ∈ Ps → (y, 55) ∈ Ps → (o, 56) ∈ Ps → TLX ws x (gh) → TLM ws y (gh) → BYX Ps ws x gdT → BYM Ps ws y gdT → WKX Ps ws x → GWX ws x gdq → GQ Ps ws gdq gdg → HE Ps ws gdq gdg gdo gdA gdB false false → FLP ws gdq gda gdb → AX 14 34 (HDp gdR) Ps ws y → AX 16 36 (KPp gdU gdV) Ps ws y → AX 23 44 (ISp gda gdb) Ps ws y → AXL 20 41 (NMp gdL) Ps ws y → AXL 22 43 (KNp gdLU gdLV) Ps ws y → (PDO gdo gdR gdN) → (NLC gdR gdN gdL) → (LKP gda gdA gdU gdNU gdLU) → (LKP gdb gdB gdV gdNV gdLV) → FLD ws x 9 11 (.int gdf) → FLD ws y 10 10 (.int gdf) → lv_has ls 7 [(4, .int i), (3, .ref o), (2, .ref y), (1, .ref x), (0, .ref b)] → W p l e room_1 s m #[Value.ref b] below meth c H locs (C + 6) (S + 125) Q (F0 m 1335 ls [])) : W p l e room_1 s m #[Value.ref b] below meth c H locs C S Q (F0 m 1285 ls []) := by
  have hA : ∀ q : Nat, s.heap.size ≤ q → (fun q : Nat => s.heap.size ≤ q) q := fun _ h => h
  have hbA : ¬ (fun q : Nat => s.heap.size ≤ q) b := Nat.not_le.mpr hbl
  refine lv_aload_n hx hb dL_law_1285 rfl (lv_at hl 3 rfl) ?_
  refine lv_aload_n hx hb dL_law_1286 rfl (lv_at hl 4 rfl) ?_
  refine lv_iload hx hb dL_law_1287 (lv_at hl 0 rfl) ?_
  refine lv_iconst (v := 1) hx hb dL_law_1289 (by decide) ?_
  refine lv_iadd hx hb dL_law_1290 (lv_topi (fun v_1 e_v_1 => ?_))
  obtain ⟨t_v_1, r_v_1⟩ := tq_add (lo := 1) (hi := 3067) r_i rl_1 (by decide +kernel) e_v_1
  have t_v_1 : v_1.toInt = i.toInt + 1 := t_v_1
  refine va_sld hx hb hX hbl hbA hw.2.2.2.1 (i := v_1) (vp_in_iff.mpr ⟨by have k1 := r_v_1.1; omega, by have k1 := r_v_1.2; omega⟩) dL_law_1291 ?_
  obtain ⟨v_2, e_v_2⟩ : ∃ q9 : Int32, xs (Int32.toNatClampNeg v_1) = q9 := ⟨_, rfl⟩
  refine tI e_v_2 ?_
  have r_v_2 := ri_any v_2
  refine tk_i (va_runV (As := [.int v_2]) (rest := []) ⟨hx, hb, hml, hown, hts⟩ (c_X9_restore__1 l D cy z H.size Ps ws hw.1 x v_2 (gdq) (gdg) (gdo) (gdA) (gdB) (gda) (gdb) h_x r_v_2 x_GWX_x_gdq x_GQ_gdq_gdg x_HE_gdq_gdg_gdo_gdA_gdB_false_false x_FLP_gdq_gda_gdb) (cwV 1 hts (gV tw_1027 tw_1028 tw_1029 tw_1 tw_1030) rfl rfl rfl (by decide +kernel) ⟨Nat.le_of_ble_eq_true rfl, Nat.le_of_ble_eq_true rfl⟩) (tg_preV hw hK hSD hA (ci := 9) (q := (RX9, TX9, 15)) rfl h_x rfl) rfl rfl hl.1 rfl (lv_room (Nat.le_of_ble_eq_true rfl)) dL_law_1292 ⟨by show _ ≤ 601024; omega, by show _ ≤ 7293034; omega⟩) hw hA ⟨by decide, by decide⟩ (fun v_3 ws H locs hp_v_3 hw hF9 => ?_)
  have x_TLX_x_gh := TLX.over hF9 x_TLX_x_gh (by decide)
  have x_TLM_y_gh := TLM.over hF9 x_TLM_y_gh (by decide)
  have x_BYX_x_gdT := BYX.over hF9 x_BYX_x_gdT (by decide)
  have x_BYM_y_gdT := BYM.over hF9 x_BYM_y_gdT (by decide)
  have x_WKX_x := WKX.over hF9 x_WKX_x (by decide)
  have x_GWX_x_gdq := GWX.over hF9 x_GWX_x_gdq (by decide)
  have x_GQ_gdq_gdg := GQ.over hF9 x_GQ_gdq_gdg (by decide)
  have x_FLP_gdq_gda_gdb := FLP.over hF9 x_FLP_gdq_gda_gdb (by decide)
  have x_HD_y_gdR := AX.over hF9 x_HD_y_gdR (by decide)
  have x_KP_y_gdU_gdV := AX.over hF9 x_KP_y_gdU_gdV (by decide)
  have x_ISA_y_gda_gdb := AX.over hF9 x_ISA_y_gda_gdb (by decide)
  have x_NAM_y_gdL := AXL.over hF9 x_NAM_y_gdL (by decide)
  have x_KNM_y_gdLU_gdLV := AXL.over hF9 x_KNM_y_gdLU_gdLV (by decide)
  have x_LF_x_gdf := FLD.over hF9 x_LF_x_gdf (by decide)
  have x_MF_y_gdf := FLD.over hF9 x_MF_y_gdf (by decide)
  have r_v_3 : RI v_3 0 1 := hp_v_3.1
  by_cases c9_v_3 : v_3 = 0
  · have r_v_3 : RI v_3 0 0 := by rw [c9_v_3]; exact rl_0
    have x_RS0_v_2_gda_gdb := ((hp_v_3.2.1 c9_v_3).1)
    have x_HE_gdq_gdg_gdo_gdA_gdB_false_false := ((hp_v_3.2.1 c9_v_3).2.1)
    have x_FLP_gdq_gda_gdb := ((hp_v_3.2.1 c9_v_3).2.2.1)
    refine lv_pop hx hb dL_law_1295 rfl ?_
    refine lv_aload_n hx hb dL_law_1296 rfl (lv_at hl 2 rfl) ?_
    refine lv_aload_n hx hb dL_law_1297 rfl (lv_at hl 4 rfl) ?_
    refine lv_iload hx hb dL_law_1298 (lv_at hl 0 rfl) ?_
    refine lv_iconst (v := 1) hx hb dL_law_1300 (by decide) ?_
    refine lv_iadd hx hb dL_law_1301 (lv_topi (fun v_4 e_v_4 => ?_))
    obtain ⟨t_v_4, r_v_4⟩ := tq_add (lo := 1) (hi := 3067) r_i rl_1 (by decide +kernel) e_v_4
    have t_v_4 : v_4.toInt = i.toInt + 1 := t_v_4
    refine va_sld hx hb hX hbl hbA hw.2.2.2.1 (i := v_4) (vp_in_iff.mpr ⟨by have k1 := r_v_4.1; omega, by have k1 := r_v_4.2; omega⟩) dL_law_1302 ?_
    refine tI (y := v_2) (by rw [e_v_4, ← e_v_1]; exact e_v_2) ?_
    refine tk_i (va_runV (As := [.int v_2]) (rest := []) ⟨hx, hb, hml, hown, hts⟩ (c_X10_restore__2 l D cy z H.size Ps ws hw.1 y v_2 (gdR) (gdU) (gdV) (gda) (gdb) (gdL) (gdLU) (gdLV) h_y r_v_2 x_HD_y_gdR x_KP_y_gdU_gdV x_ISA_y_gda_gdb x_NAM_y_gdL x_KNM_y_gdLU_gdLV) (cwV 1 hts (gV tw_1795 tw_1796 tw_1797 tw_15 tw_1798) rfl rfl rfl (by decide +kernel) ⟨Nat.le_of_ble_eq_true rfl, Nat.le_of_ble_eq_true rfl⟩) (tg_preV hw hK hSD hA (ci := 10) (q := (RX10, TX10, 49)) rfl h_y rfl) rfl rfl hl.1 rfl (lv_room (Nat.le_of_ble_eq_true rfl)) dL_law_1303 ⟨by show _ ≤ 601024; omega, by show _ ≤ 7293034; omega⟩) hw hA ⟨by decide, by decide⟩ (fun v_6 ws H locs hp_v_6 hw hF9 => ?_)
    have x_TLX_x_gh := TLX.over hF9 x_TLX_x_gh (by decide)
    have x_TLM_y_gh := TLM.over hF9 x_TLM_y_gh (by decide)
    have x_BYX_x_gdT := BYX.over hF9 x_BYX_x_gdT (by decide)
    have x_BYM_y_gdT := BYM.over hF9 x_BYM_y_gdT (by decide)
    have x_WKX_x := WKX.over hF9 x_WKX_x (by decide)
    have x_GWX_x_gdq := GWX.over hF9 x_GWX_x_gdq (by decide)
    have x_GQ_gdq_gdg := GQ.over hF9 x_GQ_gdq_gdg (by decide)
    have x_FLP_gdq_gda_gdb := FLP.over hF9 x_FLP_gdq_gda_gdb (by decide)
    have x_KP_y_gdU_gdV := AX.over hF9 x_KP_y_gdU_gdV (by decide)
    have x_ISA_y_gda_gdb := AX.over hF9 x_ISA_y_gda_gdb (by decide)
    have x_KNM_y_gdLU_gdLV := AXL.over hF9 x_KNM_y_gdLU_gdLV (by decide)
    have x_LF_x_gdf := FLD.over hF9 x_LF_x_gdf (by decide)
    have x_MF_y_gdf := FLD.over hF9 x_MF_y_gdf (by decide)
    have x_HE_gdq_gdg_gdo_gdA_gdB_false_false := HE.over hF9 x_HE_gdq_gdg_gdo_gdA_gdB_false_false (by decide)
    have r_v_6 : RI v_6 0 1 := hp_v_6.1
    by_cases c9_v_6 : v_6 = 0
    · have r_v_6 : RI v_6 0 0 := by rw [c9_v_6]; exact rl_0
      have x_RS0_v_2_gda_gdb := ((hp_v_6.2.1 c9_v_6).1)
      have x_HD_y_gdR := ((hp_v_6.2.1 c9_v_6).2.1)
      have x_KP_y_gdU_gdV := ((hp_v_6.2.1 c9_v_6).2.2.1)
      have x_ISA_y_gda_gdb := ((hp_v_6.2.1 c9_v_6).2.2.2.1)
      have x_NAM_y_gdL := ((hp_v_6.2.1 c9_v_6).2.2.2.2.1)
      have x_KNM_y_gdLU_gdLV := ((hp_v_6.2.1 c9_v_6).2.2.2.2.2.1)
      refine lv_pop hx hb dL_law_1306 rfl ?_
      refine lv_goto (tgt := 1335) hx hb dL_law_1307 (by decide) ?_
      refine W.widen (k := C + 6) (n := S + 125) (by omega) (by omega) ?_
      exact kx (gh) gdT gdq gdg gdo gdA gdB gda gdb gdR gdU gdV gdN gdNU gdNV gdL gdLU gdLV gdf _ ws _ _ ls hw h_x h_y h_o x_TLX_x_gh x_TLM_y_gh x_BYX_x_gdT x_BYM_y_gdT x_WKX_x x_GWX_x_gdq x_GQ_gdq_gdg x_HE_gdq_gdg_gdo_gdA_gdB_false_false x_FLP_gdq_gda_gdb x_HD_y_gdR x_KP_y_gdU_gdV x_ISA_y_gda_gdb x_NAM_y_gdL x_KNM_y_gdLU_gdLV x_PDF_gdo_gdR_gdN x_NLP_gdR_gdN_gdL x_LKP_gda_gdA_gdU_gdNU_gdLU x_LKP_gdb_gdB_gdV_gdNV_gdLV x_LF_x_gdf x_MF_y_gdf (lv_sub hl [0, 1, 2, 3, 4] rfl)
    · have r_v_6 : RI v_6 1 1 := rc_neL r_v_6 rl_0 (ti_ne c9_v_6) (by decide)
      have x_RS1_v_2_gda_gdb := ((hp_v_6.2.2 c9_v_6).1)
      have x_HDR_y_v_2_gdU_gdV := ((hp_v_6.2.2 c9_v_6).2.1)
      have x_KP_y_gdU_gdV := ((hp_v_6.2.2 c9_v_6).2.2.1)
      have x_ISA_y_gda_gdb := ((hp_v_6.2.2 c9_v_6).2.2.2.1)
      have x_NMR_y_v_2_gdLU_gdLV := ((hp_v_6.2.2 c9_v_6).2.2.2.2.1)
      have x_KNM_y_gdLU_gdLV := ((hp_v_6.2.2 c9_v_6).2.2.2.2.2.1)
      exact ((absurd x_RS1_v_2_gda_gdb x_RS0_v_2_gda_gdb : False)).elim
  · have r_v_3 : RI v_3 1 1 := rc_neL r_v_3 rl_0 (ti_ne c9_v_3) (by decide)
    have x_RS1_v_2_gda_gdb := ((hp_v_3.2.2 c9_v_3).1)
    have x_HER_gdq_gdg_gdA_gdB_v_2 := ((hp_v_3.2.2 c9_v_3).2.1)
    have x_FLP_gdq_gda_gdb := ((hp_v_3.2.2 c9_v_3).2.2.1)
    refine lv_pop hx hb dL_law_1295 rfl ?_
    refine lv_aload_n hx hb dL_law_1296 rfl (lv_at hl 2 rfl) ?_
    refine lv_aload_n hx hb dL_law_1297 rfl (lv_at hl 4 rfl) ?_
    refine lv_iload hx hb dL_law_1298 (lv_at hl 0 rfl) ?_
    refine lv_iconst (v := 1) hx hb dL_law_1300 (by decide) ?_
    refine lv_iadd hx hb dL_law_1301 (lv_topi (fun v_7 e_v_7 => ?_))
    obtain ⟨t_v_7, r_v_7⟩ := tq_add (lo := 1) (hi := 3067) r_i rl_1 (by decide +kernel) e_v_7
    have t_v_7 : v_7.toInt = i.toInt + 1 := t_v_7
    refine va_sld hx hb hX hbl hbA hw.2.2.2.1 (i := v_7) (vp_in_iff.mpr ⟨by have k1 := r_v_7.1; omega, by have k1 := r_v_7.2; omega⟩) dL_law_1302 ?_
    refine tI (y := v_2) (by rw [e_v_7, ← e_v_1]; exact e_v_2) ?_
    refine tk_i (va_runV (As := [.int v_2]) (rest := []) ⟨hx, hb, hml, hown, hts⟩ (c_X10_restore__2 l D cy z H.size Ps ws hw.1 y v_2 (gdR) (gdU) (gdV) (gda) (gdb) (gdL) (gdLU) (gdLV) h_y r_v_2 x_HD_y_gdR x_KP_y_gdU_gdV x_ISA_y_gda_gdb x_NAM_y_gdL x_KNM_y_gdLU_gdLV) (cwV 1 hts (gV tw_1795 tw_1796 tw_1797 tw_15 tw_1798) rfl rfl rfl (by decide +kernel) ⟨Nat.le_of_ble_eq_true rfl, Nat.le_of_ble_eq_true rfl⟩) (tg_preV hw hK hSD hA (ci := 10) (q := (RX10, TX10, 49)) rfl h_y rfl) rfl rfl hl.1 rfl (lv_room (Nat.le_of_ble_eq_true rfl)) dL_law_1303 ⟨by show _ ≤ 601024; omega, by show _ ≤ 7293034; omega⟩) hw hA ⟨by decide, by decide⟩ (fun v_9 ws H locs hp_v_9 hw hF9 => ?_)
    have x_TLX_x_gh := TLX.over hF9 x_TLX_x_gh (by decide)
    have x_TLM_y_gh := TLM.over hF9 x_TLM_y_gh (by decide)
    have x_BYX_x_gdT := BYX.over hF9 x_BYX_x_gdT (by decide)
    have x_BYM_y_gdT := BYM.over hF9 x_BYM_y_gdT (by decide)
    have x_WKX_x := WKX.over hF9 x_WKX_x (by decide)
    have x_GWX_x_gdq := GWX.over hF9 x_GWX_x_gdq (by decide)
    have x_GQ_gdq_gdg := GQ.over hF9 x_GQ_gdq_gdg (by decide)
    have x_FLP_gdq_gda_gdb := FLP.over hF9 x_FLP_gdq_gda_gdb (by decide)
    have x_KP_y_gdU_gdV := AX.over hF9 x_KP_y_gdU_gdV (by decide)
    have x_ISA_y_gda_gdb := AX.over hF9 x_ISA_y_gda_gdb (by decide)
    have x_KNM_y_gdLU_gdLV := AXL.over hF9 x_KNM_y_gdLU_gdLV (by decide)
    have x_LF_x_gdf := FLD.over hF9 x_LF_x_gdf (by decide)
    have x_MF_y_gdf := FLD.over hF9 x_MF_y_gdf (by decide)
    have x_HER_gdq_gdg_gdA_gdB_v_2 := HE.over hF9 x_HER_gdq_gdg_gdA_gdB_v_2 (by decide)
    have r_v_9 : RI v_9 0 1 := hp_v_9.1
    by_cases c9_v_9 : v_9 = 0
    · have r_v_9 : RI v_9 0 0 := by rw [c9_v_9]; exact rl_0
      have x_RS0_v_2_gda_gdb := ((hp_v_9.2.1 c9_v_9).1)
      have x_HD_y_gdR := ((hp_v_9.2.1 c9_v_9).2.1)
      have x_KP_y_gdU_gdV := ((hp_v_9.2.1 c9_v_9).2.2.1)
      have x_ISA_y_gda_gdb := ((hp_v_9.2.1 c9_v_9).2.2.2.1)
      have x_NAM_y_gdL := ((hp_v_9.2.1 c9_v_9).2.2.2.2.1)
      have x_KNM_y_gdLU_gdLV := ((hp_v_9.2.1 c9_v_9).2.2.2.2.2.1)
      exact ((absurd x_RS1_v_2_gda_gdb x_RS0_v_2_gda_gdb : False)).elim
    · have r_v_9 : RI v_9 1 1 := rc_neL r_v_9 rl_0 (ti_ne c9_v_9) (by decide)
      have x_RS1_v_2_gda_gdb := ((hp_v_9.2.2 c9_v_9).1)
      have x_HDR_y_v_2_gdU_gdV := ((hp_v_9.2.2 c9_v_9).2.1)
      have x_KP_y_gdU_gdV := ((hp_v_9.2.2 c9_v_9).2.2.1)
      have x_ISA_y_gda_gdb := ((hp_v_9.2.2 c9_v_9).2.2.2.1)
      have x_NMR_y_v_2_gdLU_gdLV := ((hp_v_9.2.2 c9_v_9).2.2.2.2.1)
      have x_KNM_y_gdLU_gdLV := ((hp_v_9.2.2 c9_v_9).2.2.2.2.2.1)
      refine lv_pop hx hb dL_law_1306 rfl ?_
      refine lv_goto (tgt := 1335) hx hb dL_law_1307 (by decide) ?_
      refine W.widen (k := C + 6) (n := S + 125) (by omega) (by omega) ?_
      have hr9 := LKP.rest x_RS1_v_2_gda_gdb x_LKP_gda_gdA_gdU_gdNU_gdLU x_LKP_gdb_gdB_gdV_gdNV_gdLV
      exact kx (gh) gdT gdq gdg (pick v_2 0 gdA gdB) gdA gdB gda gdb (pick v_2 0 gdU gdV) gdU gdV (pick v_2 0 gdNU gdNV) gdNU gdNV (pick v_2 0 gdLU gdLV) gdLU gdLV gdf _ ws _ _ ls hw h_x h_y h_o x_TLX_x_gh x_TLM_y_gh x_BYX_x_gdT x_BYM_y_gdT x_WKX_x x_GWX_x_gdq x_GQ_gdq_gdg x_HER_gdq_gdg_gdA_gdB_v_2 x_FLP_gdq_gda_gdb x_HDR_y_v_2_gdU_gdV x_KP_y_gdU_gdV x_ISA_y_gda_gdb x_NMR_y_v_2_gdLU_gdLV x_KNM_y_gdLU_gdLV hr9.1 hr9.2 x_LKP_gda_gdA_gdU_gdNU_gdLU x_LKP_gdb_gdB_gdV_gdNV_gdLV x_LF_x_gdf x_MF_y_gdf (lv_sub hl [0, 1, 2, 3, 4] rfl)
set_option maxHeartbeats 4000000 in
set_option maxRecDepth 100000 in
theorem op40 {p : Program} {e : Env} {s : State} {m : MethodId} {below : List Frame} {meth : Method} {c : Code} (l : Launch) (hl0 : l.stackTraces = false) {b L : Nat} {xs : Nat → Int32} (hx : p.tables.exec = Jvm.exec) (hb : c.code = code) (hml : c.maxLocals = 7) (hown : s.vm.findClass RL = some m.cls) (hts : ∀ w ∈ gT, w.before #[Value.ref b] s = true) (hX : va_X b L xs s s.heap) (hbl : b < s.heap.size) (D : va_G) (cy : Nat → ClassId) (z : Nat → Nat) (hK : va_K D classes (TY cy) s) (hSD : SD z (fun q : Nat => s.heap.size ≤ q) s) (hSE : SE z (fun q : Nat => s.heap.size ≤ q) s) {Ps : PSI} {ws : va_W} {H : Heap} {locs : List Loc} {x y o : Nat} (hw : WD D cy GG (fun q : Nat => s.heap.size ≤ q) s wrL waL [] [] Ps ws H locs) (h_x : (x, 33) ∈ Ps) (h_y : (y, 55) ∈ Ps) (h_o : (o, 56) ∈ Ps) {gh : Int} {gdT : Nat → Nat} {gdq : Nat → Nat} {gdg : Nat → Nat} {gdo : OS} {gdA : OS} {gdB : OS} {gda : Int32} {gdb : Int32} {gdR : Nat → Int32} {gdU : Nat → Int32} {gdV : Nat → Int32} {gdN : Nat → Nat} {gdNU : Nat → Nat} {gdNV : Nat → Nat} {gdL : Nat → Int64} {gdLU : Nat → Int64} {gdLV : Nat → Int64} {gdf : Int32} (x_TLX_x_gh : TLX ws x (gh)) (x_TLM_y_gh : TLM ws y (gh)) (x_BYX_x_gdT : BYX Ps ws x gdT) (x_BYM_y_gdT : BYM Ps ws y gdT) (x_WKX_x : WKX Ps ws x) (x_GWX_x_gdq : GWX ws x gdq) (x_GQ_gdq_gdg : GQ Ps ws gdq gdg) (x_HE_gdq_gdg_gdo_gdA_gdB_false_false : HE Ps ws gdq gdg gdo gdA gdB false false) (x_FLP_gdq_gda_gdb : FLP ws gdq gda gdb) (x_HD_y_gdR : AX 14 34 (HDp gdR) Ps ws y) (x_KP_y_gdU_gdV : AX 16 36 (KPp gdU gdV) Ps ws y) (x_ISA_y_gda_gdb : AX 23 44 (ISp gda gdb) Ps ws y) (x_NAM_y_gdL : AXL 20 41 (NMp gdL) Ps ws y) (x_KNM_y_gdLU_gdLV : AXL 22 43 (KNp gdLU gdLV) Ps ws y) (x_PDF_gdo_gdR_gdN : (PDO gdo gdR gdN)) (x_NLP_gdR_gdN_gdL : (NLC gdR gdN gdL)) (x_LKP_gda_gdA_gdU_gdNU_gdLU : (LKP gda gdA gdU gdNU gdLU)) (x_LKP_gdb_gdB_gdV_gdNV_gdLV : (LKP gdb gdB gdV gdNV gdLV)) (x_LF_x_gdf : FLD ws x 9 11 (.int gdf)) (x_MF_y_gdf : FLD ws y 10 10 (.int gdf)) {i : Int32} (r_i : RI i 0 3066) (hiL : i.toInt + 6 ≤ L) {C S : Nat} (hC : C + 6 ≤ 601024) (hSl : S + 125 ≤ 7293034) {ls : Array Slot} (hl : lv_has ls 7 [(4, .int i), (3, .ref o), (2, .ref y), (1, .ref x), (0, .ref b)]) {Q : State → Prop} (kx : ∀ (gh : Int) (gdT : Nat → Nat) (gdq : Nat → Nat) (gdg : Nat → Nat) (gdo : OS) (gdA : OS) (gdB : OS) (gda : Int32) (gdb : Int32) (gdR : Nat → Int32) (gdU : Nat → Int32) (gdV : Nat → Int32) (gdN : Nat → Nat) (gdNU : Nat → Nat) (gdNV : Nat → Nat) (gdL : Nat → Int64) (gdLU : Nat → Int64) (gdLV : Nat → Int64) (gdf : Int32) (Ps : PSI) (ws : va_W) (H : Heap) (locs : List Loc) (ls : Array Slot), WD D cy GG (fun q : Nat => s.heap.size ≤ q) s wrL waL [] [] Ps ws H locs → (x, 33) ∈ Ps → (y, 55) ∈ Ps → (o, 56) ∈ Ps → TLX ws x (gh) → TLM ws y (gh) → BYX Ps ws x gdT → BYM Ps ws y gdT → WKX Ps ws x → GWX ws x gdq → GQ Ps ws gdq gdg → HE Ps ws gdq gdg gdo gdA gdB false false → FLP ws gdq gda gdb → AX 14 34 (HDp gdR) Ps ws y → AX 16 36 (KPp gdU gdV) Ps ws y → AX 23 44 (ISp gda gdb) Ps ws y → AXL 20 41 (NMp gdL) Ps ws y → AXL 22 43 (KNp gdLU gdLV) Ps ws y → (PDO gdo gdR gdN) → (NLC gdR gdN gdL) → (LKP gda gdA gdU gdNU gdLU) → (LKP gdb gdB gdV gdNV gdLV) → FLD ws x 9 11 (.int gdf) → FLD ws y 10 10 (.int gdf) → lv_has ls 7 [(4, .int i), (3, .ref o), (2, .ref y), (1, .ref x), (0, .ref b)] → W p l e room_1 s m #[Value.ref b] below meth c H locs (C + 6) (S + 125) Q (F0 m 1335 ls [])) : W p l e room_1 s m #[Value.ref b] below meth c H locs C S Q (F0 m 1310 ls []) := by
  have hA : ∀ q : Nat, s.heap.size ≤ q → (fun q : Nat => s.heap.size ≤ q) q := fun _ h => h
  have hbA : ¬ (fun q : Nat => s.heap.size ≤ q) b := Nat.not_le.mpr hbl
  refine lv_aload_n hx hb dL_law_1310 rfl (lv_at hl 3 rfl) ?_
  refine lv_aload_n hx hb dL_law_1311 rfl (lv_at hl 4 rfl) ?_
  refine lv_iload hx hb dL_law_1312 (lv_at hl 0 rfl) ?_
  refine lv_iconst (v := 1) hx hb dL_law_1314 (by decide) ?_
  refine lv_iadd hx hb dL_law_1315 (lv_topi (fun v_1 e_v_1 => ?_))
  obtain ⟨t_v_1, r_v_1⟩ := tq_add (lo := 1) (hi := 3067) r_i rl_1 (by decide +kernel) e_v_1
  have t_v_1 : v_1.toInt = i.toInt + 1 := t_v_1
  refine va_sld hx hb hX hbl hbA hw.2.2.2.1 (i := v_1) (vp_in_iff.mpr ⟨by have k1 := r_v_1.1; omega, by have k1 := r_v_1.2; omega⟩) dL_law_1316 ?_
  obtain ⟨v_2, e_v_2⟩ : ∃ q9 : Int32, xs (Int32.toNatClampNeg v_1) = q9 := ⟨_, rfl⟩
  refine tI e_v_2 ?_
  have r_v_2 := ri_any v_2
  refine tk_ir (va_runV (As := [.int v_2]) (rest := []) ⟨hx, hb, hml, hown, hts⟩ (c_X9_count__1 l D cy z H.size Ps ws hw.1 x v_2 (gdq) (gdg) (gdo) (gdA) (gdB) (gh) h_x r_v_2 x_GWX_x_gdq x_HE_gdq_gdg_gdo_gdA_gdB_false_false x_TLX_x_gh) (cwV 1 hts (gV tw_1031 tw_1032 tw_1033 tw_1 tw_1034) rfl rfl rfl (by decide +kernel) ⟨Nat.le_of_ble_eq_true rfl, Nat.le_of_ble_eq_true rfl⟩) (tg_preV hw hK hSD hA (ci := 9) (q := (RX9, TX9, 15)) rfl h_x rfl) rfl rfl hl.1 rfl (lv_room (Nat.le_of_ble_eq_true rfl)) dL_law_1317 ⟨by show _ ≤ 601024; omega, by show _ ≤ 7293034; omega⟩) hw hA (fun v_3  H locs hp_v_3 hw => ?_)
  have r_v_3 : RI v_3 (-2147483648) 2147483647 := hp_v_3.1
  have x_CNX_v_3_v_2_gdo_gh := hp_v_3.2.2.2.1.1
  refine lv_pop hx hb dL_law_1320 rfl ?_
  refine lv_aload_n hx hb dL_law_1321 rfl (lv_at hl 2 rfl) ?_
  refine lv_aload_n hx hb dL_law_1322 rfl (lv_at hl 4 rfl) ?_
  refine lv_iload hx hb dL_law_1323 (lv_at hl 0 rfl) ?_
  refine lv_iconst (v := 1) hx hb dL_law_1325 (by decide) ?_
  refine lv_iadd hx hb dL_law_1326 (lv_topi (fun v_4 e_v_4 => ?_))
  obtain ⟨t_v_4, r_v_4⟩ := tq_add (lo := 1) (hi := 3067) r_i rl_1 (by decide +kernel) e_v_4
  have t_v_4 : v_4.toInt = i.toInt + 1 := t_v_4
  refine va_sld hx hb hX hbl hbA hw.2.2.2.1 (i := v_4) (vp_in_iff.mpr ⟨by have k1 := r_v_4.1; omega, by have k1 := r_v_4.2; omega⟩) dL_law_1327 ?_
  refine tI (y := v_2) (by rw [e_v_4, ← e_v_1]; exact e_v_2) ?_
  refine tk_i (va_runV (As := [.int v_2]) (rest := []) ⟨hx, hb, hml, hown, hts⟩ (c_X10_count__1 l D cy z H.size Ps ws hw.1 y v_2 (gdR) (gh) h_y r_v_2 x_HD_y_gdR x_TLM_y_gh) (cwV 1 hts (gV tw_1799 tw_1800 tw_1801 tw_15 tw_1802) rfl rfl rfl (by decide +kernel) ⟨Nat.le_of_ble_eq_true rfl, Nat.le_of_ble_eq_true rfl⟩) (tg_preV hw hK hSD hA (ci := 10) (q := (RX10, TX10, 49)) rfl h_y rfl) rfl rfl hl.1 rfl (lv_room (Nat.le_of_ble_eq_true rfl)) dL_law_1328 ⟨by show _ ≤ 601024; omega, by show _ ≤ 7293034; omega⟩) hw hA ⟨by decide, by decide⟩ (fun v_6 ws H locs hp_v_6 hw hF9 => ?_)
  have x_TLX_x_gh := TLX.over hF9 x_TLX_x_gh (by decide)
  have x_TLM_y_gh := TLM.over hF9 x_TLM_y_gh (by decide)
  have x_BYX_x_gdT := BYX.over hF9 x_BYX_x_gdT (by decide)
  have x_BYM_y_gdT := BYM.over hF9 x_BYM_y_gdT (by decide)
  have x_WKX_x := WKX.over hF9 x_WKX_x (by decide)
  have x_GWX_x_gdq := GWX.over hF9 x_GWX_x_gdq (by decide)
  have x_GQ_gdq_gdg := GQ.over hF9 x_GQ_gdq_gdg (by decide)
  have x_HE_gdq_gdg_gdo_gdA_gdB_false_false := HE.over hF9 x_HE_gdq_gdg_gdo_gdA_gdB_false_false (by decide)
  have x_FLP_gdq_gda_gdb := FLP.over hF9 x_FLP_gdq_gda_gdb (by decide)
  have x_HD_y_gdR := AX.over hF9 x_HD_y_gdR (by decide)
  have x_KP_y_gdU_gdV := AX.over hF9 x_KP_y_gdU_gdV (by decide)
  have x_ISA_y_gda_gdb := AX.over hF9 x_ISA_y_gda_gdb (by decide)
  have x_NAM_y_gdL := AXL.over hF9 x_NAM_y_gdL (by decide)
  have x_KNM_y_gdLU_gdLV := AXL.over hF9 x_KNM_y_gdLU_gdLV (by decide)
  have x_LF_x_gdf := FLD.over hF9 x_LF_x_gdf (by decide)
  have x_MF_y_gdf := FLD.over hF9 x_MF_y_gdf (by decide)
  have r_v_6 : RI v_6 (-2147483648) 2147483647 := hp_v_6.1
  have x_CNM_v_6_v_2_gdR_gh := hp_v_6.2.2.2.1.1
  refine lv_pop hx hb dL_law_1331 rfl ?_
  refine lv_goto (tgt := 1335) hx hb dL_law_1332 (by decide) ?_
  refine W.widen (k := C + 6) (n := S + 125) (by omega) (by omega) ?_
  exact kx (gh) gdT gdq gdg gdo gdA gdB gda gdb gdR gdU gdV gdN gdNU gdNV gdL gdLU gdLV gdf _ ws _ _ ls hw h_x h_y h_o x_TLX_x_gh x_TLM_y_gh x_BYX_x_gdT x_BYM_y_gdT x_WKX_x x_GWX_x_gdq x_GQ_gdq_gdg x_HE_gdq_gdg_gdo_gdA_gdB_false_false x_FLP_gdq_gda_gdb x_HD_y_gdR x_KP_y_gdU_gdV x_ISA_y_gda_gdb x_NAM_y_gdL x_KNM_y_gdLU_gdLV x_PDF_gdo_gdR_gdN x_NLP_gdR_gdN_gdL x_LKP_gda_gdA_gdU_gdNU_gdLU x_LKP_gdb_gdB_gdV_gdNV_gdLV x_LF_x_gdf x_MF_y_gdf (lv_sub hl [0, 1, 2, 3, 4] rfl)
