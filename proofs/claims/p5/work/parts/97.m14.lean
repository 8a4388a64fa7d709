def R_law : String := "WonderParcelsLaw"
def lw_P (b : Addr) (xs : List Int32) (args : Array Value) (s : State) : Prop := args = #[.ref b] ∧ s.IntsAt b xs ∧ xs.length ≤ 3072 ∧ (Jvm.Cond.and given_1 narrow_1).before args s = true
def lw_Q (_ : Array Value) (s : State) (o : Outcome) (t : State) : Prop := o = .returned (some (.int 1)) ∧ Framed s o t [] 601024 7293034
def lw_Z (below : List Frame) (a : Array Value) (s : State) : State → Prop := fun t => ∃ o, t.status = .running ∧ Ended t below o ∧ lw_Q a s o t
/-- the law's own end, with 1 on the stack, nothing written that was there before, its room as the claim has it -/
theorem lw_ret {p : Program} {l : Launch} {e : Env} {s : State} {m : MethodId} {below : List Frame} {meth : Method} {c : Code} {b : Nat} (hx : p.tables.exec = Jvm.exec) (hb : c.code = code) (hr : meth.sig.returnType = ret) (hlocks : meth.locks = false) {pc : Nat} {H : Heap} {ls : Array Slot} (hdg : decode code pc = .ok (.ireturn, 1)) : W p l e room_1 s m #[Value.ref b] below meth c H [] 601024 7293034 (lw_Z below #[Value.ref b] s) (F0 m pc ls [.int 1]) := by
  intro T hT X
  obtain ⟨fs, hret, hrun, hended, hW, hframe⟩ := X.leave (v := some (.int 1)) (hlocks := hlocks) (fun h => by rw [hr] at h; cases h)
  have hmeth' : T.vm.method? m = some meth := X.method'
  refine ⟨T.setFrames fs, ?_, .returned (some (.int 1)), hrun, hended, rfl, ⟨_, rfl⟩, hW, hframe⟩
  jvm_step X.here [X.here.top, hx, hb, hdg, hmeth', hr, ret, narrow_b1]
  (try refine ⟨rfl, ?_⟩); (try refine ⟨rfl, ?_⟩)
  first | (intro acts; rw [hret _ acts rfl rfl rfl]) | rw [hret _ _ rfl rfl rfl]
  exact Steps.refl _
/-- what holds at the law's entry: the machine, the code, the tables' words (any of lw_tbl by 'hts w (by decide +kernel)'), the script of L ints xs at the cell b, what the Statement gives of the start (any of its parts by flat_of_before) -/
def lw_At (p : Program) (s : State) (m : MethodId) (meth : Method) (c : Code) (b L : Nat) (xs : Nat → Int32) : Prop :=
  p.tables.exec = Jvm.exec ∧ c.code = code ∧ meth.sig.returnType = ret ∧ c.maxLocals = 7 ∧ s.vm.findClass R_law = some m.cls ∧ (∀ w ∈ lw_tbl, w.before #[Value.ref b] s = true) ∧ va_X b L xs s s.heap ∧ b < s.heap.size ∧ meth.locks = false ∧ (Jvm.Cond.and given_1 narrow_1).before #[Value.ref b] s = true
set_option maxHeartbeats 8000000 in
set_option maxRecDepth 100000 in
theorem law_loop {p : Program} {e : Env} {s : State} {m : MethodId} {below : List Frame} {meth : Method} {c : Code} (l : Launch) (hl0 : l.stackTraces = false) {b L : Nat} {xs : Nat → Int32} (hx : p.tables.exec = Jvm.exec) (hb : c.code = code) (hml : c.maxLocals = 7) (hown : s.vm.findClass RL = some m.cls) (hts : ∀ w ∈ gT, w.before #[Value.ref b] s = true) (hX : va_X b L xs s s.heap) (hbl : b < s.heap.size) (D : va_G) (cy : Nat → ClassId) (z : Nat → Nat) (hK : va_K D classes (TY cy) s) (hSD : SD z (fun q : Nat => s.heap.size ≤ q) s) (hSE : SE z (fun q : Nat => s.heap.size ≤ q) s) (hr : meth.sig.returnType = ret) (hlocks : meth.locks = false) (hL : L ≤ 3072) {x y o : Nat} : ∀ (n : Nat) (gh : Int) (gdT : Nat → Nat) (gdq : Nat → Nat) (gdg : Nat → Nat) (gdo : OS) (gdA : OS) (gdB : OS) (gda : Int32) (gdb : Int32) (gdR : Nat → Int32) (gdU : Nat → Int32) (gdV : Nat → Int32) (gdN : Nat → Nat) (gdNU : Nat → Nat) (gdNV : Nat → Nat) (gdL : Nat → Int64) (gdLU : Nat → Int64) (gdLV : Nat → Int64) (gdf : Int32) (Ps : PSI) (ws : va_W) (H : Heap) (locs : List Loc) (i : Int32) (C S : Nat) (ls : Array Slot), WD D cy GG (fun q : Nat => s.heap.size ≤ q) s wrL waL [] [] Ps ws H locs → (x, 33) ∈ Ps → (y, 55) ∈ Ps → (o, 56) ∈ Ps → TLX ws x (gh) → TLM ws y (gh) → BYX Ps ws x gdT → BYM Ps ws y gdT → WKX Ps ws x → GWX ws x gdq → GQ Ps ws gdq gdg → HE Ps ws gdq gdg gdo gdA gdB false false → FLP ws gdq gda gdb → AX 14 34 (HDp gdR) Ps ws y → AX 16 36 (KPp gdU gdV) Ps ws y → AX 23 44 (ISp gda gdb) Ps ws y → AXL 20 41 (NMp gdL) Ps ws y → AXL 22 43 (KNp gdLU gdLV) Ps ws y → (PDO gdo gdR gdN) → (NLC gdR gdN gdL) → (LKP gda gdA gdU gdNU gdLU) → (LKP gdb gdB gdV gdNV gdLV) → FLD ws x 9 11 (.int gdf) → FLD ws y 10 10 (.int gdf) → RI i 0 3072 → i.toInt ≤ L → (L : Int) - i.toInt < n → C + 6 * n ≤ 601024 → S + 125 * n ≤ 7293034 → lv_has ls 7 [(4, .int i), (3, .ref o), (2, .ref y), (1, .ref x), (0, .ref b)] → W p l e room_1 s m #[Value.ref b] below meth c H locs C S (lw_Z below #[Value.ref b] s) (F0 m 23 ls []) := by
  have hbA : ¬ (fun q : Nat => s.heap.size ≤ q) b := Nat.not_le.mpr hbl
  intro n
  induction n with
  | zero =>
    intro gh gdT gdq gdg gdo gdA gdB gda gdb gdR gdU gdV gdN gdNU gdNV gdL gdLU gdLV gdf Ps ws H locs i C S ls hw h_x h_y h_o x_TLX_x_gh x_TLM_y_gh x_BYX_x_gdT x_BYM_y_gdT x_WKX_x x_GWX_x_gdq x_GQ_gdq_gdg x_HE_gdq_gdg_gdo_gdA_gdB_false_false x_FLP_gdq_gda_gdb x_HD_y_gdR x_KP_y_gdU_gdV x_ISA_y_gda_gdb x_NAM_y_gdL x_KNM_y_gdLU_gdLV x_PDF_gdo_gdR_gdN x_NLP_gdR_gdN_gdL x_LKP_gda_gdA_gdU_gdNU_gdLU x_LKP_gdb_gdB_gdV_gdNV_gdLV x_LF_x_gdf x_MF_y_gdf r_i hiL hn
    exact absurd hn (by omega)
  | succ n ih =>
    intro gh gdT gdq gdg gdo gdA gdB gda gdb gdR gdU gdV gdN gdNU gdNV gdL gdLU gdLV gdf Ps ws H locs i C S ls hw h_x h_y h_o x_TLX_x_gh x_TLM_y_gh x_BYX_x_gdT x_BYM_y_gdT x_WKX_x x_GWX_x_gdq x_GQ_gdq_gdg x_HE_gdq_gdg_gdo_gdA_gdB_false_false x_FLP_gdq_gda_gdb x_HD_y_gdR x_KP_y_gdU_gdV x_ISA_y_gda_gdb x_NAM_y_gdL x_KNM_y_gdLU_gdLV x_PDF_gdo_gdR_gdN x_NLP_gdR_gdN_gdL x_LKP_gda_gdA_gdU_gdNU_gdLU x_LKP_gdb_gdB_gdV_gdNV_gdLV x_LF_x_gdf x_MF_y_gdf r_i hiL hn hC hS hl
    have K9 : ∀ (gh : Int) (gdT : Nat → Nat) (gdq : Nat → Nat) (gdg : Nat → Nat) (gdo : OS) (gdA : OS) (gdB : OS) (gda : Int32) (gdb : Int32) (gdR : Nat → Int32) (gdU : Nat → Int32) (gdV : Nat → Int32) (gdN : Nat → Nat) (gdNU : Nat → Nat) (gdNV : Nat → Nat) (gdL : Nat → Int64) (gdLU : Nat → Int64) (gdLV : Nat → Int64) (gdf : Int32) (Ps : PSI) (ws : va_W) (H : Heap) (locs : List Loc) (ls : Array Slot), i.toInt + 6 ≤ L → WD D cy GG (fun q : Nat => s.heap.size ≤ q) s wrL waL [] [] Ps ws H locs → (x, 33) ∈ Ps → (y, 55) ∈ Ps → (o, 56) ∈ Ps → TLX ws x (gh) → TLM ws y (gh) → BYX Ps ws x gdT → BYM Ps ws y gdT → WKX Ps ws x → GWX ws x gdq → GQ Ps ws gdq gdg → HE Ps ws gdq gdg gdo gdA gdB false false → FLP ws gdq gda gdb → AX 14 34 (HDp gdR) Ps ws y → AX 16 36 (KPp gdU gdV) Ps ws y → AX 23 44 (ISp gda gdb) Ps ws y → AXL 20 41 (NMp gdL) Ps ws y → AXL 22 43 (KNp gdLU gdLV) Ps ws y → (PDO gdo gdR gdN) → (NLC gdR gdN gdL) → (LKP gda gdA gdU gdNU gdLU) → (LKP gdb gdB gdV gdNV gdLV) → FLD ws x 9 11 (.int gdf) → FLD ws y 10 10 (.int gdf) → lv_has ls 7 [(4, .int i), (3, .ref o), (2, .ref y), (1, .ref x), (0, .ref b)] → W p l e room_1 s m #[Value.ref b] below meth c H locs (C + 6) (S + 125) (lw_Z below #[Value.ref b] s) (F0 m 1335 ls []) := by
      intro gh gdT gdq gdg gdo gdA gdB gda gdb gdR gdU gdV gdN gdNU gdNV gdL gdLU gdLV gdf Ps ws H locs ls hi6 hw h_x h_y h_o x_TLX_x_gh x_TLM_y_gh x_BYX_x_gdT x_BYM_y_gdT x_WKX_x x_GWX_x_gdq x_GQ_gdq_gdg x_HE_gdq_gdg_gdo_gdA_gdB_false_false x_FLP_gdq_gda_gdb x_HD_y_gdR x_KP_y_gdU_gdV x_ISA_y_gda_gdb x_NAM_y_gdL x_KNM_y_gdLU_gdLV x_PDF_gdo_gdR_gdN x_NLP_gdR_gdN_gdL x_LKP_gda_gdA_gdU_gdNU_gdLU x_LKP_gdb_gdB_gdV_gdNV_gdLV x_LF_x_gdf x_MF_y_gdf hl
      obtain ⟨i6, e6⟩ : ∃ q9 : Int32, q9 = i + Int32.ofInt 6 := ⟨_, rfl⟩
      obtain ⟨t6, r6⟩ := tq_add (lo := 6) (hi := 3078) r_i (show RI (Int32.ofInt 6) 6 6 by unfold RI; decide +kernel) (by decide +kernel) e6
      have t6 : i6.toInt = i.toInt + 6 := t6
      refine lv_iinc (v := i6) (lv' := [(4, .int i6), (3, .ref o), (2, .ref y), (1, .ref x), (0, .ref b)]) hx hb dL_law_1335 hl (k := 0) rfl e6.symm (by decide) rfl (fun ls hl => ?_)
      refine lv_goto (tgt := 23) hx hb dL_law_1338 (by decide) ?_
      exact ih gh gdT gdq gdg gdo gdA gdB gda gdb gdR gdU gdV gdN gdNU gdNV gdL gdLU gdLV gdf Ps ws H locs i6 (C + 6) (S + 125) ls hw h_x h_y h_o x_TLX_x_gh x_TLM_y_gh x_BYX_x_gdT x_BYM_y_gdT x_WKX_x x_GWX_x_gdq x_GQ_gdq_gdg x_HE_gdq_gdg_gdo_gdA_gdB_false_false x_FLP_gdq_gda_gdb x_HD_y_gdR x_KP_y_gdU_gdV x_ISA_y_gda_gdb x_NAM_y_gdL x_KNM_y_gdLU_gdLV x_PDF_gdo_gdR_gdN x_NLP_gdR_gdN_gdL x_LKP_gda_gdA_gdU_gdNU_gdLU x_LKP_gdb_gdB_gdV_gdNV_gdLV x_LF_x_gdf x_MF_y_gdf ⟨by have k1 := r6.1; omega, by omega⟩ (by omega) (by omega) (by omega) (by omega) hl
    refine lv_iload hx hb dL_law_23 (lv_at hl 0 rfl) ?_
    refine lv_aload_n hx hb dL_law_25 rfl (lv_at hl 4 rfl) ?_
    refine va_slen hx hb hX hbl hbA hw.2.2.2.1 dL_law_26 ?_
    obtain ⟨n9, e9⟩ : ∃ q9 : Int32, Int32.ofNat L = q9 := ⟨_, rfl⟩
    refine tI e9 ?_
    have t9 : n9.toInt = (L : Int) := by rw [← e9]; exact nI_toInt (by omega)
    have r9 : RI n9 0 3072 := ⟨by omega, by omega⟩
    refine lv_bipush (v := 6) hx hb dL_law_27 (by decide) ?_
    refine lv_isub hx hb dL_law_29 (lv_topi (fun v6 e_v6 => ?_))
    obtain ⟨u6, r6⟩ := tq_sub (lo := -6) (hi := 3066) r9 rl_6 (by decide +kernel) e_v6
    have u6 : v6.toInt = n9.toInt - 6 := u6
    refine lv_icmp_gt (tgt := 1341) hx hb dL_law_30 (by decide) (fun c9 => ?_) (fun c9 => ?_)
    · refine lv_iconst (v := 1) hx hb dL_law_1341 (by decide) ?_
      refine va_forget (fun q hq => hw.2.2.2.1.2.2 q hq) ?_
      refine W.widen (k := 601024) (n := 7293034) (by omega) (by omega) ?_
      exact lw_ret hx hb hr hlocks dL_law_1342
    · have c8 := ti_nlt c9
      have hi6 : i.toInt + 6 ≤ L := by omega
      have K9 := fun gh gdT gdq gdg gdo gdA gdB gda gdb gdR gdU gdV gdN gdNU gdNV gdL gdLU gdLV gdf Ps ws H locs ls => K9 gh gdT gdq gdg gdo gdA gdB gda gdb gdR gdU gdV gdN gdNU gdNV gdL gdLU gdLV gdf Ps ws H locs ls hi6
      have r_i2 : RI i 0 3066 := ⟨r_i.1, by omega⟩
      refine lv_aload_n hx hb dL_law_33 rfl (lv_at hl 4 rfl) ?_
      refine lv_iload hx hb dL_law_34 (lv_at hl 0 rfl) ?_
      refine va_sld hx hb hX hbl hbA hw.2.2.2.1 (i := i) (vp_in_iff.mpr ⟨by have k1 := r_i.1; omega, by omega⟩) dL_law_36 ?_
      refine lv_bipush (v := 63) hx hb dL_law_37 (by decide) ?_
      refine lv_iand hx hb dL_law_39 (lv_topi (fun vv e_vv => ?_))
      by_cases cl : vv.toInt < 0 ∨ 40 < vv.toInt
      · refine lv_tableOut (tgt := 1335) hx hb dL_law_40 cl (by decide) ?_
        refine W.widen (k := C + 6) (n := S + 125) (by omega) (by omega) ?_
        exact K9 gh gdT gdq gdg gdo gdA gdB gda gdb gdR gdU gdV gdN gdNU gdNV gdL gdLU gdLV gdf _ _ _ _ ls hw h_x h_y h_o x_TLX_x_gh x_TLM_y_gh x_BYX_x_gdT x_BYM_y_gdT x_WKX_x x_GWX_x_gdq x_GQ_gdq_gdg x_HE_gdq_gdg_gdo_gdA_gdB_false_false x_FLP_gdq_gda_gdb x_HD_y_gdR x_KP_y_gdU_gdV x_ISA_y_gda_gdb x_NAM_y_gdL x_KNM_y_gdLU_gdLV x_PDF_gdo_gdR_gdN x_NLP_gdR_gdN_gdL x_LKP_gda_gdA_gdU_gdNU_gdLU x_LKP_gdb_gdB_gdV_gdNV_gdLV x_LF_x_gdf x_MF_y_gdf hl
      · have e8 : vv.toInt = 0 ∨ vv.toInt = 1 ∨ vv.toInt = 2 ∨ vv.toInt = 3 ∨ vv.toInt = 4 ∨ vv.toInt = 5 ∨ vv.toInt = 6 ∨ vv.toInt = 7 ∨ vv.toInt = 8 ∨ vv.toInt = 9 ∨ vv.toInt = 10 ∨ vv.toInt = 11 ∨ vv.toInt = 12 ∨ vv.toInt = 13 ∨ vv.toInt = 14 ∨ vv.toInt = 15 ∨ vv.toInt = 16 ∨ vv.toInt = 17 ∨ vv.toInt = 18 ∨ vv.toInt = 19 ∨ vv.toInt = 20 ∨ vv.toInt = 21 ∨ vv.toInt = 22 ∨ vv.toInt = 23 ∨ vv.toInt = 24 ∨ vv.toInt = 25 ∨ vv.toInt = 26 ∨ vv.toInt = 27 ∨ vv.toInt = 28 ∨ vv.toInt = 29 ∨ vv.toInt = 30 ∨ vv.toInt = 31 ∨ vv.toInt = 32 ∨ vv.toInt = 33 ∨ vv.toInt = 34 ∨ vv.toInt = 35 ∨ vv.toInt = 36 ∨ vv.toInt = 37 ∨ vv.toInt = 38 ∨ vv.toInt = 39 ∨ vv.toInt = 40 := by omega
        rcases e8 with h9 | h9 | h9 | h9 | h9 | h9 | h9 | h9 | h9 | h9 | h9 | h9 | h9 | h9 | h9 | h9 | h9 | h9 | h9 | h9 | h9 | h9 | h9 | h9 | h9 | h9 | h9 | h9 | h9 | h9 | h9 | h9 | h9 | h9 | h9 | h9 | h9 | h9 | h9 | h9 | h9
        · refine lv_tableIn (tgt := 220) (off := 180) hx hb dL_law_40 (by omega) (by omega) (by rw [h9]; rfl) (by decide) ?_
          exact op0 l hl0 hx hb hml hown hts hX hbl D cy z hK hSD hSE hw h_x h_y h_o x_TLX_x_gh x_TLM_y_gh x_BYX_x_gdT x_BYM_y_gdT x_WKX_x x_GWX_x_gdq x_GQ_gdq_gdg x_HE_gdq_gdg_gdo_gdA_gdB_false_false x_FLP_gdq_gda_gdb x_HD_y_gdR x_KP_y_gdU_gdV x_ISA_y_gda_gdb x_NAM_y_gdL x_KNM_y_gdLU_gdLV x_PDF_gdo_gdR_gdN x_NLP_gdR_gdN_gdL x_LKP_gda_gdA_gdU_gdNU_gdLU x_LKP_gdb_gdB_gdV_gdNV_gdLV x_LF_x_gdf x_MF_y_gdf r_i2 hi6 (by omega) (by omega) hl K9
        · refine lv_tableIn (tgt := 293) (off := 253) hx hb dL_law_40 (by omega) (by omega) (by rw [h9]; rfl) (by decide) ?_
          exact op1 l hl0 hx hb hml hown hts hX hbl D cy z hK hSD hSE hw h_x h_y h_o x_TLX_x_gh x_TLM_y_gh x_BYX_x_gdT x_BYM_y_gdT x_WKX_x x_GWX_x_gdq x_GQ_gdq_gdg x_HE_gdq_gdg_gdo_gdA_gdB_false_false x_FLP_gdq_gda_gdb x_HD_y_gdR x_KP_y_gdU_gdV x_ISA_y_gda_gdb x_NAM_y_gdL x_KNM_y_gdLU_gdLV x_PDF_gdo_gdR_gdN x_NLP_gdR_gdN_gdL x_LKP_gda_gdA_gdU_gdNU_gdLU x_LKP_gdb_gdB_gdV_gdNV_gdLV x_LF_x_gdf x_MF_y_gdf r_i2 hi6 (by omega) (by omega) hl K9
        · refine lv_tableIn (tgt := 318) (off := 278) hx hb dL_law_40 (by omega) (by omega) (by rw [h9]; rfl) (by decide) ?_
          exact op2 l hl0 hx hb hml hown hts hX hbl D cy z hK hSD hSE hw h_x h_y h_o x_TLX_x_gh x_TLM_y_gh x_BYX_x_gdT x_BYM_y_gdT x_WKX_x x_GWX_x_gdq x_GQ_gdq_gdg x_HE_gdq_gdg_gdo_gdA_gdB_false_false x_FLP_gdq_gda_gdb x_HD_y_gdR x_KP_y_gdU_gdV x_ISA_y_gda_gdb x_NAM_y_gdL x_KNM_y_gdLU_gdLV x_PDF_gdo_gdR_gdN x_NLP_gdR_gdN_gdL x_LKP_gda_gdA_gdU_gdNU_gdLU x_LKP_gdb_gdB_gdV_gdNV_gdLV x_LF_x_gdf x_MF_y_gdf r_i2 hi6 (by omega) (by omega) hl K9
        · refine lv_tableIn (tgt := 331) (off := 291) hx hb dL_law_40 (by omega) (by omega) (by rw [h9]; rfl) (by decide) ?_
          exact op3 l hl0 hx hb hml hown hts hX hbl D cy z hK hSD hSE hw h_x h_y h_o x_TLX_x_gh x_TLM_y_gh x_BYX_x_gdT x_BYM_y_gdT x_WKX_x x_GWX_x_gdq x_GQ_gdq_gdg x_HE_gdq_gdg_gdo_gdA_gdB_false_false x_FLP_gdq_gda_gdb x_HD_y_gdR x_KP_y_gdU_gdV x_ISA_y_gda_gdb x_NAM_y_gdL x_KNM_y_gdLU_gdLV x_PDF_gdo_gdR_gdN x_NLP_gdR_gdN_gdL x_LKP_gda_gdA_gdU_gdNU_gdLU x_LKP_gdb_gdB_gdV_gdNV_gdLV x_LF_x_gdf x_MF_y_gdf r_i2 hi6 (by omega) (by omega) hl K9
        · refine lv_tableIn (tgt := 344) (off := 304) hx hb dL_law_40 (by omega) (by omega) (by rw [h9]; rfl) (by decide) ?_
          exact op4 l hl0 hx hb hml hown hts hX hbl D cy z hK hSD hSE hw h_x h_y h_o x_TLX_x_gh x_TLM_y_gh x_BYX_x_gdT x_BYM_y_gdT x_WKX_x x_GWX_x_gdq x_GQ_gdq_gdg x_HE_gdq_gdg_gdo_gdA_gdB_false_false x_FLP_gdq_gda_gdb x_HD_y_gdR x_KP_y_gdU_gdV x_ISA_y_gda_gdb x_NAM_y_gdL x_KNM_y_gdLU_gdLV x_PDF_gdo_gdR_gdN x_NLP_gdR_gdN_gdL x_LKP_gda_gdA_gdU_gdNU_gdLU x_LKP_gdb_gdB_gdV_gdNV_gdLV x_LF_x_gdf x_MF_y_gdf r_i2 hi6 (by omega) (by omega) hl K9
        · refine lv_tableIn (tgt := 381) (off := 341) hx hb dL_law_40 (by omega) (by omega) (by rw [h9]; rfl) (by decide) ?_
          exact op5 l hl0 hx hb hml hown hts hX hbl D cy z hK hSD hSE hw h_x h_y h_o x_TLX_x_gh x_TLM_y_gh x_BYX_x_gdT x_BYM_y_gdT x_WKX_x x_GWX_x_gdq x_GQ_gdq_gdg x_HE_gdq_gdg_gdo_gdA_gdB_false_false x_FLP_gdq_gda_gdb x_HD_y_gdR x_KP_y_gdU_gdV x_ISA_y_gda_gdb x_NAM_y_gdL x_KNM_y_gdLU_gdLV x_PDF_gdo_gdR_gdN x_NLP_gdR_gdN_gdL x_LKP_gda_gdA_gdU_gdNU_gdLU x_LKP_gdb_gdB_gdV_gdNV_gdLV x_LF_x_gdf x_MF_y_gdf r_i2 hi6 (by omega) (by omega) hl K9
        · refine lv_tableIn (tgt := 421) (off := 381) hx hb dL_law_40 (by omega) (by omega) (by rw [h9]; rfl) (by decide) ?_
          exact op6 l hl0 hx hb hml hown hts hX hbl D cy z hK hSD hSE hw h_x h_y h_o x_TLX_x_gh x_TLM_y_gh x_BYX_x_gdT x_BYM_y_gdT x_WKX_x x_GWX_x_gdq x_GQ_gdq_gdg x_HE_gdq_gdg_gdo_gdA_gdB_false_false x_FLP_gdq_gda_gdb x_HD_y_gdR x_KP_y_gdU_gdV x_ISA_y_gda_gdb x_NAM_y_gdL x_KNM_y_gdLU_gdLV x_PDF_gdo_gdR_gdN x_NLP_gdR_gdN_gdL x_LKP_gda_gdA_gdU_gdNU_gdLU x_LKP_gdb_gdB_gdV_gdNV_gdLV x_LF_x_gdf x_MF_y_gdf r_i2 hi6 (by omega) (by omega) hl K9
        · refine lv_tableIn (tgt := 461) (off := 421) hx hb dL_law_40 (by omega) (by omega) (by rw [h9]; rfl) (by decide) ?_
          exact op7 l hl0 hx hb hml hown hts hX hbl D cy z hK hSD hSE hw h_x h_y h_o x_TLX_x_gh x_TLM_y_gh x_BYX_x_gdT x_BYM_y_gdT x_WKX_x x_GWX_x_gdq x_GQ_gdq_gdg x_HE_gdq_gdg_gdo_gdA_gdB_false_false x_FLP_gdq_gda_gdb x_HD_y_gdR x_KP_y_gdU_gdV x_ISA_y_gda_gdb x_NAM_y_gdL x_KNM_y_gdLU_gdLV x_PDF_gdo_gdR_gdN x_NLP_gdR_gdN_gdL x_LKP_gda_gdA_gdU_gdNU_gdLU x_LKP_gdb_gdB_gdV_gdNV_gdLV x_LF_x_gdf x_MF_y_gdf r_i2 hi6 (by omega) (by omega) hl K9
        · refine lv_tableIn (tgt := 486) (off := 446) hx hb dL_law_40 (by omega) (by omega) (by rw [h9]; rfl) (by decide) ?_
          exact op8 l hl0 hx hb hml hown hts hX hbl D cy z hK hSD hSE hw h_x h_y h_o x_TLX_x_gh x_TLM_y_gh x_BYX_x_gdT x_BYM_y_gdT x_WKX_x x_GWX_x_gdq x_GQ_gdq_gdg x_HE_gdq_gdg_gdo_gdA_gdB_false_false x_FLP_gdq_gda_gdb x_HD_y_gdR x_KP_y_gdU_gdV x_ISA_y_gda_gdb x_NAM_y_gdL x_KNM_y_gdLU_gdLV x_PDF_gdo_gdR_gdN x_NLP_gdR_gdN_gdL x_LKP_gda_gdA_gdU_gdNU_gdLU x_LKP_gdb_gdB_gdV_gdNV_gdLV x_LF_x_gdf x_MF_y_gdf r_i2 hi6 (by omega) (by omega) hl K9
        · refine lv_tableIn (tgt := 511) (off := 471) hx hb dL_law_40 (by omega) (by omega) (by rw [h9]; rfl) (by decide) ?_
          exact op9 l hl0 hx hb hml hown hts hX hbl D cy z hK hSD hSE hw h_x h_y h_o x_TLX_x_gh x_TLM_y_gh x_BYX_x_gdT x_BYM_y_gdT x_WKX_x x_GWX_x_gdq x_GQ_gdq_gdg x_HE_gdq_gdg_gdo_gdA_gdB_false_false x_FLP_gdq_gda_gdb x_HD_y_gdR x_KP_y_gdU_gdV x_ISA_y_gda_gdb x_NAM_y_gdL x_KNM_y_gdLU_gdLV x_PDF_gdo_gdR_gdN x_NLP_gdR_gdN_gdL x_LKP_gda_gdA_gdU_gdNU_gdLU x_LKP_gdb_gdB_gdV_gdNV_gdLV x_LF_x_gdf x_MF_y_gdf r_i2 hi6 (by omega) (by omega) hl K9
        · refine lv_tableIn (tgt := 536) (off := 496) hx hb dL_law_40 (by omega) (by omega) (by rw [h9]; rfl) (by decide) ?_
          exact op10 l hl0 hx hb hml hown hts hX hbl D cy z hK hSD hSE hw h_x h_y h_o x_TLX_x_gh x_TLM_y_gh x_BYX_x_gdT x_BYM_y_gdT x_WKX_x x_GWX_x_gdq x_GQ_gdq_gdg x_HE_gdq_gdg_gdo_gdA_gdB_false_false x_FLP_gdq_gda_gdb x_HD_y_gdR x_KP_y_gdU_gdV x_ISA_y_gda_gdb x_NAM_y_gdL x_KNM_y_gdLU_gdLV x_PDF_gdo_gdR_gdN x_NLP_gdR_gdN_gdL x_LKP_gda_gdA_gdU_gdNU_gdLU x_LKP_gdb_gdB_gdV_gdNV_gdLV x_LF_x_gdf x_MF_y_gdf r_i2 hi6 (by omega) (by omega) hl K9
        · refine lv_tableIn (tgt := 573) (off := 533) hx hb dL_law_40 (by omega) (by omega) (by rw [h9]; rfl) (by decide) ?_
          exact op11 l hl0 hx hb hml hown hts hX hbl D cy z hK hSD hSE hw h_x h_y h_o x_TLX_x_gh x_TLM_y_gh x_BYX_x_gdT x_BYM_y_gdT x_WKX_x x_GWX_x_gdq x_GQ_gdq_gdg x_HE_gdq_gdg_gdo_gdA_gdB_false_false x_FLP_gdq_gda_gdb x_HD_y_gdR x_KP_y_gdU_gdV x_ISA_y_gda_gdb x_NAM_y_gdL x_KNM_y_gdLU_gdLV x_PDF_gdo_gdR_gdN x_NLP_gdR_gdN_gdL x_LKP_gda_gdA_gdU_gdNU_gdLU x_LKP_gdb_gdB_gdV_gdNV_gdLV x_LF_x_gdf x_MF_y_gdf r_i2 hi6 (by omega) (by omega) hl K9
        · refine lv_tableIn (tgt := 598) (off := 558) hx hb dL_law_40 (by omega) (by omega) (by rw [h9]; rfl) (by decide) ?_
          exact op12 l hl0 hx hb hml hown hts hX hbl D cy z hK hSD hSE hw h_x h_y h_o x_TLX_x_gh x_TLM_y_gh x_BYX_x_gdT x_BYM_y_gdT x_WKX_x x_GWX_x_gdq x_GQ_gdq_gdg x_HE_gdq_gdg_gdo_gdA_gdB_false_false x_FLP_gdq_gda_gdb x_HD_y_gdR x_KP_y_gdU_gdV x_ISA_y_gda_gdb x_NAM_y_gdL x_KNM_y_gdLU_gdLV x_PDF_gdo_gdR_gdN x_NLP_gdR_gdN_gdL x_LKP_gda_gdA_gdU_gdNU_gdLU x_LKP_gdb_gdB_gdV_gdNV_gdLV x_LF_x_gdf x_MF_y_gdf r_i2 hi6 (by omega) (by omega) hl K9
        · refine lv_tableIn (tgt := 635) (off := 595) hx hb dL_law_40 (by omega) (by omega) (by rw [h9]; rfl) (by decide) ?_
          exact op13 l hl0 hx hb hml hown hts hX hbl D cy z hK hSD hSE hw h_x h_y h_o x_TLX_x_gh x_TLM_y_gh x_BYX_x_gdT x_BYM_y_gdT x_WKX_x x_GWX_x_gdq x_GQ_gdq_gdg x_HE_gdq_gdg_gdo_gdA_gdB_false_false x_FLP_gdq_gda_gdb x_HD_y_gdR x_KP_y_gdU_gdV x_ISA_y_gda_gdb x_NAM_y_gdL x_KNM_y_gdLU_gdLV x_PDF_gdo_gdR_gdN x_NLP_gdR_gdN_gdL x_LKP_gda_gdA_gdU_gdNU_gdLU x_LKP_gdb_gdB_gdV_gdNV_gdLV x_LF_x_gdf x_MF_y_gdf r_i2 hi6 (by omega) (by omega) hl K9
        · refine lv_tableIn (tgt := 672) (off := 632) hx hb dL_law_40 (by omega) (by omega) (by rw [h9]; rfl) (by decide) ?_
          exact op14 l hl0 hx hb hml hown hts hX hbl D cy z hK hSD hSE hw h_x h_y h_o x_TLX_x_gh x_TLM_y_gh x_BYX_x_gdT x_BYM_y_gdT x_WKX_x x_GWX_x_gdq x_GQ_gdq_gdg x_HE_gdq_gdg_gdo_gdA_gdB_false_false x_FLP_gdq_gda_gdb x_HD_y_gdR x_KP_y_gdU_gdV x_ISA_y_gda_gdb x_NAM_y_gdL x_KNM_y_gdLU_gdLV x_PDF_gdo_gdR_gdN x_NLP_gdR_gdN_gdL x_LKP_gda_gdA_gdU_gdNU_gdLU x_LKP_gdb_gdB_gdV_gdNV_gdLV x_LF_x_gdf x_MF_y_gdf r_i2 hi6 (by omega) (by omega) hl K9
        · refine lv_tableIn (tgt := 697) (off := 657) hx hb dL_law_40 (by omega) (by omega) (by rw [h9]; rfl) (by decide) ?_
          exact op15 l hl0 hx hb hml hown hts hX hbl D cy z hK hSD hSE hw h_x h_y h_o x_TLX_x_gh x_TLM_y_gh x_BYX_x_gdT x_BYM_y_gdT x_WKX_x x_GWX_x_gdq x_GQ_gdq_gdg x_HE_gdq_gdg_gdo_gdA_gdB_false_false x_FLP_gdq_gda_gdb x_HD_y_gdR x_KP_y_gdU_gdV x_ISA_y_gda_gdb x_NAM_y_gdL x_KNM_y_gdLU_gdLV x_PDF_gdo_gdR_gdN x_NLP_gdR_gdN_gdL x_LKP_gda_gdA_gdU_gdNU_gdLU x_LKP_gdb_gdB_gdV_gdNV_gdLV x_LF_x_gdf x_MF_y_gdf r_i2 hi6 (by omega) (by omega) hl K9
        · refine lv_tableIn (tgt := 734) (off := 694) hx hb dL_law_40 (by omega) (by omega) (by rw [h9]; rfl) (by decide) ?_
          exact op16 l hl0 hx hb hml hown hts hX hbl D cy z hK hSD hSE hw h_x h_y h_o x_TLX_x_gh x_TLM_y_gh x_BYX_x_gdT x_BYM_y_gdT x_WKX_x x_GWX_x_gdq x_GQ_gdq_gdg x_HE_gdq_gdg_gdo_gdA_gdB_false_false x_FLP_gdq_gda_gdb x_HD_y_gdR x_KP_y_gdU_gdV x_ISA_y_gda_gdb x_NAM_y_gdL x_KNM_y_gdLU_gdLV x_PDF_gdo_gdR_gdN x_NLP_gdR_gdN_gdL x_LKP_gda_gdA_gdU_gdNU_gdLU x_LKP_gdb_gdB_gdV_gdNV_gdLV x_LF_x_gdf x_MF_y_gdf r_i2 hi6 (by omega) (by omega) hl K9
        · refine lv_tableIn (tgt := 759) (off := 719) hx hb dL_law_40 (by omega) (by omega) (by rw [h9]; rfl) (by decide) ?_
          exact op17 l hl0 hx hb hml hown hts hX hbl D cy z hK hSD hSE hw h_x h_y h_o x_TLX_x_gh x_TLM_y_gh x_BYX_x_gdT x_BYM_y_gdT x_WKX_x x_GWX_x_gdq x_GQ_gdq_gdg x_HE_gdq_gdg_gdo_gdA_gdB_false_false x_FLP_gdq_gda_gdb x_HD_y_gdR x_KP_y_gdU_gdV x_ISA_y_gda_gdb x_NAM_y_gdL x_KNM_y_gdLU_gdLV x_PDF_gdo_gdR_gdN x_NLP_gdR_gdN_gdL x_LKP_gda_gdA_gdU_gdNU_gdLU x_LKP_gdb_gdB_gdV_gdNV_gdLV x_LF_x_gdf x_MF_y_gdf r_i2 hi6 (by omega) (by omega) hl K9
        · refine lv_tableIn (tgt := 772) (off := 732) hx hb dL_law_40 (by omega) (by omega) (by rw [h9]; rfl) (by decide) ?_
          exact op18 l hl0 hx hb hml hown hts hX hbl D cy z hK hSD hSE hw h_x h_y h_o x_TLX_x_gh x_TLM_y_gh x_BYX_x_gdT x_BYM_y_gdT x_WKX_x x_GWX_x_gdq x_GQ_gdq_gdg x_HE_gdq_gdg_gdo_gdA_gdB_false_false x_FLP_gdq_gda_gdb x_HD_y_gdR x_KP_y_gdU_gdV x_ISA_y_gda_gdb x_NAM_y_gdL x_KNM_y_gdLU_gdLV x_PDF_gdo_gdR_gdN x_NLP_gdR_gdN_gdL x_LKP_gda_gdA_gdU_gdNU_gdLU x_LKP_gdb_gdB_gdV_gdNV_gdLV x_LF_x_gdf x_MF_y_gdf r_i2 hi6 (by omega) (by omega) hl K9
        · refine lv_tableIn (tgt := 809) (off := 769) hx hb dL_law_40 (by omega) (by omega) (by rw [h9]; rfl) (by decide) ?_
          exact op19 l hl0 hx hb hml hown hts hX hbl D cy z hK hSD hSE hw h_x h_y h_o x_TLX_x_gh x_TLM_y_gh x_BYX_x_gdT x_BYM_y_gdT x_WKX_x x_GWX_x_gdq x_GQ_gdq_gdg x_HE_gdq_gdg_gdo_gdA_gdB_false_false x_FLP_gdq_gda_gdb x_HD_y_gdR x_KP_y_gdU_gdV x_ISA_y_gda_gdb x_NAM_y_gdL x_KNM_y_gdLU_gdLV x_PDF_gdo_gdR_gdN x_NLP_gdR_gdN_gdL x_LKP_gda_gdA_gdU_gdNU_gdLU x_LKP_gdb_gdB_gdV_gdNV_gdLV x_LF_x_gdf x_MF_y_gdf r_i2 hi6 (by omega) (by omega) hl K9
        · refine lv_tableIn (tgt := 858) (off := 818) hx hb dL_law_40 (by omega) (by omega) (by rw [h9]; rfl) (by decide) ?_
          exact op20 l hl0 hx hb hml hown hts hX hbl D cy z hK hSD hSE hw h_x h_y h_o x_TLX_x_gh x_TLM_y_gh x_BYX_x_gdT x_BYM_y_gdT x_WKX_x x_GWX_x_gdq x_GQ_gdq_gdg x_HE_gdq_gdg_gdo_gdA_gdB_false_false x_FLP_gdq_gda_gdb x_HD_y_gdR x_KP_y_gdU_gdV x_ISA_y_gda_gdb x_NAM_y_gdL x_KNM_y_gdLU_gdLV x_PDF_gdo_gdR_gdN x_NLP_gdR_gdN_gdL x_LKP_gda_gdA_gdU_gdNU_gdLU x_LKP_gdb_gdB_gdV_gdNV_gdLV x_LF_x_gdf x_MF_y_gdf r_i2 hi6 (by omega) (by omega) hl K9
        · refine lv_tableIn (tgt := 871) (off := 831) hx hb dL_law_40 (by omega) (by omega) (by rw [h9]; rfl) (by decide) ?_
          exact op21 l hl0 hx hb hml hown hts hX hbl D cy z hK hSD hSE hw h_x h_y h_o x_TLX_x_gh x_TLM_y_gh x_BYX_x_gdT x_BYM_y_gdT x_WKX_x x_GWX_x_gdq x_GQ_gdq_gdg x_HE_gdq_gdg_gdo_gdA_gdB_false_false x_FLP_gdq_gda_gdb x_HD_y_gdR x_KP_y_gdU_gdV x_ISA_y_gda_gdb x_NAM_y_gdL x_KNM_y_gdLU_gdLV x_PDF_gdo_gdR_gdN x_NLP_gdR_gdN_gdL x_LKP_gda_gdA_gdU_gdNU_gdLU x_LKP_gdb_gdB_gdV_gdNV_gdLV x_LF_x_gdf x_MF_y_gdf r_i2 hi6 (by omega) (by omega) hl K9
        · refine lv_tableIn (tgt := 884) (off := 844) hx hb dL_law_40 (by omega) (by omega) (by rw [h9]; rfl) (by decide) ?_
          exact op22 l hl0 hx hb hml hown hts hX hbl D cy z hK hSD hSE hw h_x h_y h_o x_TLX_x_gh x_TLM_y_gh x_BYX_x_gdT x_BYM_y_gdT x_WKX_x x_GWX_x_gdq x_GQ_gdq_gdg x_HE_gdq_gdg_gdo_gdA_gdB_false_false x_FLP_gdq_gda_gdb x_HD_y_gdR x_KP_y_gdU_gdV x_ISA_y_gda_gdb x_NAM_y_gdL x_KNM_y_gdLU_gdLV x_PDF_gdo_gdR_gdN x_NLP_gdR_gdN_gdL x_LKP_gda_gdA_gdU_gdNU_gdLU x_LKP_gdb_gdB_gdV_gdNV_gdLV x_LF_x_gdf x_MF_y_gdf r_i2 hi6 (by omega) (by omega) hl K9
        · refine lv_tableIn (tgt := 897) (off := 857) hx hb dL_law_40 (by omega) (by omega) (by rw [h9]; rfl) (by decide) ?_
          exact op23 l hl0 hx hb hml hown hts hX hbl D cy z hK hSD hSE hw h_x h_y h_o x_TLX_x_gh x_TLM_y_gh x_BYX_x_gdT x_BYM_y_gdT x_WKX_x x_GWX_x_gdq x_GQ_gdq_gdg x_HE_gdq_gdg_gdo_gdA_gdB_false_false x_FLP_gdq_gda_gdb x_HD_y_gdR x_KP_y_gdU_gdV x_ISA_y_gda_gdb x_NAM_y_gdL x_KNM_y_gdLU_gdLV x_PDF_gdo_gdR_gdN x_NLP_gdR_gdN_gdL x_LKP_gda_gdA_gdU_gdNU_gdLU x_LKP_gdb_gdB_gdV_gdNV_gdLV x_LF_x_gdf x_MF_y_gdf r_i2 hi6 (by omega) (by omega) hl K9
        · refine lv_tableIn (tgt := 910) (off := 870) hx hb dL_law_40 (by omega) (by omega) (by rw [h9]; rfl) (by decide) ?_
          exact op24 l hl0 hx hb hml hown hts hX hbl D cy z hK hSD hSE hw h_x h_y h_o x_TLX_x_gh x_TLM_y_gh x_BYX_x_gdT x_BYM_y_gdT x_WKX_x x_GWX_x_gdq x_GQ_gdq_gdg x_HE_gdq_gdg_gdo_gdA_gdB_false_false x_FLP_gdq_gda_gdb x_HD_y_gdR x_KP_y_gdU_gdV x_ISA_y_gda_gdb x_NAM_y_gdL x_KNM_y_gdLU_gdLV x_PDF_gdo_gdR_gdN x_NLP_gdR_gdN_gdL x_LKP_gda_gdA_gdU_gdNU_gdLU x_LKP_gdb_gdB_gdV_gdNV_gdLV x_LF_x_gdf x_MF_y_gdf r_i2 hi6 (by omega) (by omega) hl K9
        · refine lv_tableIn (tgt := 935) (off := 895) hx hb dL_law_40 (by omega) (by omega) (by rw [h9]; rfl) (by decide) ?_
          exact op25 l hl0 hx hb hml hown hts hX hbl D cy z hK hSD hSE hw h_x h_y h_o x_TLX_x_gh x_TLM_y_gh x_BYX_x_gdT x_BYM_y_gdT x_WKX_x x_GWX_x_gdq x_GQ_gdq_gdg x_HE_gdq_gdg_gdo_gdA_gdB_false_false x_FLP_gdq_gda_gdb x_HD_y_gdR x_KP_y_gdU_gdV x_ISA_y_gda_gdb x_NAM_y_gdL x_KNM_y_gdLU_gdLV x_PDF_gdo_gdR_gdN x_NLP_gdR_gdN_gdL x_LKP_gda_gdA_gdU_gdNU_gdLU x_LKP_gdb_gdB_gdV_gdNV_gdLV x_LF_x_gdf x_MF_y_gdf r_i2 hi6 (by omega) (by omega) hl K9
        · refine lv_tableIn (tgt := 948) (off := 908) hx hb dL_law_40 (by omega) (by omega) (by rw [h9]; rfl) (by decide) ?_
          exact op26 l hl0 hx hb hml hown hts hX hbl D cy z hK hSD hSE hw h_x h_y h_o x_TLX_x_gh x_TLM_y_gh x_BYX_x_gdT x_BYM_y_gdT x_WKX_x x_GWX_x_gdq x_GQ_gdq_gdg x_HE_gdq_gdg_gdo_gdA_gdB_false_false x_FLP_gdq_gda_gdb x_HD_y_gdR x_KP_y_gdU_gdV x_ISA_y_gda_gdb x_NAM_y_gdL x_KNM_y_gdLU_gdLV x_PDF_gdo_gdR_gdN x_NLP_gdR_gdN_gdL x_LKP_gda_gdA_gdU_gdNU_gdLU x_LKP_gdb_gdB_gdV_gdNV_gdLV x_LF_x_gdf x_MF_y_gdf r_i2 hi6 (by omega) (by omega) hl K9
        · refine lv_tableIn (tgt := 973) (off := 933) hx hb dL_law_40 (by omega) (by omega) (by rw [h9]; rfl) (by decide) ?_
          exact op27 l hl0 hx hb hml hown hts hX hbl D cy z hK hSD hSE hw h_x h_y h_o x_TLX_x_gh x_TLM_y_gh x_BYX_x_gdT x_BYM_y_gdT x_WKX_x x_GWX_x_gdq x_GQ_gdq_gdg x_HE_gdq_gdg_gdo_gdA_gdB_false_false x_FLP_gdq_gda_gdb x_HD_y_gdR x_KP_y_gdU_gdV x_ISA_y_gda_gdb x_NAM_y_gdL x_KNM_y_gdLU_gdLV x_PDF_gdo_gdR_gdN x_NLP_gdR_gdN_gdL x_LKP_gda_gdA_gdU_gdNU_gdLU x_LKP_gdb_gdB_gdV_gdNV_gdLV x_LF_x_gdf x_MF_y_gdf r_i2 hi6 (by omega) (by omega) hl K9
        · refine lv_tableIn (tgt := 986) (off := 946) hx hb dL_law_40 (by omega) (by omega) (by rw [h9]; rfl) (by decide) ?_
          exact op28 l hl0 hx hb hml hown hts hX hbl D cy z hK hSD hSE hw h_x h_y h_o x_TLX_x_gh x_TLM_y_gh x_BYX_x_gdT x_BYM_y_gdT x_WKX_x x_GWX_x_gdq x_GQ_gdq_gdg x_HE_gdq_gdg_gdo_gdA_gdB_false_false x_FLP_gdq_gda_gdb x_HD_y_gdR x_KP_y_gdU_gdV x_ISA_y_gda_gdb x_NAM_y_gdL x_KNM_y_gdLU_gdLV x_PDF_gdo_gdR_gdN x_NLP_gdR_gdN_gdL x_LKP_gda_gdA_gdU_gdNU_gdLU x_LKP_gdb_gdB_gdV_gdNV_gdLV x_LF_x_gdf x_MF_y_gdf r_i2 hi6 (by omega) (by omega) hl K9
        · refine lv_tableIn (tgt := 1011) (off := 971) hx hb dL_law_40 (by omega) (by omega) (by rw [h9]; rfl) (by decide) ?_
          exact op29 l hl0 hx hb hml hown hts hX hbl D cy z hK hSD hSE hw h_x h_y h_o x_TLX_x_gh x_TLM_y_gh x_BYX_x_gdT x_BYM_y_gdT x_WKX_x x_GWX_x_gdq x_GQ_gdq_gdg x_HE_gdq_gdg_gdo_gdA_gdB_false_false x_FLP_gdq_gda_gdb x_HD_y_gdR x_KP_y_gdU_gdV x_ISA_y_gda_gdb x_NAM_y_gdL x_KNM_y_gdLU_gdLV x_PDF_gdo_gdR_gdN x_NLP_gdR_gdN_gdL x_LKP_gda_gdA_gdU_gdNU_gdLU x_LKP_gdb_gdB_gdV_gdNV_gdLV x_LF_x_gdf x_MF_y_gdf r_i2 hi6 (by omega) (by omega) hl K9
        · refine lv_tableIn (tgt := 1024) (off := 984) hx hb dL_law_40 (by omega) (by omega) (by rw [h9]; rfl) (by decide) ?_
          exact op30 l hl0 hx hb hml hown hts hX hbl D cy z hK hSD hSE hw h_x h_y h_o x_TLX_x_gh x_TLM_y_gh x_BYX_x_gdT x_BYM_y_gdT x_WKX_x x_GWX_x_gdq x_GQ_gdq_gdg x_HE_gdq_gdg_gdo_gdA_gdB_false_false x_FLP_gdq_gda_gdb x_HD_y_gdR x_KP_y_gdU_gdV x_ISA_y_gda_gdb x_NAM_y_gdL x_KNM_y_gdLU_gdLV x_PDF_gdo_gdR_gdN x_NLP_gdR_gdN_gdL x_LKP_gda_gdA_gdU_gdNU_gdLU x_LKP_gdb_gdB_gdV_gdNV_gdLV x_LF_x_gdf x_MF_y_gdf r_i2 hi6 (by omega) (by omega) hl K9
        · refine lv_tableIn (tgt := 1049) (off := 1009) hx hb dL_law_40 (by omega) (by omega) (by rw [h9]; rfl) (by decide) ?_
          exact op31 l hl0 hx hb hml hown hts hX hbl D cy z hK hSD hSE hw h_x h_y h_o x_TLX_x_gh x_TLM_y_gh x_BYX_x_gdT x_BYM_y_gdT x_WKX_x x_GWX_x_gdq x_GQ_gdq_gdg x_HE_gdq_gdg_gdo_gdA_gdB_false_false x_FLP_gdq_gda_gdb x_HD_y_gdR x_KP_y_gdU_gdV x_ISA_y_gda_gdb x_NAM_y_gdL x_KNM_y_gdLU_gdLV x_PDF_gdo_gdR_gdN x_NLP_gdR_gdN_gdL x_LKP_gda_gdA_gdU_gdNU_gdLU x_LKP_gdb_gdB_gdV_gdNV_gdLV x_LF_x_gdf x_MF_y_gdf r_i2 hi6 (by omega) (by omega) hl K9
        · refine lv_tableIn (tgt := 1074) (off := 1034) hx hb dL_law_40 (by omega) (by omega) (by rw [h9]; rfl) (by decide) ?_
          exact op32 l hl0 hx hb hml hown hts hX hbl D cy z hK hSD hSE hw h_x h_y h_o x_TLX_x_gh x_TLM_y_gh x_BYX_x_gdT x_BYM_y_gdT x_WKX_x x_GWX_x_gdq x_GQ_gdq_gdg x_HE_gdq_gdg_gdo_gdA_gdB_false_false x_FLP_gdq_gda_gdb x_HD_y_gdR x_KP_y_gdU_gdV x_ISA_y_gda_gdb x_NAM_y_gdL x_KNM_y_gdLU_gdLV x_PDF_gdo_gdR_gdN x_NLP_gdR_gdN_gdL x_LKP_gda_gdA_gdU_gdNU_gdLU x_LKP_gdb_gdB_gdV_gdNV_gdLV x_LF_x_gdf x_MF_y_gdf r_i2 hi6 (by omega) (by omega) hl K9
        · refine lv_tableIn (tgt := 1111) (off := 1071) hx hb dL_law_40 (by omega) (by omega) (by rw [h9]; rfl) (by decide) ?_
          exact op33 l hl0 hx hb hml hown hts hX hbl D cy z hK hSD hSE hw h_x h_y h_o x_TLX_x_gh x_TLM_y_gh x_BYX_x_gdT x_BYM_y_gdT x_WKX_x x_GWX_x_gdq x_GQ_gdq_gdg x_HE_gdq_gdg_gdo_gdA_gdB_false_false x_FLP_gdq_gda_gdb x_HD_y_gdR x_KP_y_gdU_gdV x_ISA_y_gda_gdb x_NAM_y_gdL x_KNM_y_gdLU_gdLV x_PDF_gdo_gdR_gdN x_NLP_gdR_gdN_gdL x_LKP_gda_gdA_gdU_gdNU_gdLU x_LKP_gdb_gdB_gdV_gdNV_gdLV x_LF_x_gdf x_MF_y_gdf r_i2 hi6 (by omega) (by omega) hl K9
        · refine lv_tableIn (tgt := 1172) (off := 1132) hx hb dL_law_40 (by omega) (by omega) (by rw [h9]; rfl) (by decide) ?_
          exact op34 l hl0 hx hb hml hown hts hX hbl D cy z hK hSD hSE hw h_x h_y h_o x_TLX_x_gh x_TLM_y_gh x_BYX_x_gdT x_BYM_y_gdT x_WKX_x x_GWX_x_gdq x_GQ_gdq_gdg x_HE_gdq_gdg_gdo_gdA_gdB_false_false x_FLP_gdq_gda_gdb x_HD_y_gdR x_KP_y_gdU_gdV x_ISA_y_gda_gdb x_NAM_y_gdL x_KNM_y_gdLU_gdLV x_PDF_gdo_gdR_gdN x_NLP_gdR_gdN_gdL x_LKP_gda_gdA_gdU_gdNU_gdLU x_LKP_gdb_gdB_gdV_gdNV_gdLV x_LF_x_gdf x_MF_y_gdf r_i2 hi6 (by omega) (by omega) hl K9
        · refine lv_tableIn (tgt := 1197) (off := 1157) hx hb dL_law_40 (by omega) (by omega) (by rw [h9]; rfl) (by decide) ?_
          exact op35 l hl0 hx hb hml hown hts hX hbl D cy z hK hSD hSE hw h_x h_y h_o x_TLX_x_gh x_TLM_y_gh x_BYX_x_gdT x_BYM_y_gdT x_WKX_x x_GWX_x_gdq x_GQ_gdq_gdg x_HE_gdq_gdg_gdo_gdA_gdB_false_false x_FLP_gdq_gda_gdb x_HD_y_gdR x_KP_y_gdU_gdV x_ISA_y_gda_gdb x_NAM_y_gdL x_KNM_y_gdLU_gdLV x_PDF_gdo_gdR_gdN x_NLP_gdR_gdN_gdL x_LKP_gda_gdA_gdU_gdNU_gdLU x_LKP_gdb_gdB_gdV_gdNV_gdLV x_LF_x_gdf x_MF_y_gdf r_i2 hi6 (by omega) (by omega) hl K9
        · refine lv_tableIn (tgt := 1222) (off := 1182) hx hb dL_law_40 (by omega) (by omega) (by rw [h9]; rfl) (by decide) ?_
          exact op36 l hl0 hx hb hml hown hts hX hbl D cy z hK hSD hSE hw h_x h_y h_o x_TLX_x_gh x_TLM_y_gh x_BYX_x_gdT x_BYM_y_gdT x_WKX_x x_GWX_x_gdq x_GQ_gdq_gdg x_HE_gdq_gdg_gdo_gdA_gdB_false_false x_FLP_gdq_gda_gdb x_HD_y_gdR x_KP_y_gdU_gdV x_ISA_y_gda_gdb x_NAM_y_gdL x_KNM_y_gdLU_gdLV x_PDF_gdo_gdR_gdN x_NLP_gdR_gdN_gdL x_LKP_gda_gdA_gdU_gdNU_gdLU x_LKP_gdb_gdB_gdV_gdNV_gdLV x_LF_x_gdf x_MF_y_gdf r_i2 hi6 (by omega) (by omega) hl K9
        · refine lv_tableIn (tgt := 1235) (off := 1195) hx hb dL_law_40 (by omega) (by omega) (by rw [h9]; rfl) (by decide) ?_
          exact op37 l hl0 hx hb hml hown hts hX hbl D cy z hK hSD hSE hw h_x h_y h_o x_TLX_x_gh x_TLM_y_gh x_BYX_x_gdT x_BYM_y_gdT x_WKX_x x_GWX_x_gdq x_GQ_gdq_gdg x_HE_gdq_gdg_gdo_gdA_gdB_false_false x_FLP_gdq_gda_gdb x_HD_y_gdR x_KP_y_gdU_gdV x_ISA_y_gda_gdb x_NAM_y_gdL x_KNM_y_gdLU_gdLV x_PDF_gdo_gdR_gdN x_NLP_gdR_gdN_gdL x_LKP_gda_gdA_gdU_gdNU_gdLU x_LKP_gdb_gdB_gdV_gdNV_gdLV x_LF_x_gdf x_MF_y_gdf r_i2 hi6 (by omega) (by omega) hl K9
        · refine lv_tableIn (tgt := 1260) (off := 1220) hx hb dL_law_40 (by omega) (by omega) (by rw [h9]; rfl) (by decide) ?_
          exact op38 l hl0 hx hb hml hown hts hX hbl D cy z hK hSD hSE hw h_x h_y h_o x_TLX_x_gh x_TLM_y_gh x_BYX_x_gdT x_BYM_y_gdT x_WKX_x x_GWX_x_gdq x_GQ_gdq_gdg x_HE_gdq_gdg_gdo_gdA_gdB_false_false x_FLP_gdq_gda_gdb x_HD_y_gdR x_KP_y_gdU_gdV x_ISA_y_gda_gdb x_NAM_y_gdL x_KNM_y_gdLU_gdLV x_PDF_gdo_gdR_gdN x_NLP_gdR_gdN_gdL x_LKP_gda_gdA_gdU_gdNU_gdLU x_LKP_gdb_gdB_gdV_gdNV_gdLV x_LF_x_gdf x_MF_y_gdf r_i2 hi6 (by omega) (by omega) hl K9
        · refine lv_tableIn (tgt := 1285) (off := 1245) hx hb dL_law_40 (by omega) (by omega) (by rw [h9]; rfl) (by decide) ?_
          exact op39 l hl0 hx hb hml hown hts hX hbl D cy z hK hSD hSE hw h_x h_y h_o x_TLX_x_gh x_TLM_y_gh x_BYX_x_gdT x_BYM_y_gdT x_WKX_x x_GWX_x_gdq x_GQ_gdq_gdg x_HE_gdq_gdg_gdo_gdA_gdB_false_false x_FLP_gdq_gda_gdb x_HD_y_gdR x_KP_y_gdU_gdV x_ISA_y_gda_gdb x_NAM_y_gdL x_KNM_y_gdLU_gdLV x_PDF_gdo_gdR_gdN x_NLP_gdR_gdN_gdL x_LKP_gda_gdA_gdU_gdNU_gdLU x_LKP_gdb_gdB_gdV_gdNV_gdLV x_LF_x_gdf x_MF_y_gdf r_i2 hi6 (by omega) (by omega) hl K9
        · refine lv_tableIn (tgt := 1310) (off := 1270) hx hb dL_law_40 (by omega) (by omega) (by rw [h9]; rfl) (by decide) ?_
          exact op40 l hl0 hx hb hml hown hts hX hbl D cy z hK hSD hSE hw h_x h_y h_o x_TLX_x_gh x_TLM_y_gh x_BYX_x_gdT x_BYM_y_gdT x_WKX_x x_GWX_x_gdq x_GQ_gdq_gdg x_HE_gdq_gdg_gdo_gdA_gdB_false_false x_FLP_gdq_gda_gdb x_HD_y_gdR x_KP_y_gdU_gdV x_ISA_y_gda_gdb x_NAM_y_gdL x_KNM_y_gdLU_gdLV x_PDF_gdo_gdR_gdN x_NLP_gdR_gdN_gdL x_LKP_gda_gdA_gdU_gdNU_gdLU x_LKP_gdb_gdB_gdV_gdNV_gdLV x_LF_x_gdf x_MF_y_gdf r_i2 hi6 (by omega) (by omega) hl K9
def sdB : List Int32 := [105, 100, 101, 97, 32, 114, 111, 111, 109, 32, 112, 97, 114, 99, 101, 108, 32, 112, 101, 114, 115, 111, 110, 32, 115, 105, 116, 115, 32, 104, 97, 115, 32, 113, 117, 97, 114, 114, 101, 108, 32, 108, 101, 97, 107, 32, 103, 117, 101, 115, 115, 32, 106, 111, 105, 110, 115, 32, 115, 116, 97, 110, 100, 115, 32, 119, 105, 115, 104, 101, 115, 32, 103, 117, 101, 115, 115, 101, 115, 32, 111, 112, 101, 110, 32, 99, 97, 114, 114, 121, 32, 100, 97, 121, 32, 111, 114, 32, 97, 110, 100, 32, 110, 111, 116, 32, 111, 112, 101, 110, 101, 100, 32, 110, 111, 116, 104, 105, 110, 103, 32, 119, 97, 116, 99, 104, 101, 100, 32, 105, 115, 32, 105, 110, 32, 115, 105, 122, 101, 32, 98, 117, 108, 103, 101, 32, 116, 117, 114, 110, 101, 100, 32, 110, 117, 109, 98, 101, 114, 32]
abbrev sdC (j : Nat) : Cond := Cond.eq (.elem (.field (.string "WonderParcels$Tape" 23) "java/lang/String" "value" "[B") (.int (Int32.ofNat j))) (.int (sdB.getD j 0))
set_option maxRecDepth 100000 in
theorem sdL : ((flatC (Jvm.Cond.and given_1 narrow_1)).drop 59).take 160 = (List.range 160).map sdC := by decide +kernel
theorem sdE (j : Nat) (hj : j < 160) : sdC j ∈ flatC (Jvm.Cond.and given_1 narrow_1) := List.mem_of_mem_drop (List.mem_of_mem_take (by rw [sdL]; exact List.mem_map.mpr ⟨j, List.mem_range.mpr hj, rfl⟩))
theorem sdM : ∀ j, j < 4 → Cond.eq (.elem (.static "WonderParcels$Post" "MOST_OF_SORT" "[I") (.int (Int32.ofNat j))) (.int (([6, 4, 6, 8] : List Int32).getD j 0)) ∈ flatC (Jvm.Cond.and given_1 narrow_1) := by decide +kernel
theorem lwW {w : Cond} (i : Nat) (h : tables_1[i]? = some w) : w ∈ lw_tbl := List.mem_append_right _ (List.mem_of_getElem? h)
theorem sdS {args : Array Value} {s : State} {own : String} {k : Nat} (hex : (Cond.exactly (.string own k) "java/lang/String").before args s = true) : ∃ a : Nat, (Term.string own k).eval args s none [] s = some (.ref a) := by
  obtain ⟨a, c, cA, kA, q1, -⟩ := Cond.exactly_spec (args := args) (first := s) (o := none) (s := s) (idx := []) (t := .string own k) (cls := "java/lang/String") hex
  exact ⟨a, q1⟩
theorem sdArr {args : Array Value} {s : State} {ty : FieldType} (hobj : ∀ C, ty ≠ .object C) (h : (Cond.arrayClass ty).before args s = true) : ∃ cA : ClassId, ArrOfT s cA ty ∧ va_RA s cA ty := by
  obtain ⟨cA, kA, comp, h1, h2, h3⟩ := Cond.arrayClass_spec h
  refine ⟨cA, fun n z => ⟨fun k h => (by cases h), kA, h2, comp, h3⟩, ?_⟩
  cases ty with
  | object C => exact absurd rfl (hobj C)
  | _ => exact h1
theorem sdObj {args : Array Value} {s : State} {C : String} (h : (Cond.arrayOver (.object C)).before args s = true) : ∃ cA : ClassId, ArrOfT s cA (.object C) ∧ va_RA s cA (.object C) := by
  obtain ⟨comp, cA, kA, h1, -, h2, h3, h4⟩ := Cond.arrayOver_spec h
  exact ⟨cA, fun n z => ⟨fun k h => (by cases h), kA, h2, comp, h3⟩, kA, comp, h2, h3, h1, h4⟩
theorem nW_on {w : Cond} (h : isNest w = true) : w.onTables = true := by
  cases w <;> first | rfl | exact absurd h (by simp [isNest])
theorem dW_on {w : Cond} (h : isDc w = true) : w.onTables = true := by
  cases w <;> first | rfl | exact absurd h (by simp [isDc])
def sdB_315 : List Int32 := [32, 105, 115, 32, 110, 111, 116, 104, 105, 110, 103]
theorem sdE_315 : ∀ j, j < 11 → Cond.eq (.elem (.field (.string "WonderParcels" 315) "java/lang/String" "value" "[B") (.int (Int32.ofNat j))) (.int (sdB_315.getD j 0)) ∈ flatC (Jvm.Cond.and given_1 narrow_1) := by decide +kernel
def sdB_320 : List Int32 := [32, 105, 115, 32]
theorem sdE_320 : ∀ j, j < 4 → Cond.eq (.elem (.field (.string "WonderParcels" 320) "java/lang/String" "value" "[B") (.int (Int32.ofNat j))) (.int (sdB_320.getD j 0)) ∈ flatC (Jvm.Cond.and given_1 narrow_1) := by decide +kernel
def sdB_322 : List Int32 := [32, 97, 116, 32, 108, 97, 115, 116]
theorem sdE_322 : ∀ j, j < 8 → Cond.eq (.elem (.field (.string "WonderParcels" 322) "java/lang/String" "value" "[B") (.int (Int32.ofNat j))) (.int (sdB_322.getD j 0)) ∈ flatC (Jvm.Cond.and given_1 narrow_1) := by decide +kernel
set_option maxHeartbeats 4000000 in
set_option maxRecDepth 100000 in
/-- the statics and texts at the law's entry -/
theorem sd_start {args : Array Value} {s : State} (hts : ∀ w ∈ lw_tbl, w.before args s = true) (hgv : (Jvm.Cond.and given_1 narrow_1).before args s = true) : ∃ z : Nat → Nat, (SD z (fun q : Nat => s.heap.size ≤ q) s ∧ KT z (fun q : Nat => s.heap.size ≤ q) s) ∧ SE z (fun q : Nat => s.heap.size ≤ q) s := by
  have hg := flat_of_before _ hgv
  have hA : ∀ a : Nat, a < s.heap.size → ¬ (fun q : Nat => s.heap.size ≤ q) a := fun a h => Nat.not_le.mpr h
  obtain ⟨t0, ht0, hT0⟩ := va_Tof (A := (fun q : Nat => s.heap.size ≤ q)) (tm := .static "WonderParcels$Post" "MOST_OF_SORT" "[I") (ty := .int) (N := 4) (f := fun j => .int (([6, 4, 6, 8] : List Int32).getD j 0)) (by decide) (hg (.arrayOf (.static "WonderParcels$Post" "MOST_OF_SORT" "[I") .int) (by decide +kernel)) (va_eqt (hg (.eq (.length (.static "WonderParcels$Post" "MOST_OF_SORT" "[I")) (.int 4)) (by decide +kernel))) (fun j hj => va_eqt (hg _ (sdM j hj))) hA
  have hZ0 := va_Zof (A := (fun q : Nat => s.heap.size ≤ q)) (hts (.laysStatic "WonderParcels$Post" "MOST_OF_SORT" "[I") (lwW 199 (by decide +kernel))) (hts (.initialized "WonderParcels$Post") (by decide +kernel)) ht0 hA
  have hZ1 := va_Zof (A := (fun q : Nat => s.heap.size ≤ q)) (hts (.laysStatic "java/lang/String" "COMPACT_STRINGS" "Z") (lwW 48 (by decide +kernel))) (hts (.initialized "java/lang/String") (by decide +kernel)) (va_eqi (hg (.eq (.static "java/lang/String" "COMPACT_STRINGS" "Z") (.int 1)) (by decide +kernel))) hA
  have hZ2 := va_Zqof (A := (fun q : Nat => s.heap.size ≤ q)) (hts (.laysStatic "jdk/internal/util/Preconditions" "SIOOBE_FORMATTER" "Ljava/util/function/BiFunction;") (lwW 64 (by decide +kernel))) (hts (.initialized "jdk/internal/util/Preconditions") (by decide +kernel)) (hg (.isRef (.static "jdk/internal/util/Preconditions" "SIOOBE_FORMATTER" "Ljava/util/function/BiFunction;")) (by decide +kernel)) hA
  obtain ⟨adK, adV, hStr, hEv⟩ := vk_Sof (A := (fun q : Nat => s.heap.size ≤ q)) (args := args) (s := s) (N := 1) (tm := fun _ => .string "WonderParcels$Tape" 23) (len := [160]) (byt := [sdB]) (fun i hi => by rcases (show i = 0 by omega) with rfl; decide) (fun i hi => hg _ (by decide +kernel)) (fun i hi => hg _ (by decide +kernel)) (fun i hi => hg _ (by decide +kernel)) (fun i hi => by rcases (show i = 0 by omega) with rfl; exact hg _ (by decide +kernel)) (fun i hi j hj => by rcases (show i = 0 by omega) with rfl; exact hg _ (sdE j hj)) (fun i j hi hj hij => absurd (show i = j by omega) hij) hA
  obtain ⟨aK315, aV315, hS315, hE315⟩ := vk_Sof (A := (fun q : Nat => s.heap.size ≤ q)) (args := args) (s := s) (N := 1) (tm := fun _ => .string "WonderParcels" 315) (len := [11]) (byt := [sdB_315]) (fun i hi => by rcases (show i = 0 by omega) with rfl; decide) (fun i hi => hg _ (by decide +kernel)) (fun i hi => hg _ (by decide +kernel)) (fun i hi => hg _ (by decide +kernel)) (fun i hi => by rcases (show i = 0 by omega) with rfl; exact hg _ (by decide +kernel)) (fun i hi j hj => by rcases (show i = 0 by omega) with rfl; exact hg _ (sdE_315 j hj)) (fun i j hi hj hij => absurd (show i = j by omega) hij) hA
  have hk315 := hS315.1 0 (by decide)
  obtain ⟨aK320, aV320, hS320, hE320⟩ := vk_Sof (A := (fun q : Nat => s.heap.size ≤ q)) (args := args) (s := s) (N := 1) (tm := fun _ => .string "WonderParcels" 320) (len := [4]) (byt := [sdB_320]) (fun i hi => by rcases (show i = 0 by omega) with rfl; decide) (fun i hi => hg _ (by decide +kernel)) (fun i hi => hg _ (by decide +kernel)) (fun i hi => hg _ (by decide +kernel)) (fun i hi => by rcases (show i = 0 by omega) with rfl; exact hg _ (by decide +kernel)) (fun i hi j hj => by rcases (show i = 0 by omega) with rfl; exact hg _ (sdE_320 j hj)) (fun i j hi hj hij => absurd (show i = j by omega) hij) hA
  have hk320 := hS320.1 0 (by decide)
  obtain ⟨aK322, aV322, hS322, hE322⟩ := vk_Sof (A := (fun q : Nat => s.heap.size ≤ q)) (args := args) (s := s) (N := 1) (tm := fun _ => .string "WonderParcels" 322) (len := [8]) (byt := [sdB_322]) (fun i hi => by rcases (show i = 0 by omega) with rfl; decide) (fun i hi => hg _ (by decide +kernel)) (fun i hi => hg _ (by decide +kernel)) (fun i hi => hg _ (by decide +kernel)) (fun i hi => by rcases (show i = 0 by omega) with rfl; exact hg _ (by decide +kernel)) (fun i hi j hj => by rcases (show i = 0 by omega) with rfl; exact hg _ (sdE_322 j hj)) (fun i j hi hj hij => absurd (show i = j by omega) hij) hA
  have hk322 := hS322.1 0 (by decide)
  obtain ⟨a3, h3⟩ := sdS (hg (.exactly (.string "WonderParcels" 134) "java/lang/String") (by decide +kernel))
  obtain ⟨a4, h4⟩ := sdS (hg (.exactly (.string "WonderParcels" 163) "java/lang/String") (by decide +kernel))
  obtain ⟨a5, h5⟩ := sdS (hg (.exactly (.string "WonderParcels" 161) "java/lang/String") (by decide +kernel))
  obtain ⟨a6, h6⟩ := sdS (hg (.exactly (.string "WonderParcels" 184) "java/lang/String") (by decide +kernel))
  have hk := hStr.1 0 (by decide)
  refine ⟨fun k => match k with | 0 => t0 | 1 => adK 0 | 2 => adV 0 | 3 => a3 | 4 => a4 | 5 => a5 | 6 => a6 | 11 => aK315 0 | 12 => aV315 0 | 13 => aK320 0 | 14 => aV320 0 | 15 => aK322 0 | _ => aV322 0, ⟨⟨fun w hw => va_Nw.of (nW_on (List.mem_filter.mp hw).2) (hts w (List.mem_append_right _ (List.mem_filter.mp hw).1)), va_AO.of (hts (.arrayOver (.object "WonderParcels$World")) (lwW 311 (by decide +kernel))), va_AO.of (hts (.arrayOver (.object "WonderParcels$Image")) (lwW 324 (by decide +kernel))), hZ0, hT0, hZ1, hZ2, ⟨hk.1, hk.2.1, hk.2.2.1, fun j => sdB.getD j 0, hk.2.2.2⟩, vk_R.of (A := args) (hts (.stringRef "WonderParcels$Tape" 23 "idea room parcel person sits has quarrel leak guess joins stands wishes guesses open carry day or and not opened nothing watched is in size bulge turned number ") (lwW 38 (by decide +kernel))) (hEv 0 (by decide))⟩, hk.2.2.2⟩, ?_⟩
  refine ⟨⟨fun w hw => va_Nw.of (dW_on (List.mem_filter.mp hw).2) (hts w (List.mem_append_right _ (List.mem_filter.mp hw).1)), vx_Zqof (hts (.laysStatic "java/lang/Throwable" "UNASSIGNED_STACK" "[Ljava/lang/StackTraceElement;") (lwW 1070 (by decide +kernel))) (hts (.initialized "java/lang/Throwable") (by decide +kernel)) (hg (.isRef (.static "java/lang/Throwable" "UNASSIGNED_STACK" "[Ljava/lang/StackTraceElement;")) (by decide +kernel)) hA, vx_Zqof (hts (.laysStatic "java/lang/Throwable" "SUPPRESSED_SENTINEL" "Ljava/util/List;") (lwW 1072 (by decide +kernel))) (hts (.initialized "java/lang/Throwable") (by decide +kernel)) (hg (.isRef (.static "java/lang/Throwable" "SUPPRESSED_SENTINEL" "Ljava/util/List;")) (by decide +kernel)) hA, vk_R.of (A := args) (hts (.stringRef "WonderParcels" 134 "no such parcel") (lwW 1082 (by decide +kernel))) h3, vk_R.of (A := args) (hts (.stringRef "WonderParcels" 163 "no such person") (lwW 1117 (by decide +kernel))) h4, vk_R.of (A := args) (hts (.stringRef "WonderParcels" 161 "no such thing of a parcel") (lwW 1109 (by decide +kernel))) h5, vk_R.of (A := args) (hts (.stringRef "WonderParcels" 184 "no such thing of a person") (lwW 1118 (by decide +kernel))) h6⟩, ⟨⟨hk315.1, hk315.2.1, hk315.2.2.1, fun j => sdB_315.getD j 0, hk315.2.2.2⟩, vk_R.of (A := args) (hts (.stringRef "WonderParcels" 315 " is nothing") (lwW 845 (by decide +kernel))) (hE315 0 (by decide))⟩, ⟨⟨hk320.1, hk320.2.1, hk320.2.2.1, fun j => sdB_320.getD j 0, hk320.2.2.2⟩, vk_R.of (A := args) (hts (.stringRef "WonderParcels" 320 " is ") (lwW 852 (by decide +kernel))) (hE320 0 (by decide))⟩, ⟨⟨hk322.1, hk322.2.1, hk322.2.2.1, fun j => sdB_322.getD j 0, hk322.2.2.2⟩, vk_R.of (A := args) (hts (.stringRef "WonderParcels" 322 " at last") (lwW 853 (by decide +kernel))) (hE322 0 (by decide))⟩⟩
set_option maxHeartbeats 4000000 in
set_option maxRecDepth 100000 in
/-- classes and array classes at the law's entry -/
theorem k_start {args : Array Value} {s : State} (htg : ∀ w ∈ gT, w.before args s = true) (hw4 : (Cond.arrayOver (.object "WonderParcels$World")).before args s = true) (hw5 : (Cond.arrayOver (.object "WonderParcels$Image")).before args s = true) : ∃ (D : va_G) (cy : Nat → ClassId), va_K D classes (TY cy) s := by
  obtain ⟨c0, i0, hKn0⟩ := u_known (C := RX0) (T := TX0) (N := 5) (n := 5) htg inX0 (htg _ tw_137)
  obtain ⟨c1, i1, hKn1⟩ := u_known (C := RX1) (T := TX1) (N := 3) (n := 3) htg inX1 (htg _ tw_305)
  obtain ⟨c2, i2, hKn2⟩ := u_known (C := RX2) (T := TX2) (N := 3) (n := 3) htg inX2 (htg _ tw_325)
  obtain ⟨c3, i3, hKn3⟩ := u_known (C := RX3) (T := TX3) (N := 9) (n := 9) htg inX3 (htg _ tw_193)
  obtain ⟨c4, i4, hKn4⟩ := u_known (C := RX4) (T := TX4) (N := 2) (n := 2) htg inX4 (htg _ tw_161)
  obtain ⟨c5, i5, hKn5⟩ := u_known (C := RX5) (T := TX5) (N := 5) (n := 5) htg inX5 (htg _ tw_946)
  obtain ⟨c6, i6, hKn6⟩ := u_known (C := RX6) (T := TX6) (N := 2) (n := 2) htg inX6 (htg _ tw_178)
  obtain ⟨c7, i7, hKn7⟩ := u_known (C := RX7) (T := TX7) (N := 12) (n := 12) htg inX7 (htg _ tw_33)
  obtain ⟨c8, i8, hKn8⟩ := u_known (C := RX8) (T := TX8) (N := 13) (n := 13) htg inX8 (htg _ tw_241)
  obtain ⟨c9, i9, hKn9⟩ := u_known (C := RX9) (T := TX9) (N := 15) (n := 15) htg inX9 (htg _ tw_25)
  obtain ⟨c10, i10, hKn10⟩ := u_known (C := RX10) (T := TX10) (N := 49) (n := 49) htg inX10 (htg _ tw_1126)
  obtain ⟨y0, hy0⟩ := sdArr (ty := .byte) (fun C h => by cases h) (htg (.arrayClass .byte) (gT_t (List.mem_of_getElem? (i := 134) (by decide +kernel)) (by decide +kernel)))
  obtain ⟨y1, hy1⟩ := sdArr (ty := .int) (fun C h => by cases h) (htg (.arrayClass .int) (gT_t (List.mem_of_getElem? (i := 159) (by decide +kernel)) (by decide +kernel)))
  obtain ⟨y2, hy2⟩ := sdArr (ty := .long) (fun C h => by cases h) (htg (.arrayClass .long) (gT_t (List.mem_of_getElem? (i := 135) (by decide +kernel)) (by decide +kernel)))
  obtain ⟨y3, hy3⟩ := sdArr (ty := .boolean) (fun C h => by cases h) (htg (.arrayClass .boolean) (gT_t (List.mem_of_getElem? (i := 1285) (by decide +kernel)) (by decide +kernel)))
  obtain ⟨y4, hy4⟩ := sdObj hw4
  obtain ⟨y5, hy5⟩ := sdObj hw5
  refine ⟨(fun k => if k = 0 then c0 else if k = 1 then c1 else if k = 2 then c2 else if k = 3 then c3 else if k = 4 then c4 else if k = 5 then c5 else if k = 6 then c6 else if k = 7 then c7 else if k = 8 then c8 else if k = 9 then c9 else c10, fun k => if k = 0 then i0 else if k = 1 then i1 else if k = 2 then i2 else if k = 3 then i3 else if k = 4 then i4 else if k = 5 then i5 else if k = 6 then i6 else if k = 7 then i7 else if k = 8 then i8 else if k = 9 then i9 else i10), fun k => if k = 0 then y0 else if k = 1 then y1 else if k = 2 then y2 else if k = 3 then y3 else if k = 4 then y4 else y5, ?_, ?_⟩
  · intro k q hq
    match k, hq with
    | 0, hq => cases hq; exact hKn0
    | 1, hq => cases hq; exact hKn1
    | 2, hq => cases hq; exact hKn2
    | 3, hq => cases hq; exact hKn3
    | 4, hq => cases hq; exact hKn4
    | 5, hq => cases hq; exact hKn5
    | 6, hq => cases hq; exact hKn6
    | 7, hq => cases hq; exact hKn7
    | 8, hq => cases hq; exact hKn8
    | 9, hq => cases hq; exact hKn9
    | 10, hq => cases hq; exact hKn10
    | k + 11, hq => simp [classes] at hq
  · intro k q hq
    match k, hq with
    | 0, hq => cases hq; exact hy0
    | 1, hq => cases hq; exact hy1
    | 2, hq => cases hq; exact hy2
    | 3, hq => cases hq; exact hy3
    | 4, hq => cases hq; exact hy4
    | 5, hq => cases hq; exact hy5
    | k + 6, hq => simp [TY] at hq
theorem z3 : ¬ ((0 : Int32).toInt = 1 ∨ (0 : Int32).toInt = 2 ∨ (0 : Int32).toInt = 3) := by decide
theorem z2 : ¬ ((0 : Int32).toInt = 2 ∨ (0 : Int32).toInt = 3) := by decide
theorem RN_z : RN (fun _ => 0) := ⟨⟨fun h => absurd h (by decide), fun h => absurd h (by decide), fun i _ h => absurd h (by show ¬ (i : Int) < (0 : Int32).toInt; rw [Int32.toInt_zero]; omega)⟩, fun k _ => ⟨fun h => absurd h z3, fun h => absurd h z2⟩⟩
theorem RND_z : RND (fun _ => 0) := fun k _ => ⟨fun h => absurd h z3, fun h => absurd h z2⟩
theorem NW_z {j : Nat} (h : j ≠ 5) : NW j = 0 := pk_un h
theorem RN_NW : RN NW := by
  refine ⟨⟨fun h => ?_, fun h => ?_, fun i _ h => ?_⟩, fun k _ => ?_⟩
  · rw [NW_z (by decide)] at h; exact absurd h (by decide)
  · rw [NW_z (by decide)] at h; exact absurd h (by decide)
  · rw [NW_z (by decide), Int32.toInt_zero] at h; omega
  · rw [NW_z (j := 174 + 4 * k) (by omega)]
    exact ⟨fun h => absurd h (by decide), fun h => absurd h (by decide)⟩
theorem nilP {D : va_G} {H : Heap} : va_P D classes [] H := fun k q h => by simp at h
theorem nilD {A : Nat → Prop} : va_D A [] := ⟨fun i j p q h => by simp at h, fun k q h => by simp at h⟩
theorem q_ok9 {cy : Nat → ClassId} {Ps : PSI} {t0 u : Nat} {g : Nat → Option Nat} {a0 a1 a2 a3 a4 a5 a6 a7 a8 : Nat} (h0 : g 0 = some a0) (h1 : g 1 = some a1) (h2 : g 2 = some a2) (h3 : g 3 = some a3) (h4 : g 4 = some a4) (h5 : g 5 = some a5) (h6 : g 6 = some a6) (h7 : g 7 = some a7) (h8 : g 8 = some a8) (m0 : (a0, u) ∈ Ps) (m1 : (a1, u) ∈ Ps) (m2 : (a2, u) ∈ Ps) (m3 : (a3, u) ∈ Ps) (m4 : (a4, u) ∈ Ps) (m5 : (a5, u) ∈ Ps) (m6 : (a6, u) ∈ Ps) (m7 : (a7, u) ∈ Ps) (m8 : (a8, u) ∈ Ps) : cok cy Ps (.inr (.inr (.inr (t0, 9, (fun _ => u))))) (.inl (cy t0, 9, .inr (.inr (.inr (.inr g))))) := by
  refine ⟨g, rfl, fun j hj => ?_⟩
  have hj : j < 9 := hj
  rcases (show j = 0 ∨ j = 1 ∨ j = 2 ∨ j = 3 ∨ j = 4 ∨ j = 5 ∨ j = 6 ∨ j = 7 ∨ j = 8 by omega) with rfl | rfl | rfl | rfl | rfl | rfl | rfl | rfl | rfl
  · exact ⟨_, h0, m0⟩
  · exact ⟨_, h1, m1⟩
  · exact ⟨_, h2, m2⟩
  · exact ⟨_, h3, m3⟩
  · exact ⟨_, h4, m4⟩
  · exact ⟨_, h5, m5⟩
  · exact ⟨_, h6, m6⟩
  · exact ⟨_, h7, m7⟩
  · exact ⟨_, h8, m8⟩
theorem q_ok2 {cy : Nat → ClassId} {Ps : PSI} {t0 u : Nat} {g : Nat → Option Nat} {a0 a1 : Nat} (h0 : g 0 = some a0) (h1 : g 1 = some a1) (m0 : (a0, u) ∈ Ps) (m1 : (a1, u) ∈ Ps) : cok cy Ps (.inr (.inr (.inr (t0, 2, (fun _ => u))))) (.inl (cy t0, 2, .inr (.inr (.inr (.inr g))))) := by
  refine ⟨g, rfl, fun j hj => ?_⟩
  have hj : j < 2 := hj
  rcases (show j = 0 ∨ j = 1 by omega) with rfl | rfl
  · exact ⟨_, h0, m0⟩
  · exact ⟨_, h1, m1⟩
theorem sk1 {x y : Nat × Nat} {l : PSI} (h : x ∈ l) : x ∈ y :: l := List.mem_cons_of_mem _ h
theorem sk16 {x y0 y1 y2 y3 y4 y5 y6 y7 y8 y9 y10 y11 y12 y13 y14 y15 : Nat × Nat} {l : PSI} (h : x ∈ l) : x ∈ y0 :: y1 :: y2 :: y3 :: y4 :: y5 :: y6 :: y7 :: y8 :: y9 :: y10 :: y11 :: y12 :: y13 :: y14 :: y15 :: l := sk1 (sk1 (sk1 (sk1 (sk1 (sk1 (sk1 (sk1 (sk1 (sk1 (sk1 (sk1 (sk1 (sk1 (sk1 (sk1 h)))))))))))))))
theorem CK.cons {cy : Nat → ClassId} {G : Nat → Nat → CTy} {Ps X : PSI} {wx : va_W} {a t : Nat} {e : va_E} (h : cok cy Ps (G a t) e) (h2 : CK cy G Ps X wx) : CK cy G Ps ((a, t) :: X) ((a, e) :: wx) := ⟨⟨rfl, h⟩, h2⟩
theorem CK.nil {cy : Nat → ClassId} {G : Nat → Nat → CTy} {Ps : PSI} : CK cy G Ps [] [] := trivial
theorem WD.app0 {D : va_G} {cy : Nat → ClassId} {G : Nat → Nat → CTy} {A : Nat → Prop} {s : State} {wr : List (Nat × Nat)} {wa : List Nat} {X : PSI} {wx : va_W} {H1 : Heap} {locs1 : List Loc} (hX : CK cy G X X wx) (hP : va_P D classes wx H1) (hD : va_D A wx) (hS : va_S A s.heap H1 locs1) : WD D cy G A s wr wa [] [] X wx H1 locs1 := by
  have hT0 : HT cy G [] [] := ⟨rfl, fun k a t h => by simp at h⟩
  have hw0 : WD D cy G A s wr wa [] [] [] [] s.heap [] := ⟨hT0, nilP, nilD, va_S.rf, FR.nil, rfl, [], rfl⟩
  exact WD.app (Ps := []) (ws := []) hw0 hX hP hD hS
