def R_law : String := "WonderParcelsLaw"
def lw_P (b : Addr) (xs : List Int32) (args : Array Value) (s : State) : Prop := args = #[.ref b] ∧ s.IntsAt b xs ∧ xs.length ≤ 6 ∧ (Jvm.Cond.and given_1 narrow_1).before args s = true
def lw_Q (_ : Array Value) (s : State) (o : Outcome) (t : State) : Prop := o = .returned (some (.int 1)) ∧ Framed s o t [] 600002 7302232
def lw_Z (below : List Frame) (a : Array Value) (s : State) : State → Prop := fun t => ∃ o, t.status = .running ∧ Ended t below o ∧ lw_Q a s o t
/-- the law's own end, with 1 on the stack, nothing written that was there before, its room as the claim has it -/
theorem lw_ret {p : Program} {l : Launch} {e : Env} {s : State} {m : MethodId} {below : List Frame} {meth : Method} {c : Code} {b : Nat} (hx : p.tables.exec = Jvm.exec) (hb : c.code = code) (hr : meth.sig.returnType = ret) (hlocks : meth.locks = false) {pc : Nat} {H : Heap} {ls : Array Slot} (hdg : decode code pc = .ok (.ireturn, 1)) : W p l e room_1 s m #[Value.ref b] below meth c H [] 600002 7302232 (lw_Z below #[Value.ref b] s) (F0 m pc ls [.int 1]) := by
  intro T hT X
  obtain ⟨fs, hret, hrun, hended, hW, hframe⟩ := X.leave (v := some (.int 1)) (hlocks := hlocks) (fun h => by rw [hr] at h; cases h)
  have hmeth' : T.vm.method? m = some meth := X.method'
  refine ⟨T.setFrames fs, ?_, .returned (some (.int 1)), hrun, hended, rfl, ⟨_, rfl⟩, hW, hframe⟩
  jvm_step X.here [X.here.top, hx, hb, hdg, hmeth', hr, ret, narrow_b1]
  (try refine ⟨rfl, ?_⟩); (try refine ⟨rfl, ?_⟩)
  first | (intro acts; rw [hret _ acts rfl rfl rfl]) | rw [hret _ _ rfl rfl rfl]
  exact Steps.refl _
/-- what holds at the law's entry: the machine, the code, the tables' words (any of lw_tbl by 'hts w (by decide +kernel)'), the script of L ints xs at the cell b, what the Statement gives of the start (any of its parts by flat_of_before) -/
def lw_At (p : Program) (s : State) (m : MethodId) (meth : Method) (c : Code) (b L : Nat) (xs : Nat → Int32) : Prop :=
  p.tables.exec = Jvm.exec ∧ c.code = code ∧ meth.sig.returnType = ret ∧ c.maxLocals = 7 ∧ s.vm.findClass R_law = some m.cls ∧ (∀ w ∈ lw_tbl, w.before #[Value.ref b] s = true) ∧ va_X b L xs s s.heap ∧ b < s.heap.size ∧ meth.locks = false ∧ (Jvm.Cond.and given_1 narrow_1).before #[Value.ref b] s = true
set_option maxHeartbeats 4000000 in
set_option maxRecDepth 100000 in
theorem op0 {p : Program} {e : Env} {s : State} {m : MethodId} {below : List Frame} {meth : Method} {c : Code} (l : Launch) {b : Nat} {xs : Nat → Int32} (hx : p.tables.exec = Jvm.exec) (hb : c.code = code) (hr : meth.sig.returnType = ret) (hlocks : meth.locks = false) (hml : c.maxLocals = 7) (hown : s.vm.findClass RL = some m.cls) (hts : ∀ w ∈ gT, w.before #[Value.ref b] s = true) (hX : va_X b 6 xs s s.heap) (hbl : b < s.heap.size) (D : va_G) (cy : Nat → ClassId) (z : Nat → Nat) (hK : va_K D classes (TY cy) s) (hSD : SD z (fun q : Nat => s.heap.size ≤ q) s) (x : Nat) (kq1 : Nat) (kq4 : Nat) (kq5 : Nat) (kq7 : Nat) (kq13 : Nat) (kq18 : Nat) (kq23 : Nat) (kq24 : Nat) (kq36 : Nat) (kq49 : Nat) (kq62 : Nat) (kq78 : Nat) (y : Nat) (m1 : Nat) (m14 : Nat) (m15 : Nat) (m16 : Nat) (m17 : Nat) (m18 : Nat) (m19 : Nat) (m20 : Nat) (m21 : Nat) (m22 : Nat) (m23 : Nat) (m24 : Nat) (m26 : Nat) (m28 : Nat) (m31 : Nat) (m32 : Nat) (m35 : Nat) (m37 : Nat) (m40 : Nat) (m41 : Nat) (m44 : Nat) (o : Nat) {H : Heap} {locs : List Loc} (hP : va_P D classes [(x, .inr (9, [.ref kq1, .ref kq36, .ref kq49, .ref kq62, .ref kq78, .null, .ref kq7, .ref kq13, .ref kq18, .ref kq23, .ref kq24, .int 0, .int (-1), .int (-1), .int (-1)])), (kq1, .inr (7, [.ref kq4, .ref kq5, .int 0, .int 0, .int 0, .int 0, .int 0, .int 0, .long 0, .int 0, .int 0, .int 0])), (kq4, .inl (cy 0, 940, .inl (fun _ => 0))), (y, .inr (10, [.int 0, .ref m1, .int 0, .int 0, .int 0, .int 0, .int 0, .int 0, .int 0, .int 0, .int 0, .int 0, .long 0, .int 0, .ref m14, .ref m15, .ref m16, .ref m17, .ref m18, .ref m19, .ref m20, .ref m21, .ref m22, .ref m23, .ref m24, .int 0, .ref m26, .int (-1), .ref m28, .int (-1), .int (-1), .ref m31, .ref m32, .int 0, .int 0, .ref m35, .int 0, .ref m37, .int 0, .int 0, .ref m40, .ref m41, .int 0, .int 0, .ref m44, .int 0, .int 0, .int 0, .int 0])), (m1, .inl (cy 1, 940, .inl (fun _ => 0)))] H) (hD : va_D (fun q : Nat => s.heap.size ≤ q) [(x, .inr (9, [.ref kq1, .ref kq36, .ref kq49, .ref kq62, .ref kq78, .null, .ref kq7, .ref kq13, .ref kq18, .ref kq23, .ref kq24, .int 0, .int (-1), .int (-1), .int (-1)])), (kq1, .inr (7, [.ref kq4, .ref kq5, .int 0, .int 0, .int 0, .int 0, .int 0, .int 0, .long 0, .int 0, .int 0, .int 0])), (kq4, .inl (cy 0, 940, .inl (fun _ => 0))), (y, .inr (10, [.int 0, .ref m1, .int 0, .int 0, .int 0, .int 0, .int 0, .int 0, .int 0, .int 0, .int 0, .int 0, .long 0, .int 0, .ref m14, .ref m15, .ref m16, .ref m17, .ref m18, .ref m19, .ref m20, .ref m21, .ref m22, .ref m23, .ref m24, .int 0, .ref m26, .int (-1), .ref m28, .int (-1), .int (-1), .ref m31, .ref m32, .int 0, .int 0, .ref m35, .int 0, .ref m37, .int 0, .int 0, .ref m40, .ref m41, .int 0, .int 0, .ref m44, .int 0, .int 0, .int 0, .int 0])), (m1, .inl (cy 1, 940, .inl (fun _ => 0)))]) (hS : va_S (fun q : Nat => s.heap.size ≤ q) s.heap H locs) {ls : Array Slot} (hl : lv_has ls 7 [(4, .int 0), (3, .ref o), (2, .ref y), (1, .ref x), (0, .ref b)]) : W p l e room_1 s m #[Value.ref b] below meth c H locs 192 6460 (lw_Z below #[Value.ref b] s) (F0 m 220 ls []) := by
  have hA : ∀ q : Nat, s.heap.size ≤ q → (fun q : Nat => s.heap.size ≤ q) q := fun _ h => h
  have hbA : ¬ (fun q : Nat => s.heap.size ≤ q) b := Nat.not_le.mpr hbl
  refine lv_aload_n hx hb dL_law_220 rfl (lv_at hl 3 rfl) ?_
  refine lv_aload_n hx hb dL_law_221 rfl (lv_at hl 4 rfl) ?_
  refine lv_iload hx hb dL_law_222 (lv_at hl 0 rfl) ?_
  refine lv_iconst (v := 1) hx hb dL_law_224 (by decide) ?_
  refine lv_iadd hx hb dL_law_225 ?_
  refine tI (y := 1) (by decide) ?_
  refine va_sld hx hb hX hbl hbA hS (vp_in_nI (n := 1) (N := 6) (by decide) (by decide)) dL_law_226 ?_
  refine tI (y := xs 1) rfl ?_
  refine lv_aload_n hx hb dL_law_227 rfl (lv_at hl 4 rfl) ?_
  refine lv_iload hx hb dL_law_228 (lv_at hl 0 rfl) ?_
  refine lv_iconst (v := 2) hx hb dL_law_230 (by decide) ?_
  refine lv_iadd hx hb dL_law_231 ?_
  refine tI (y := 2) (by decide) ?_
  refine va_sld hx hb hX hbl hbA hS (vp_in_nI (n := 2) (N := 6) (by decide) (by decide)) dL_law_232 ?_
  refine tI (y := xs 2) rfl ?_
  refine lv_aload_n hx hb dL_law_233 rfl (lv_at hl 4 rfl) ?_
  refine lv_iload hx hb dL_law_234 (lv_at hl 0 rfl) ?_
  refine lv_iconst (v := 3) hx hb dL_law_236 (by decide) ?_
  refine lv_iadd hx hb dL_law_237 ?_
  refine tI (y := 3) (by decide) ?_
  refine va_sld hx hb hX hbl hbA hS (vp_in_nI (n := 3) (N := 6) (by decide) (by decide)) dL_law_238 ?_
  refine tI (y := xs 3) rfl ?_
  refine lv_aload_n hx hb dL_law_239 rfl (lv_at hl 4 rfl) ?_
  refine lv_iload hx hb dL_law_240 (lv_at hl 0 rfl) ?_
  refine lv_iconst (v := 4) hx hb dL_law_242 (by decide) ?_
  refine lv_iadd hx hb dL_law_243 ?_
  refine tI (y := 4) (by decide) ?_
  refine va_sld hx hb hX hbl hbA hS (vp_in_nI (n := 4) (N := 6) (by decide) (by decide)) dL_law_244 ?_
  refine tI (y := xs 4) rfl ?_
  refine lv_aload_n hx hb dL_law_245 rfl (lv_at hl 4 rfl) ?_
  refine lv_iload hx hb dL_law_246 (lv_at hl 0 rfl) ?_
  refine lv_iconst (v := 5) hx hb dL_law_248 (by decide) ?_
  refine lv_iadd hx hb dL_law_249 ?_
  refine tI (y := 5) (by decide) ?_
  refine va_sld hx hb hX hbl hbA hS (vp_in_nI (n := 5) (N := 6) (by decide) (by decide)) dL_law_250 ?_
  refine tI (y := xs 5) rfl ?_
  refine endi (wr := [(y, .inr (10, [.int 0, .ref m1, .int 0, .int 0, .int 0, .int 0, .int 0, .int 0, .int 0, .int 0, .int 0, .int 0, .long 0, .int 0, .ref m14, .ref m15, .ref m16, .ref m17, .ref m18, .ref m19, .ref m20, .ref m21, .ref m22, .ref m23, .ref m24, .int 0, .ref m26, .int (-1), .ref m28, .int (-1), .int (-1), .ref m31, .ref m32, .int 0, .int 0, .ref m35, .int 0, .ref m37, .int 0, .int 0, .ref m40, .ref m41, .int 0, .int 0, .ref m44, .int 0, .int 0, .int 0, .int 0])), (m1, .inl (cy 1, 940, .inl (fun _ => 0)))]) (va_runV (As := [.int (xs 1), .int (xs 2), .int (xs 3), .int (xs 4), .int (xs 5)]) (rest := []) ⟨hx, hb, hml, hown, hts⟩ (c_X_feed l D cy z H.size x kq1 kq4 kq5 kq7 kq13 kq18 kq23 kq24 kq36 kq49 kq62 kq78 (xs 1) (xs 2) (xs 3) (xs 4) (xs 5)) (cwV 5 hts (gV tw_392 tw_393 tw_394 tw_1 tw_395) rfl rfl rfl (by decide +kernel) ⟨Nat.le_of_ble_eq_true rfl, Nat.le_of_ble_eq_true rfl⟩) (preV hP hD hK hSD hS hA [0, 1, 2] rfl (by decide) (q := (RX9, TX9, 15)) (ci := 9) (q0 := 0) rfl rfl) rfl rfl hl.1 rfl (lv_room (Nat.le_of_ble_eq_true rfl)) dL_law_251 ⟨Nat.le_of_ble_eq_true rfl, Nat.le_of_ble_eq_true rfl⟩) hP hD hS hA [0, 1, 2] [3, 4] rfl rfl (by decide) (by decide) (fun r_2 u_1 H locs hw_2 hP hD hS => ?_)
  have hP : va_P D classes [(y, .inr (10, [.int 0, .ref m1, .int 0, .int 0, .int 0, .int 0, .int 0, .int 0, .int 0, .int 0, .int 0, .int 0, .long 0, .int 0, .ref m14, .ref m15, .ref m16, .ref m17, .ref m18, .ref m19, .ref m20, .ref m21, .ref m22, .ref m23, .ref m24, .int 0, .ref m26, .int (-1), .ref m28, .int (-1), .int (-1), .ref m31, .ref m32, .int 0, .int 0, .ref m35, .int 0, .ref m37, .int 0, .int 0, .ref m40, .ref m41, .int 0, .int 0, .ref m44, .int 0, .int 0, .int 0, .int 0])), (m1, .inl (cy 1, 940, .inl (fun _ => 0)))] H := hP
  have hD : va_D (fun q : Nat => s.heap.size ≤ q) [(y, .inr (10, [.int 0, .ref m1, .int 0, .int 0, .int 0, .int 0, .int 0, .int 0, .int 0, .int 0, .int 0, .int 0, .long 0, .int 0, .ref m14, .ref m15, .ref m16, .ref m17, .ref m18, .ref m19, .ref m20, .ref m21, .ref m22, .ref m23, .ref m24, .int 0, .ref m26, .int (-1), .ref m28, .int (-1), .int (-1), .ref m31, .ref m32, .int 0, .int 0, .ref m35, .int 0, .ref m37, .int 0, .int 0, .ref m40, .ref m41, .int 0, .int 0, .ref m44, .int 0, .int 0, .int 0, .int 0])), (m1, .inl (cy 1, 940, .inl (fun _ => 0)))] := hD
  have hw_2 : r_2 = 20 := hw_2
  subst hw_2
  refine lv_aload_n hx hb dL_law_254 rfl (lv_at hl 2 rfl) ?_
  refine lv_aload_n hx hb dL_law_255 rfl (lv_at hl 4 rfl) ?_
  refine lv_iload hx hb dL_law_256 (lv_at hl 0 rfl) ?_
  refine lv_iconst (v := 1) hx hb dL_law_258 (by decide) ?_
  refine lv_iadd hx hb dL_law_259 ?_
  refine tI (y := 1) (by decide) ?_
  refine va_sld hx hb hX hbl hbA hS (vp_in_nI (n := 1) (N := 6) (by decide) (by decide)) dL_law_260 ?_
  refine tI (y := xs 1) rfl ?_
  refine lv_aload_n hx hb dL_law_261 rfl (lv_at hl 4 rfl) ?_
  refine lv_iload hx hb dL_law_262 (lv_at hl 0 rfl) ?_
  refine lv_iconst (v := 2) hx hb dL_law_264 (by decide) ?_
  refine lv_iadd hx hb dL_law_265 ?_
  refine tI (y := 2) (by decide) ?_
  refine va_sld hx hb hX hbl hbA hS (vp_in_nI (n := 2) (N := 6) (by decide) (by decide)) dL_law_266 ?_
  refine tI (y := xs 2) rfl ?_
  refine lv_aload_n hx hb dL_law_267 rfl (lv_at hl 4 rfl) ?_
  refine lv_iload hx hb dL_law_268 (lv_at hl 0 rfl) ?_
  refine lv_iconst (v := 3) hx hb dL_law_270 (by decide) ?_
  refine lv_iadd hx hb dL_law_271 ?_
  refine tI (y := 3) (by decide) ?_
  refine va_sld hx hb hX hbl hbA hS (vp_in_nI (n := 3) (N := 6) (by decide) (by decide)) dL_law_272 ?_
  refine tI (y := xs 3) rfl ?_
  refine lv_aload_n hx hb dL_law_273 rfl (lv_at hl 4 rfl) ?_
  refine lv_iload hx hb dL_law_274 (lv_at hl 0 rfl) ?_
  refine lv_iconst (v := 4) hx hb dL_law_276 (by decide) ?_
  refine lv_iadd hx hb dL_law_277 ?_
  refine tI (y := 4) (by decide) ?_
  refine va_sld hx hb hX hbl hbA hS (vp_in_nI (n := 4) (N := 6) (by decide) (by decide)) dL_law_278 ?_
  refine tI (y := xs 4) rfl ?_
  refine lv_aload_n hx hb dL_law_279 rfl (lv_at hl 4 rfl) ?_
  refine lv_iload hx hb dL_law_280 (lv_at hl 0 rfl) ?_
  refine lv_iconst (v := 5) hx hb dL_law_282 (by decide) ?_
  refine lv_iadd hx hb dL_law_283 ?_
  refine tI (y := 5) (by decide) ?_
  refine va_sld hx hb hX hbl hbA hS (vp_in_nI (n := 5) (N := 6) (by decide) (by decide)) dL_law_284 ?_
  refine tI (y := xs 5) rfl ?_
  refine endi (wr := []) (va_runV (As := [.int (xs 1), .int (xs 2), .int (xs 3), .int (xs 4), .int (xs 5)]) (rest := [.int 20]) ⟨hx, hb, hml, hown, hts⟩ (c_M_feed l D cy z H.size y m1 m14 m15 m16 m17 m18 m19 m20 m21 m22 m23 m24 m26 m28 m31 m32 m35 m37 m40 m41 m44 (xs 1) (xs 2) (xs 3) (xs 4) (xs 5)) (cwV 5 hts (gV tw_1123 tw_1124 tw_1125 tw_15 tw_1126) rfl rfl rfl (by decide +kernel) ⟨Nat.le_of_ble_eq_true rfl, Nat.le_of_ble_eq_true rfl⟩) (preV hP hD hK hSD hS hA [0, 1] rfl (by decide) (q := (RX10, TX10, 49)) (ci := 10) (q0 := 0) rfl rfl) rfl rfl hl.1 rfl (lv_room (Nat.le_of_ble_eq_true rfl)) dL_law_285 ⟨Nat.le_of_ble_eq_true rfl, Nat.le_of_ble_eq_true rfl⟩) hP hD hS hA [0, 1] [] rfl rfl (by decide) (by decide) (fun r_4 u_3 H locs hw_4 hP hD hS => ?_)
  have hP : va_P D classes [] H := hP
  have hD : va_D (fun q : Nat => s.heap.size ≤ q) [] := hD
  have hw_4 : r_4 = 20 := hw_4
  subst hw_4
  refine lv_icmp_eq (tgt := 1391) hx hb dL_law_288 (by decide) (fun _ => ?_) (fun c9 => absurd (by decide) c9)
  refine lv_iinc (v := 6) (lv' := [(4, .int 6), (3, .ref o), (2, .ref y), (1, .ref x), (0, .ref b)]) hx hb dL_law_1391 hl (k := 0) rfl (by decide) (by decide) rfl (fun ls hl => ?_)
  refine lv_goto (tgt := 23) hx hb dL_law_1394 (by decide) ?_
  refine lv_iload hx hb dL_law_23 (lv_at hl 0 rfl) ?_
  refine lv_aload_n hx hb dL_law_25 rfl (lv_at hl 4 rfl) ?_
  refine va_slen hx hb hX hbl hbA hS dL_law_26 ?_
  refine tI (y := 6) rfl ?_
  refine lv_bipush (v := 6) hx hb dL_law_27 (by decide) ?_
  refine lv_isub hx hb dL_law_29 ?_
  refine tI (y := 0) (by decide) ?_
  refine lv_icmp_gt (tgt := 1397) hx hb dL_law_30 (by decide) (fun _ => ?_) (fun c9 => absurd (by decide) c9)
  refine lv_iconst (v := 1) hx hb dL_law_1397 (by decide) ?_
  refine va_forget (fun q hq => hS.2.2 q hq) ?_
  refine W.widen (k := 600002) (n := 7302232) (Nat.le_of_ble_eq_true rfl) (Nat.le_of_ble_eq_true rfl) ?_
  exact lw_ret hx hb hr hlocks dL_law_1398
set_option maxHeartbeats 4000000 in
set_option maxRecDepth 100000 in
theorem op1 {p : Program} {e : Env} {s : State} {m : MethodId} {below : List Frame} {meth : Method} {c : Code} (l : Launch) {b : Nat} {xs : Nat → Int32} (hx : p.tables.exec = Jvm.exec) (hb : c.code = code) (hr : meth.sig.returnType = ret) (hlocks : meth.locks = false) (hml : c.maxLocals = 7) (hown : s.vm.findClass RL = some m.cls) (hts : ∀ w ∈ gT, w.before #[Value.ref b] s = true) (hX : va_X b 6 xs s s.heap) (hbl : b < s.heap.size) (D : va_G) (cy : Nat → ClassId) (z : Nat → Nat) (hK : va_K D classes (TY cy) s) (hSD : SD z (fun q : Nat => s.heap.size ≤ q) s) (x : Nat) (kq1 : Nat) (kq4 : Nat) (kq5 : Nat) (kq7 : Nat) (kq13 : Nat) (kq18 : Nat) (kq23 : Nat) (kq24 : Nat) (kq36 : Nat) (kq49 : Nat) (kq62 : Nat) (kq78 : Nat) (y : Nat) (m1 : Nat) (m14 : Nat) (m15 : Nat) (m16 : Nat) (m17 : Nat) (m18 : Nat) (m19 : Nat) (m20 : Nat) (m21 : Nat) (m22 : Nat) (m23 : Nat) (m24 : Nat) (m26 : Nat) (m28 : Nat) (m31 : Nat) (m32 : Nat) (m35 : Nat) (m37 : Nat) (m40 : Nat) (m41 : Nat) (m44 : Nat) (o : Nat) {H : Heap} {locs : List Loc} (hP : va_P D classes [(x, .inr (9, [.ref kq1, .ref kq36, .ref kq49, .ref kq62, .ref kq78, .null, .ref kq7, .ref kq13, .ref kq18, .ref kq23, .ref kq24, .int 0, .int (-1), .int (-1), .int (-1)])), (kq1, .inr (7, [.ref kq4, .ref kq5, .int 0, .int 0, .int 0, .int 0, .int 0, .int 0, .long 0, .int 0, .int 0, .int 0])), (y, .inr (10, [.int 0, .ref m1, .int 0, .int 0, .int 0, .int 0, .int 0, .int 0, .int 0, .int 0, .int 0, .int 0, .long 0, .int 0, .ref m14, .ref m15, .ref m16, .ref m17, .ref m18, .ref m19, .ref m20, .ref m21, .ref m22, .ref m23, .ref m24, .int 0, .ref m26, .int (-1), .ref m28, .int (-1), .int (-1), .ref m31, .ref m32, .int 0, .int 0, .ref m35, .int 0, .ref m37, .int 0, .int 0, .ref m40, .ref m41, .int 0, .int 0, .ref m44, .int 0, .int 0, .int 0, .int 0]))] H) (hD : va_D (fun q : Nat => s.heap.size ≤ q) [(x, .inr (9, [.ref kq1, .ref kq36, .ref kq49, .ref kq62, .ref kq78, .null, .ref kq7, .ref kq13, .ref kq18, .ref kq23, .ref kq24, .int 0, .int (-1), .int (-1), .int (-1)])), (kq1, .inr (7, [.ref kq4, .ref kq5, .int 0, .int 0, .int 0, .int 0, .int 0, .int 0, .long 0, .int 0, .int 0, .int 0])), (y, .inr (10, [.int 0, .ref m1, .int 0, .int 0, .int 0, .int 0, .int 0, .int 0, .int 0, .int 0, .int 0, .int 0, .long 0, .int 0, .ref m14, .ref m15, .ref m16, .ref m17, .ref m18, .ref m19, .ref m20, .ref m21, .ref m22, .ref m23, .ref m24, .int 0, .ref m26, .int (-1), .ref m28, .int (-1), .int (-1), .ref m31, .ref m32, .int 0, .int 0, .ref m35, .int 0, .ref m37, .int 0, .int 0, .ref m40, .ref m41, .int 0, .int 0, .ref m44, .int 0, .int 0, .int 0, .int 0]))]) (hS : va_S (fun q : Nat => s.heap.size ≤ q) s.heap H locs) {ls : Array Slot} (hl : lv_has ls 7 [(4, .int 0), (3, .ref o), (2, .ref y), (1, .ref x), (0, .ref b)]) : W p l e room_1 s m #[Value.ref b] below meth c H locs 192 6460 (lw_Z below #[Value.ref b] s) (F0 m 293 ls []) := by
  have hA : ∀ q : Nat, s.heap.size ≤ q → (fun q : Nat => s.heap.size ≤ q) q := fun _ h => h
  have hbA : ¬ (fun q : Nat => s.heap.size ≤ q) b := Nat.not_le.mpr hbl
  refine lv_aload_n hx hb dL_law_293 rfl (lv_at hl 3 rfl) ?_
  refine lv_aload_n hx hb dL_law_294 rfl (lv_at hl 4 rfl) ?_
  refine lv_iload hx hb dL_law_295 (lv_at hl 0 rfl) ?_
  refine lv_iconst (v := 1) hx hb dL_law_297 (by decide) ?_
  refine lv_iadd hx hb dL_law_298 ?_
  refine tI (y := 1) (by decide) ?_
  refine va_sld hx hb hX hbl hbA hS (vp_in_nI (n := 1) (N := 6) (by decide) (by decide)) dL_law_299 ?_
  refine tI (y := xs 1) rfl ?_
  refine endi (wr := [(y, .inr (10, [.int 0, .ref m1, .int 0, .int 0, .int 0, .int 0, .int 0, .int 0, .int 0, .int 0, .int 0, .int 0, .long 0, .int 0, .ref m14, .ref m15, .ref m16, .ref m17, .ref m18, .ref m19, .ref m20, .ref m21, .ref m22, .ref m23, .ref m24, .int 0, .ref m26, .int (-1), .ref m28, .int (-1), .int (-1), .ref m31, .ref m32, .int 0, .int 0, .ref m35, .int 0, .ref m37, .int 0, .int 0, .ref m40, .ref m41, .int 0, .int 0, .ref m44, .int 0, .int 0, .int 0, .int 0]))]) (va_runV (As := [.int (xs 1)]) (rest := []) ⟨hx, hb, hml, hown, hts⟩ (c_X_end l D cy z H.size x kq1 kq4 kq5 kq7 kq13 kq18 kq23 kq24 kq36 kq49 kq62 kq78 (xs 1)) (cwV 1 hts (gV tw_404 tw_405 tw_406 tw_1 tw_407) rfl rfl rfl (by decide +kernel) ⟨Nat.le_of_ble_eq_true rfl, Nat.le_of_ble_eq_true rfl⟩) (preV hP hD hK hSD hS hA [0, 1] rfl (by decide) (q := (RX9, TX9, 15)) (ci := 9) (q0 := 0) rfl rfl) rfl rfl hl.1 rfl (lv_room (Nat.le_of_ble_eq_true rfl)) dL_law_300 ⟨Nat.le_of_ble_eq_true rfl, Nat.le_of_ble_eq_true rfl⟩) hP hD hS hA [0, 1] [2] rfl rfl (by decide) (by decide) (fun r_2 u_1 H locs hw_2 hP hD hS => ?_)
  have hP : va_P D classes [(y, .inr (10, [.int 0, .ref m1, .int 0, .int 0, .int 0, .int 0, .int 0, .int 0, .int 0, .int 0, .int 0, .int 0, .long 0, .int 0, .ref m14, .ref m15, .ref m16, .ref m17, .ref m18, .ref m19, .ref m20, .ref m21, .ref m22, .ref m23, .ref m24, .int 0, .ref m26, .int (-1), .ref m28, .int (-1), .int (-1), .ref m31, .ref m32, .int 0, .int 0, .ref m35, .int 0, .ref m37, .int 0, .int 0, .ref m40, .ref m41, .int 0, .int 0, .ref m44, .int 0, .int 0, .int 0, .int 0]))] H := hP
  have hD : va_D (fun q : Nat => s.heap.size ≤ q) [(y, .inr (10, [.int 0, .ref m1, .int 0, .int 0, .int 0, .int 0, .int 0, .int 0, .int 0, .int 0, .int 0, .int 0, .long 0, .int 0, .ref m14, .ref m15, .ref m16, .ref m17, .ref m18, .ref m19, .ref m20, .ref m21, .ref m22, .ref m23, .ref m24, .int 0, .ref m26, .int (-1), .ref m28, .int (-1), .int (-1), .ref m31, .ref m32, .int 0, .int 0, .ref m35, .int 0, .ref m37, .int 0, .int 0, .ref m40, .ref m41, .int 0, .int 0, .ref m44, .int 0, .int 0, .int 0, .int 0]))] := hD
  have hw_2 : r_2 = if (xs 1) < 0 ∨ 0 < (xs 1) then 0 else 1 := hw_2
  subst hw_2
  refine lv_aload_n hx hb dL_law_303 rfl (lv_at hl 2 rfl) ?_
  refine lv_aload_n hx hb dL_law_304 rfl (lv_at hl 4 rfl) ?_
  refine lv_iload hx hb dL_law_305 (lv_at hl 0 rfl) ?_
  refine lv_iconst (v := 1) hx hb dL_law_307 (by decide) ?_
  refine lv_iadd hx hb dL_law_308 ?_
  refine tI (y := 1) (by decide) ?_
  refine va_sld hx hb hX hbl hbA hS (vp_in_nI (n := 1) (N := 6) (by decide) (by decide)) dL_law_309 ?_
  refine tI (y := xs 1) rfl ?_
  refine endi (wr := []) (va_runV (As := [.int (xs 1)]) (rest := [.int (if (xs 1) < 0 ∨ 0 < (xs 1) then 0 else 1)]) ⟨hx, hb, hml, hown, hts⟩ (c_M_end l D cy z H.size y m1 m14 m15 m16 m17 m18 m19 m20 m21 m22 m23 m24 m26 m28 m31 m32 m35 m37 m40 m41 m44 (xs 1)) (cwV 1 hts (gV tw_1132 tw_1133 tw_1134 tw_15 tw_1135) rfl rfl rfl (by decide +kernel) ⟨Nat.le_of_ble_eq_true rfl, Nat.le_of_ble_eq_true rfl⟩) (preV hP hD hK hSD hS hA [0] rfl (by decide) (q := (RX10, TX10, 49)) (ci := 10) (q0 := 0) rfl rfl) rfl rfl hl.1 rfl (lv_room (Nat.le_of_ble_eq_true rfl)) dL_law_310 ⟨Nat.le_of_ble_eq_true rfl, Nat.le_of_ble_eq_true rfl⟩) hP hD hS hA [0] [] rfl rfl (by decide) (by decide) (fun r_4 u_3 H locs hw_4 hP hD hS => ?_)
  have hP : va_P D classes [] H := hP
  have hD : va_D (fun q : Nat => s.heap.size ≤ q) [] := hD
  have hw_4 : r_4 = if (xs 1) < 0 ∨ 0 < (xs 1) then 0 else 1 := hw_4
  subst hw_4
  refine lv_icmp_eq (tgt := 1391) hx hb dL_law_313 (by decide) (fun _ => ?_) (fun c9 => absurd rfl c9)
  refine lv_iinc (v := 6) (lv' := [(4, .int 6), (3, .ref o), (2, .ref y), (1, .ref x), (0, .ref b)]) hx hb dL_law_1391 hl (k := 0) rfl (by decide) (by decide) rfl (fun ls hl => ?_)
  refine lv_goto (tgt := 23) hx hb dL_law_1394 (by decide) ?_
  refine lv_iload hx hb dL_law_23 (lv_at hl 0 rfl) ?_
  refine lv_aload_n hx hb dL_law_25 rfl (lv_at hl 4 rfl) ?_
  refine va_slen hx hb hX hbl hbA hS dL_law_26 ?_
  refine tI (y := 6) rfl ?_
  refine lv_bipush (v := 6) hx hb dL_law_27 (by decide) ?_
  refine lv_isub hx hb dL_law_29 ?_
  refine tI (y := 0) (by decide) ?_
  refine lv_icmp_gt (tgt := 1397) hx hb dL_law_30 (by decide) (fun _ => ?_) (fun c9 => absurd (by decide) c9)
  refine lv_iconst (v := 1) hx hb dL_law_1397 (by decide) ?_
  refine va_forget (fun q hq => hS.2.2 q hq) ?_
  refine W.widen (k := 600002) (n := 7302232) (Nat.le_of_ble_eq_true rfl) (Nat.le_of_ble_eq_true rfl) ?_
  exact lw_ret hx hb hr hlocks dL_law_1398
set_option maxHeartbeats 4000000 in
set_option maxRecDepth 100000 in
theorem op2 {p : Program} {e : Env} {s : State} {m : MethodId} {below : List Frame} {meth : Method} {c : Code} (l : Launch) {b : Nat} {xs : Nat → Int32} (hx : p.tables.exec = Jvm.exec) (hb : c.code = code) (hr : meth.sig.returnType = ret) (hlocks : meth.locks = false) (hml : c.maxLocals = 7) (hown : s.vm.findClass RL = some m.cls) (hts : ∀ w ∈ gT, w.before #[Value.ref b] s = true) (hX : va_X b 6 xs s s.heap) (hbl : b < s.heap.size) (D : va_G) (cy : Nat → ClassId) (z : Nat → Nat) (hK : va_K D classes (TY cy) s) (hSD : SD z (fun q : Nat => s.heap.size ≤ q) s) (x : Nat) (kq1 : Nat) (kq4 : Nat) (kq5 : Nat) (kq7 : Nat) (kq13 : Nat) (kq18 : Nat) (kq23 : Nat) (kq24 : Nat) (kq28 : Nat) (kq36 : Nat) (kq39 : Nat) (kq40 : Nat) (kq41 : Nat) (kq42 : Nat) (kq43 : Nat) (kq44 : Nat) (kq45 : Nat) (kq46 : Nat) (kq47 : Nat) (kq48 : Nat) (kq49 : Nat) (kq52 : Nat) (kq53 : Nat) (kq54 : Nat) (kq55 : Nat) (kq56 : Nat) (kq57 : Nat) (kq58 : Nat) (kq59 : Nat) (kq60 : Nat) (kq61 : Nat) (kq62 : Nat) (kq65 : Nat) (kq78 : Nat) (y : Nat) (m1 : Nat) (m14 : Nat) (m15 : Nat) (m16 : Nat) (m17 : Nat) (m18 : Nat) (m19 : Nat) (m20 : Nat) (m21 : Nat) (m22 : Nat) (m23 : Nat) (m24 : Nat) (m26 : Nat) (m28 : Nat) (m31 : Nat) (m32 : Nat) (m35 : Nat) (m37 : Nat) (m40 : Nat) (m41 : Nat) (m44 : Nat) (o : Nat) {H : Heap} {locs : List Loc} (hP : va_P D classes [(x, .inr (9, [.ref kq1, .ref kq36, .ref kq49, .ref kq62, .ref kq78, .null, .ref kq7, .ref kq13, .ref kq18, .ref kq23, .ref kq24, .int 0, .int (-1), .int (-1), .int (-1)])), (kq1, .inr (7, [.ref kq4, .ref kq5, .int 0, .int 0, .int 0, .int 0, .int 0, .int 0, .long 0, .int 0, .int 0, .int 0])), (kq36, .inr (8, [.ref kq28, .int 0, .ref kq39, .ref kq40, .ref kq41, .ref kq42, .ref kq43, .ref kq44, .ref kq45, .ref kq46, .ref kq47, .ref kq48, .int 0])), (kq39, .inl (cy 1, 36, .inl (fun _ => 0))), (kq40, .inl (cy 1, 6, .inl (fun _ => 0))), (kq41, .inl (cy 1, 6, .inl (fun _ => 0))), (kq42, .inl (cy 1, 6, .inl (fun _ => 0))), (kq43, .inl (cy 1, 6, .inl (fun _ => 0))), (kq44, .inl (cy 1, 8, .inl (fun _ => 0))), (kq46, .inl (cy 1, 8, .inl (fun _ => 0))), (kq47, .inl (cy 1, 8, .inl (fun _ => 0))), (kq45, .inl (cy 1, 8, .inl (fun _ => (-1)))), (kq49, .inr (8, [.ref kq28, .int 0, .ref kq52, .ref kq53, .ref kq54, .ref kq55, .ref kq56, .ref kq57, .ref kq58, .ref kq59, .ref kq60, .ref kq61, .int 0])), (kq52, .inl (cy 1, 36, .inl (fun _ => 0))), (kq53, .inl (cy 1, 6, .inl (fun _ => 0))), (kq54, .inl (cy 1, 6, .inl (fun _ => 0))), (kq55, .inl (cy 1, 6, .inl (fun _ => 0))), (kq56, .inl (cy 1, 6, .inl (fun _ => 0))), (kq57, .inl (cy 1, 8, .inl (fun _ => 0))), (kq59, .inl (cy 1, 8, .inl (fun _ => 0))), (kq60, .inl (cy 1, 8, .inl (fun _ => 0))), (kq58, .inl (cy 1, 8, .inl (fun _ => (-1)))), (kq62, .inr (1, [.ref kq65, .int 0, .int 0])), (y, .inr (10, [.int 0, .ref m1, .int 0, .int 0, .int 0, .int 0, .int 0, .int 0, .int 0, .int 0, .int 0, .int 0, .long 0, .int 0, .ref m14, .ref m15, .ref m16, .ref m17, .ref m18, .ref m19, .ref m20, .ref m21, .ref m22, .ref m23, .ref m24, .int 0, .ref m26, .int (-1), .ref m28, .int (-1), .int (-1), .ref m31, .ref m32, .int 0, .int 0, .ref m35, .int 0, .ref m37, .int 0, .int 0, .ref m40, .ref m41, .int 0, .int 0, .ref m44, .int 0, .int 0, .int 0, .int 0])), (m1, .inl (cy 1, 940, .inl (fun _ => 0))), (m14, .inl (cy 1, 414, .inl NW)), (m15, .inl (cy 1, 84, .inl (fun _ => 0))), (m16, .inl (cy 1, 828, .inl (fun _ => 0))), (m17, .inl (cy 1, 704, .inl (fun _ => 0))), (m18, .inl (cy 1, 88, .inl (fun _ => 0))), (m19, .inl (cy 1, 88, .inl (fun _ => 0))), (m20, .inl (cy 2, 24, .inr (.inl (fun _ => 0)))), (m21, .inl (cy 2, 24, .inr (.inl (fun _ => 0)))), (m22, .inl (cy 2, 48, .inr (.inl (fun _ => 0)))), (m23, .inl (cy 3, 2, .inl (fun _ => 0))), (m24, .inl (cy 3, 2, .inl (fun _ => 0))), (m26, .inl (cy 1, 6, .inl (fun _ => 0))), (m28, .inl (cy 1, 8, .inl (fun _ => 0))), (m31, .inl (cy 1, 6, .inl (fun _ => 0))), (m32, .inl (cy 1, 6, .inl (fun _ => 0))), (m35, .inl (cy 1, 8, .inl (fun _ => 0))), (m37, .inl (cy 1, 64, .inl (fun _ => 0))), (m40, .inl (cy 1, 120, .inl (fun _ => 0))), (m41, .inl (cy 1, 4, .inl (fun _ => 0))), (m44, .inl (cy 1, 240, .inl (fun _ => 0)))] H) (hD : va_D (fun q : Nat => s.heap.size ≤ q) [(x, .inr (9, [.ref kq1, .ref kq36, .ref kq49, .ref kq62, .ref kq78, .null, .ref kq7, .ref kq13, .ref kq18, .ref kq23, .ref kq24, .int 0, .int (-1), .int (-1), .int (-1)])), (kq1, .inr (7, [.ref kq4, .ref kq5, .int 0, .int 0, .int 0, .int 0, .int 0, .int 0, .long 0, .int 0, .int 0, .int 0])), (kq36, .inr (8, [.ref kq28, .int 0, .ref kq39, .ref kq40, .ref kq41, .ref kq42, .ref kq43, .ref kq44, .ref kq45, .ref kq46, .ref kq47, .ref kq48, .int 0])), (kq39, .inl (cy 1, 36, .inl (fun _ => 0))), (kq40, .inl (cy 1, 6, .inl (fun _ => 0))), (kq41, .inl (cy 1, 6, .inl (fun _ => 0))), (kq42, .inl (cy 1, 6, .inl (fun _ => 0))), (kq43, .inl (cy 1, 6, .inl (fun _ => 0))), (kq44, .inl (cy 1, 8, .inl (fun _ => 0))), (kq46, .inl (cy 1, 8, .inl (fun _ => 0))), (kq47, .inl (cy 1, 8, .inl (fun _ => 0))), (kq45, .inl (cy 1, 8, .inl (fun _ => (-1)))), (kq49, .inr (8, [.ref kq28, .int 0, .ref kq52, .ref kq53, .ref kq54, .ref kq55, .ref kq56, .ref kq57, .ref kq58, .ref kq59, .ref kq60, .ref kq61, .int 0])), (kq52, .inl (cy 1, 36, .inl (fun _ => 0))), (kq53, .inl (cy 1, 6, .inl (fun _ => 0))), (kq54, .inl (cy 1, 6, .inl (fun _ => 0))), (kq55, .inl (cy 1, 6, .inl (fun _ => 0))), (kq56, .inl (cy 1, 6, .inl (fun _ => 0))), (kq57, .inl (cy 1, 8, .inl (fun _ => 0))), (kq59, .inl (cy 1, 8, .inl (fun _ => 0))), (kq60, .inl (cy 1, 8, .inl (fun _ => 0))), (kq58, .inl (cy 1, 8, .inl (fun _ => (-1)))), (kq62, .inr (1, [.ref kq65, .int 0, .int 0])), (y, .inr (10, [.int 0, .ref m1, .int 0, .int 0, .int 0, .int 0, .int 0, .int 0, .int 0, .int 0, .int 0, .int 0, .long 0, .int 0, .ref m14, .ref m15, .ref m16, .ref m17, .ref m18, .ref m19, .ref m20, .ref m21, .ref m22, .ref m23, .ref m24, .int 0, .ref m26, .int (-1), .ref m28, .int (-1), .int (-1), .ref m31, .ref m32, .int 0, .int 0, .ref m35, .int 0, .ref m37, .int 0, .int 0, .ref m40, .ref m41, .int 0, .int 0, .ref m44, .int 0, .int 0, .int 0, .int 0])), (m1, .inl (cy 1, 940, .inl (fun _ => 0))), (m14, .inl (cy 1, 414, .inl NW)), (m15, .inl (cy 1, 84, .inl (fun _ => 0))), (m16, .inl (cy 1, 828, .inl (fun _ => 0))), (m17, .inl (cy 1, 704, .inl (fun _ => 0))), (m18, .inl (cy 1, 88, .inl (fun _ => 0))), (m19, .inl (cy 1, 88, .inl (fun _ => 0))), (m20, .inl (cy 2, 24, .inr (.inl (fun _ => 0)))), (m21, .inl (cy 2, 24, .inr (.inl (fun _ => 0)))), (m22, .inl (cy 2, 48, .inr (.inl (fun _ => 0)))), (m23, .inl (cy 3, 2, .inl (fun _ => 0))), (m24, .inl (cy 3, 2, .inl (fun _ => 0))), (m26, .inl (cy 1, 6, .inl (fun _ => 0))), (m28, .inl (cy 1, 8, .inl (fun _ => 0))), (m31, .inl (cy 1, 6, .inl (fun _ => 0))), (m32, .inl (cy 1, 6, .inl (fun _ => 0))), (m35, .inl (cy 1, 8, .inl (fun _ => 0))), (m37, .inl (cy 1, 64, .inl (fun _ => 0))), (m40, .inl (cy 1, 120, .inl (fun _ => 0))), (m41, .inl (cy 1, 4, .inl (fun _ => 0))), (m44, .inl (cy 1, 240, .inl (fun _ => 0)))]) (hS : va_S (fun q : Nat => s.heap.size ≤ q) s.heap H locs) {ls : Array Slot} (hl : lv_has ls 7 [(4, .int 0), (3, .ref o), (2, .ref y), (1, .ref x), (0, .ref b)]) : W p l e room_1 s m #[Value.ref b] below meth c H locs 192 6460 (lw_Z below #[Value.ref b] s) (F0 m 318 ls []) := by
  have hA : ∀ q : Nat, s.heap.size ≤ q → (fun q : Nat => s.heap.size ≤ q) q := fun _ h => h
  have hbA : ¬ (fun q : Nat => s.heap.size ≤ q) b := Nat.not_le.mpr hbl
  refine lv_aload_n hx hb dL_law_318 rfl (lv_at hl 3 rfl) ?_
  refine endi (wr := [(y, .inr (10, [.int 0, .ref m1, .int 0, .int 0, .int 0, .int 0, .int 0, .int 0, .int 0, .int 0, .int 0, .int 0, .long 0, .int 0, .ref m14, .ref m15, .ref m16, .ref m17, .ref m18, .ref m19, .ref m20, .ref m21, .ref m22, .ref m23, .ref m24, .int 0, .ref m26, .int (-1), .ref m28, .int (-1), .int (-1), .ref m31, .ref m32, .int 0, .int 0, .ref m35, .int 0, .ref m37, .int 0, .int 0, .ref m40, .ref m41, .int 0, .int 0, .ref m44, .int 0, .int 0, .int 0, .int 0])), (m1, .inl (cy 1, 940, .inl (fun _ => 0))), (m14, .inl (cy 1, 414, .inl NW)), (m15, .inl (cy 1, 84, .inl (fun _ => 0))), (m16, .inl (cy 1, 828, .inl (fun _ => 0))), (m17, .inl (cy 1, 704, .inl (fun _ => 0))), (m18, .inl (cy 1, 88, .inl (fun _ => 0))), (m19, .inl (cy 1, 88, .inl (fun _ => 0))), (m20, .inl (cy 2, 24, .inr (.inl (fun _ => 0)))), (m21, .inl (cy 2, 24, .inr (.inl (fun _ => 0)))), (m22, .inl (cy 2, 48, .inr (.inl (fun _ => 0)))), (m23, .inl (cy 3, 2, .inl (fun _ => 0))), (m24, .inl (cy 3, 2, .inl (fun _ => 0))), (m26, .inl (cy 1, 6, .inl (fun _ => 0))), (m28, .inl (cy 1, 8, .inl (fun _ => 0))), (m31, .inl (cy 1, 6, .inl (fun _ => 0))), (m32, .inl (cy 1, 6, .inl (fun _ => 0))), (m35, .inl (cy 1, 8, .inl (fun _ => 0))), (m37, .inl (cy 1, 64, .inl (fun _ => 0))), (m40, .inl (cy 1, 120, .inl (fun _ => 0))), (m41, .inl (cy 1, 4, .inl (fun _ => 0))), (m44, .inl (cy 1, 240, .inl (fun _ => 0)))]) (va_runV (As := []) (rest := []) ⟨hx, hb, hml, hown, hts⟩ (c_X_post l D cy z H.size x kq1 kq4 kq5 kq7 kq13 kq18 kq23 kq24 kq28 kq36 kq39 kq40 kq41 kq42 kq43 kq44 kq45 kq46 kq47 kq48 kq49 kq52 kq53 kq54 kq55 kq56 kq57 kq58 kq59 kq60 kq61 kq62 kq65 kq78) (cwV 0 hts (gV tw_408 tw_409 tw_410 tw_1 tw_411) rfl rfl rfl (by decide +kernel) ⟨Nat.le_of_ble_eq_true rfl, Nat.le_of_ble_eq_true rfl⟩) (preV hP hD hK hSD hS hA [0, 1, 2, 3, 4, 5, 6, 7, 8, 9, 10, 11, 12, 13, 14, 15, 16, 17, 18, 19, 20, 21, 22] rfl (by decide) (q := (RX9, TX9, 15)) (ci := 9) (q0 := 0) rfl rfl) rfl rfl hl.1 rfl (lv_room (Nat.le_of_ble_eq_true rfl)) dL_law_319 ⟨Nat.le_of_ble_eq_true rfl, Nat.le_of_ble_eq_true rfl⟩) hP hD hS hA [0, 1, 2, 3, 4, 5, 6, 7, 8, 9, 10, 11, 12, 13, 14, 15, 16, 17, 18, 19, 20, 21, 22] [23, 24, 25, 26, 27, 28, 29, 30, 31, 32, 33, 34, 35, 36, 37, 38, 39, 40, 41, 42, 43, 44] rfl rfl (by decide) (by decide) (fun r_2 u_1 H locs hw_2 hP hD hS => ?_)
  have hP : va_P D classes [(y, .inr (10, [.int 0, .ref m1, .int 0, .int 0, .int 0, .int 0, .int 0, .int 0, .int 0, .int 0, .int 0, .int 0, .long 0, .int 0, .ref m14, .ref m15, .ref m16, .ref m17, .ref m18, .ref m19, .ref m20, .ref m21, .ref m22, .ref m23, .ref m24, .int 0, .ref m26, .int (-1), .ref m28, .int (-1), .int (-1), .ref m31, .ref m32, .int 0, .int 0, .ref m35, .int 0, .ref m37, .int 0, .int 0, .ref m40, .ref m41, .int 0, .int 0, .ref m44, .int 0, .int 0, .int 0, .int 0])), (m1, .inl (cy 1, 940, .inl (fun _ => 0))), (m14, .inl (cy 1, 414, .inl NW)), (m15, .inl (cy 1, 84, .inl (fun _ => 0))), (m16, .inl (cy 1, 828, .inl (fun _ => 0))), (m17, .inl (cy 1, 704, .inl (fun _ => 0))), (m18, .inl (cy 1, 88, .inl (fun _ => 0))), (m19, .inl (cy 1, 88, .inl (fun _ => 0))), (m20, .inl (cy 2, 24, .inr (.inl (fun _ => 0)))), (m21, .inl (cy 2, 24, .inr (.inl (fun _ => 0)))), (m22, .inl (cy 2, 48, .inr (.inl (fun _ => 0)))), (m23, .inl (cy 3, 2, .inl (fun _ => 0))), (m24, .inl (cy 3, 2, .inl (fun _ => 0))), (m26, .inl (cy 1, 6, .inl (fun _ => 0))), (m28, .inl (cy 1, 8, .inl (fun _ => 0))), (m31, .inl (cy 1, 6, .inl (fun _ => 0))), (m32, .inl (cy 1, 6, .inl (fun _ => 0))), (m35, .inl (cy 1, 8, .inl (fun _ => 0))), (m37, .inl (cy 1, 64, .inl (fun _ => 0))), (m40, .inl (cy 1, 120, .inl (fun _ => 0))), (m41, .inl (cy 1, 4, .inl (fun _ => 0))), (m44, .inl (cy 1, 240, .inl (fun _ => 0)))] H := hP
  have hD : va_D (fun q : Nat => s.heap.size ≤ q) [(y, .inr (10, [.int 0, .ref m1, .int 0, .int 0, .int 0, .int 0, .int 0, .int 0, .int 0, .int 0, .int 0, .int 0, .long 0, .int 0, .ref m14, .ref m15, .ref m16, .ref m17, .ref m18, .ref m19, .ref m20, .ref m21, .ref m22, .ref m23, .ref m24, .int 0, .ref m26, .int (-1), .ref m28, .int (-1), .int (-1), .ref m31, .ref m32, .int 0, .int 0, .ref m35, .int 0, .ref m37, .int 0, .int 0, .ref m40, .ref m41, .int 0, .int 0, .ref m44, .int 0, .int 0, .int 0, .int 0])), (m1, .inl (cy 1, 940, .inl (fun _ => 0))), (m14, .inl (cy 1, 414, .inl NW)), (m15, .inl (cy 1, 84, .inl (fun _ => 0))), (m16, .inl (cy 1, 828, .inl (fun _ => 0))), (m17, .inl (cy 1, 704, .inl (fun _ => 0))), (m18, .inl (cy 1, 88, .inl (fun _ => 0))), (m19, .inl (cy 1, 88, .inl (fun _ => 0))), (m20, .inl (cy 2, 24, .inr (.inl (fun _ => 0)))), (m21, .inl (cy 2, 24, .inr (.inl (fun _ => 0)))), (m22, .inl (cy 2, 48, .inr (.inl (fun _ => 0)))), (m23, .inl (cy 3, 2, .inl (fun _ => 0))), (m24, .inl (cy 3, 2, .inl (fun _ => 0))), (m26, .inl (cy 1, 6, .inl (fun _ => 0))), (m28, .inl (cy 1, 8, .inl (fun _ => 0))), (m31, .inl (cy 1, 6, .inl (fun _ => 0))), (m32, .inl (cy 1, 6, .inl (fun _ => 0))), (m35, .inl (cy 1, 8, .inl (fun _ => 0))), (m37, .inl (cy 1, 64, .inl (fun _ => 0))), (m40, .inl (cy 1, 120, .inl (fun _ => 0))), (m41, .inl (cy 1, 4, .inl (fun _ => 0))), (m44, .inl (cy 1, 240, .inl (fun _ => 0)))] := hD
  refine W.widen (k := 198) (n := 6525) (Nat.le_of_ble_eq_true rfl) (Nat.le_of_ble_eq_true rfl) ?_
  have hw_2 : r_2 = 0 := hw_2
  subst hw_2
  refine lv_aload_n hx hb dL_law_322 rfl (lv_at hl 2 rfl) ?_
  refine endi (wr := []) (va_runV (As := []) (rest := [.int 0]) ⟨hx, hb, hml, hown, hts⟩ (c_M_post l D cy z H.size y m1 m14 m15 m16 m17 m18 m19 m20 m21 m22 m23 m24 m26 m28 m31 m32 m35 m37 m40 m41 m44) (cwV 0 hts (gV tw_1290 tw_1291 tw_1292 tw_15 tw_1293) rfl rfl rfl (by decide +kernel) ⟨Nat.le_of_ble_eq_true rfl, Nat.le_of_ble_eq_true rfl⟩) (preV hP hD hK hSD hS hA [0, 1, 2, 3, 4, 5, 6, 7, 8, 9, 10, 11, 12, 13, 14, 15, 16, 17, 18, 19, 20, 21] rfl (by decide) (q := (RX10, TX10, 49)) (ci := 10) (q0 := 0) rfl rfl) rfl rfl hl.1 rfl (lv_room (Nat.le_of_ble_eq_true rfl)) dL_law_323 ⟨Nat.le_of_ble_eq_true rfl, Nat.le_of_ble_eq_true rfl⟩) hP hD hS hA [0, 1, 2, 3, 4, 5, 6, 7, 8, 9, 10, 11, 12, 13, 14, 15, 16, 17, 18, 19, 20, 21] [] rfl rfl (by decide) (by decide) (fun r_4 u_3 H locs hw_4 hP hD hS => ?_)
  have hP : va_P D classes [] H := hP
  have hD : va_D (fun q : Nat => s.heap.size ≤ q) [] := hD
  have hw_4 : r_4 = 0 := hw_4
  subst hw_4
  refine lv_icmp_eq (tgt := 1391) hx hb dL_law_326 (by decide) (fun _ => ?_) (fun c9 => absurd (by decide) c9)
  refine lv_iinc (v := 6) (lv' := [(4, .int 6), (3, .ref o), (2, .ref y), (1, .ref x), (0, .ref b)]) hx hb dL_law_1391 hl (k := 0) rfl (by decide) (by decide) rfl (fun ls hl => ?_)
  refine lv_goto (tgt := 23) hx hb dL_law_1394 (by decide) ?_
  refine lv_iload hx hb dL_law_23 (lv_at hl 0 rfl) ?_
  refine lv_aload_n hx hb dL_law_25 rfl (lv_at hl 4 rfl) ?_
  refine va_slen hx hb hX hbl hbA hS dL_law_26 ?_
  refine tI (y := 6) rfl ?_
  refine lv_bipush (v := 6) hx hb dL_law_27 (by decide) ?_
  refine lv_isub hx hb dL_law_29 ?_
  refine tI (y := 0) (by decide) ?_
  refine lv_icmp_gt (tgt := 1397) hx hb dL_law_30 (by decide) (fun _ => ?_) (fun c9 => absurd (by decide) c9)
  refine lv_iconst (v := 1) hx hb dL_law_1397 (by decide) ?_
  refine va_forget (fun q hq => hS.2.2 q hq) ?_
  refine W.widen (k := 600002) (n := 7302232) (Nat.le_of_ble_eq_true rfl) (Nat.le_of_ble_eq_true rfl) ?_
  exact lw_ret hx hb hr hlocks dL_law_1398
set_option maxHeartbeats 4000000 in
set_option maxRecDepth 100000 in
theorem op3 {p : Program} {e : Env} {s : State} {m : MethodId} {below : List Frame} {meth : Method} {c : Code} (l : Launch) {b : Nat} {xs : Nat → Int32} (hx : p.tables.exec = Jvm.exec) (hb : c.code = code) (hr : meth.sig.returnType = ret) (hlocks : meth.locks = false) (hml : c.maxLocals = 7) (hown : s.vm.findClass RL = some m.cls) (hts : ∀ w ∈ gT, w.before #[Value.ref b] s = true) (hX : va_X b 6 xs s s.heap) (hbl : b < s.heap.size) (D : va_G) (cy : Nat → ClassId) (z : Nat → Nat) (hK : va_K D classes (TY cy) s) (hSD : SD z (fun q : Nat => s.heap.size ≤ q) s) (x : Nat) (kq1 : Nat) (kq7 : Nat) (kq13 : Nat) (kq18 : Nat) (kq23 : Nat) (kq24 : Nat) (kq36 : Nat) (kq49 : Nat) (kq62 : Nat) (kq78 : Nat) (y : Nat) (m1 : Nat) (m14 : Nat) (m15 : Nat) (m16 : Nat) (m17 : Nat) (m18 : Nat) (m19 : Nat) (m20 : Nat) (m21 : Nat) (m22 : Nat) (m23 : Nat) (m24 : Nat) (m26 : Nat) (m28 : Nat) (m31 : Nat) (m32 : Nat) (m35 : Nat) (m37 : Nat) (m40 : Nat) (m41 : Nat) (m44 : Nat) (o : Nat) {H : Heap} {locs : List Loc} (hP : va_P D classes [(x, .inr (9, [.ref kq1, .ref kq36, .ref kq49, .ref kq62, .ref kq78, .null, .ref kq7, .ref kq13, .ref kq18, .ref kq23, .ref kq24, .int 0, .int (-1), .int (-1), .int (-1)])), (y, .inr (10, [.int 0, .ref m1, .int 0, .int 0, .int 0, .int 0, .int 0, .int 0, .int 0, .int 0, .int 0, .int 0, .long 0, .int 0, .ref m14, .ref m15, .ref m16, .ref m17, .ref m18, .ref m19, .ref m20, .ref m21, .ref m22, .ref m23, .ref m24, .int 0, .ref m26, .int (-1), .ref m28, .int (-1), .int (-1), .ref m31, .ref m32, .int 0, .int 0, .ref m35, .int 0, .ref m37, .int 0, .int 0, .ref m40, .ref m41, .int 0, .int 0, .ref m44, .int 0, .int 0, .int 0, .int 0]))] H) (hD : va_D (fun q : Nat => s.heap.size ≤ q) [(x, .inr (9, [.ref kq1, .ref kq36, .ref kq49, .ref kq62, .ref kq78, .null, .ref kq7, .ref kq13, .ref kq18, .ref kq23, .ref kq24, .int 0, .int (-1), .int (-1), .int (-1)])), (y, .inr (10, [.int 0, .ref m1, .int 0, .int 0, .int 0, .int 0, .int 0, .int 0, .int 0, .int 0, .int 0, .int 0, .long 0, .int 0, .ref m14, .ref m15, .ref m16, .ref m17, .ref m18, .ref m19, .ref m20, .ref m21, .ref m22, .ref m23, .ref m24, .int 0, .ref m26, .int (-1), .ref m28, .int (-1), .int (-1), .ref m31, .ref m32, .int 0, .int 0, .ref m35, .int 0, .ref m37, .int 0, .int 0, .ref m40, .ref m41, .int 0, .int 0, .ref m44, .int 0, .int 0, .int 0, .int 0]))]) (hS : va_S (fun q : Nat => s.heap.size ≤ q) s.heap H locs) {ls : Array Slot} (hl : lv_has ls 7 [(4, .int 0), (3, .ref o), (2, .ref y), (1, .ref x), (0, .ref b)]) : W p l e room_1 s m #[Value.ref b] below meth c H locs 192 6460 (lw_Z below #[Value.ref b] s) (F0 m 331 ls []) := by
  have hA : ∀ q : Nat, s.heap.size ≤ q → (fun q : Nat => s.heap.size ≤ q) q := fun _ h => h
  have hbA : ¬ (fun q : Nat => s.heap.size ≤ q) b := Nat.not_le.mpr hbl
  refine lv_aload_n hx hb dL_law_331 rfl (lv_at hl 3 rfl) ?_
  refine endi (wr := [(y, .inr (10, [.int 0, .ref m1, .int 0, .int 0, .int 0, .int 0, .int 0, .int 0, .int 0, .int 0, .int 0, .int 0, .long 0, .int 0, .ref m14, .ref m15, .ref m16, .ref m17, .ref m18, .ref m19, .ref m20, .ref m21, .ref m22, .ref m23, .ref m24, .int 0, .ref m26, .int (-1), .ref m28, .int (-1), .int (-1), .ref m31, .ref m32, .int 0, .int 0, .ref m35, .int 0, .ref m37, .int 0, .int 0, .ref m40, .ref m41, .int 0, .int 0, .ref m44, .int 0, .int 0, .int 0, .int 0]))]) (va_runV (As := []) (rest := []) ⟨hx, hb, hml, hown, hts⟩ (c_X_fault l D cy z H.size x kq1 kq7 kq13 kq18 kq23 kq24 kq36 kq49 kq62 kq78) (cwV 0 hts (gV tw_532 tw_533 tw_534 tw_1 tw_535) rfl rfl rfl (by decide +kernel) ⟨Nat.le_of_ble_eq_true rfl, Nat.le_of_ble_eq_true rfl⟩) (preV hP hD hK hSD hS hA [0] rfl (by decide) (q := (RX9, TX9, 15)) (ci := 9) (q0 := 0) rfl rfl) rfl rfl hl.1 rfl (lv_room (Nat.le_of_ble_eq_true rfl)) dL_law_332 ⟨Nat.le_of_ble_eq_true rfl, Nat.le_of_ble_eq_true rfl⟩) hP hD hS hA [0] [1] rfl rfl (by decide) (by decide) (fun r_2 u_1 H locs hw_2 hP hD hS => ?_)
  have hP : va_P D classes [(y, .inr (10, [.int 0, .ref m1, .int 0, .int 0, .int 0, .int 0, .int 0, .int 0, .int 0, .int 0, .int 0, .int 0, .long 0, .int 0, .ref m14, .ref m15, .ref m16, .ref m17, .ref m18, .ref m19, .ref m20, .ref m21, .ref m22, .ref m23, .ref m24, .int 0, .ref m26, .int (-1), .ref m28, .int (-1), .int (-1), .ref m31, .ref m32, .int 0, .int 0, .ref m35, .int 0, .ref m37, .int 0, .int 0, .ref m40, .ref m41, .int 0, .int 0, .ref m44, .int 0, .int 0, .int 0, .int 0]))] H := hP
  have hD : va_D (fun q : Nat => s.heap.size ≤ q) [(y, .inr (10, [.int 0, .ref m1, .int 0, .int 0, .int 0, .int 0, .int 0, .int 0, .int 0, .int 0, .int 0, .int 0, .long 0, .int 0, .ref m14, .ref m15, .ref m16, .ref m17, .ref m18, .ref m19, .ref m20, .ref m21, .ref m22, .ref m23, .ref m24, .int 0, .ref m26, .int (-1), .ref m28, .int (-1), .int (-1), .ref m31, .ref m32, .int 0, .int 0, .ref m35, .int 0, .ref m37, .int 0, .int 0, .ref m40, .ref m41, .int 0, .int 0, .ref m44, .int 0, .int 0, .int 0, .int 0]))] := hD
  have hw_2 : r_2 = 0 := hw_2
  subst hw_2
  refine lv_aload_n hx hb dL_law_335 rfl (lv_at hl 2 rfl) ?_
  refine endi (wr := []) (va_runV (As := []) (rest := [.int 0]) ⟨hx, hb, hml, hown, hts⟩ (c_M_fault l D cy z H.size y m1 m14 m15 m16 m17 m18 m19 m20 m21 m22 m23 m24 m26 m28 m31 m32 m35 m37 m40 m41 m44) (cwV 0 hts (gV tw_1425 tw_1426 tw_1427 tw_15 tw_1428) rfl rfl rfl (by decide +kernel) ⟨Nat.le_of_ble_eq_true rfl, Nat.le_of_ble_eq_true rfl⟩) (preV hP hD hK hSD hS hA [0] rfl (by decide) (q := (RX10, TX10, 49)) (ci := 10) (q0 := 0) rfl rfl) rfl rfl hl.1 rfl (lv_room (Nat.le_of_ble_eq_true rfl)) dL_law_336 ⟨Nat.le_of_ble_eq_true rfl, Nat.le_of_ble_eq_true rfl⟩) hP hD hS hA [0] [] rfl rfl (by decide) (by decide) (fun r_4 u_3 H locs hw_4 hP hD hS => ?_)
  have hP : va_P D classes [] H := hP
  have hD : va_D (fun q : Nat => s.heap.size ≤ q) [] := hD
  have hw_4 : r_4 = 0 := hw_4
  subst hw_4
  refine lv_icmp_eq (tgt := 1391) hx hb dL_law_339 (by decide) (fun _ => ?_) (fun c9 => absurd (by decide) c9)
  refine lv_iinc (v := 6) (lv' := [(4, .int 6), (3, .ref o), (2, .ref y), (1, .ref x), (0, .ref b)]) hx hb dL_law_1391 hl (k := 0) rfl (by decide) (by decide) rfl (fun ls hl => ?_)
  refine lv_goto (tgt := 23) hx hb dL_law_1394 (by decide) ?_
  refine lv_iload hx hb dL_law_23 (lv_at hl 0 rfl) ?_
  refine lv_aload_n hx hb dL_law_25 rfl (lv_at hl 4 rfl) ?_
  refine va_slen hx hb hX hbl hbA hS dL_law_26 ?_
  refine tI (y := 6) rfl ?_
  refine lv_bipush (v := 6) hx hb dL_law_27 (by decide) ?_
  refine lv_isub hx hb dL_law_29 ?_
  refine tI (y := 0) (by decide) ?_
  refine lv_icmp_gt (tgt := 1397) hx hb dL_law_30 (by decide) (fun _ => ?_) (fun c9 => absurd (by decide) c9)
  refine lv_iconst (v := 1) hx hb dL_law_1397 (by decide) ?_
  refine va_forget (fun q hq => hS.2.2 q hq) ?_
  refine W.widen (k := 600002) (n := 7302232) (Nat.le_of_ble_eq_true rfl) (Nat.le_of_ble_eq_true rfl) ?_
  exact lw_ret hx hb hr hlocks dL_law_1398
set_option maxHeartbeats 4000000 in
set_option maxRecDepth 100000 in
theorem op4 {p : Program} {e : Env} {s : State} {m : MethodId} {below : List Frame} {meth : Method} {c : Code} (l : Launch) {b : Nat} {xs : Nat → Int32} (hx : p.tables.exec = Jvm.exec) (hb : c.code = code) (hr : meth.sig.returnType = ret) (hlocks : meth.locks = false) (hml : c.maxLocals = 7) (hown : s.vm.findClass RL = some m.cls) (hts : ∀ w ∈ gT, w.before #[Value.ref b] s = true) (hX : va_X b 6 xs s s.heap) (hbl : b < s.heap.size) (D : va_G) (cy : Nat → ClassId) (z : Nat → Nat) (hK : va_K D classes (TY cy) s) (hSD : SD z (fun q : Nat => s.heap.size ≤ q) s) (x : Nat) (kq1 : Nat) (kq7 : Nat) (kq13 : Nat) (kq18 : Nat) (kq23 : Nat) (kq24 : Nat) (kq28 : Nat) (kq31 : Nat) (kq32 : Nat) (kq33 : Nat) (kq34 : Nat) (kq35 : Nat) (kq36 : Nat) (kq39 : Nat) (kq40 : Nat) (kq41 : Nat) (kq42 : Nat) (kq43 : Nat) (kq44 : Nat) (kq45 : Nat) (kq46 : Nat) (kq47 : Nat) (kq48 : Nat) (kq49 : Nat) (kq62 : Nat) (kq78 : Nat) (y : Nat) (m1 : Nat) (m14 : Nat) (m15 : Nat) (m16 : Nat) (m17 : Nat) (m18 : Nat) (m19 : Nat) (m20 : Nat) (m21 : Nat) (m22 : Nat) (m23 : Nat) (m24 : Nat) (m26 : Nat) (m28 : Nat) (m31 : Nat) (m32 : Nat) (m35 : Nat) (m37 : Nat) (m40 : Nat) (m41 : Nat) (m44 : Nat) (o : Nat) {H : Heap} {locs : List Loc} (hP : va_P D classes [(x, .inr (9, [.ref kq1, .ref kq36, .ref kq49, .ref kq62, .ref kq78, .null, .ref kq7, .ref kq13, .ref kq18, .ref kq23, .ref kq24, .int 0, .int (-1), .int (-1), .int (-1)])), (kq28, .inr (3, [.ref kq31, .ref kq32, .ref kq33, .ref kq34, .ref kq35, .int 0, .int 5, .int 0, .int 0])), (kq32, .inl (cy 1, 4, .inl (fun _ => 0))), (kq36, .inr (8, [.ref kq28, .int 0, .ref kq39, .ref kq40, .ref kq41, .ref kq42, .ref kq43, .ref kq44, .ref kq45, .ref kq46, .ref kq47, .ref kq48, .int 0])), (y, .inr (10, [.int 0, .ref m1, .int 0, .int 0, .int 0, .int 0, .int 0, .int 0, .int 0, .int 0, .int 0, .int 0, .long 0, .int 0, .ref m14, .ref m15, .ref m16, .ref m17, .ref m18, .ref m19, .ref m20, .ref m21, .ref m22, .ref m23, .ref m24, .int 0, .ref m26, .int (-1), .ref m28, .int (-1), .int (-1), .ref m31, .ref m32, .int 0, .int 0, .ref m35, .int 0, .ref m37, .int 0, .int 0, .ref m40, .ref m41, .int 0, .int 0, .ref m44, .int 0, .int 0, .int 0, .int 0])), (m14, .inl (cy 1, 414, .inl NW))] H) (hD : va_D (fun q : Nat => s.heap.size ≤ q) [(x, .inr (9, [.ref kq1, .ref kq36, .ref kq49, .ref kq62, .ref kq78, .null, .ref kq7, .ref kq13, .ref kq18, .ref kq23, .ref kq24, .int 0, .int (-1), .int (-1), .int (-1)])), (kq28, .inr (3, [.ref kq31, .ref kq32, .ref kq33, .ref kq34, .ref kq35, .int 0, .int 5, .int 0, .int 0])), (kq32, .inl (cy 1, 4, .inl (fun _ => 0))), (kq36, .inr (8, [.ref kq28, .int 0, .ref kq39, .ref kq40, .ref kq41, .ref kq42, .ref kq43, .ref kq44, .ref kq45, .ref kq46, .ref kq47, .ref kq48, .int 0])), (y, .inr (10, [.int 0, .ref m1, .int 0, .int 0, .int 0, .int 0, .int 0, .int 0, .int 0, .int 0, .int 0, .int 0, .long 0, .int 0, .ref m14, .ref m15, .ref m16, .ref m17, .ref m18, .ref m19, .ref m20, .ref m21, .ref m22, .ref m23, .ref m24, .int 0, .ref m26, .int (-1), .ref m28, .int (-1), .int (-1), .ref m31, .ref m32, .int 0, .int 0, .ref m35, .int 0, .ref m37, .int 0, .int 0, .ref m40, .ref m41, .int 0, .int 0, .ref m44, .int 0, .int 0, .int 0, .int 0])), (m14, .inl (cy 1, 414, .inl NW))]) (hS : va_S (fun q : Nat => s.heap.size ≤ q) s.heap H locs) {ls : Array Slot} (hl : lv_has ls 7 [(4, .int 0), (3, .ref o), (2, .ref y), (1, .ref x), (0, .ref b)]) : W p l e room_1 s m #[Value.ref b] below meth c H locs 192 6460 (lw_Z below #[Value.ref b] s) (F0 m 344 ls []) := by
  have hA : ∀ q : Nat, s.heap.size ≤ q → (fun q : Nat => s.heap.size ≤ q) q := fun _ h => h
  have hbA : ¬ (fun q : Nat => s.heap.size ≤ q) b := Nat.not_le.mpr hbl
  refine lv_aload_n hx hb dL_law_344 rfl (lv_at hl 3 rfl) ?_
  refine lv_aload_n hx hb dL_law_345 rfl (lv_at hl 4 rfl) ?_
  refine lv_iload hx hb dL_law_346 (lv_at hl 0 rfl) ?_
  refine lv_iconst (v := 1) hx hb dL_law_348 (by decide) ?_
  refine lv_iadd hx hb dL_law_349 ?_
  refine tI (y := 1) (by decide) ?_
  refine va_sld hx hb hX hbl hbA hS (vp_in_nI (n := 1) (N := 6) (by decide) (by decide)) dL_law_350 ?_
  refine tI (y := xs 1) rfl ?_
  refine lv_aload_n hx hb dL_law_351 rfl (lv_at hl 4 rfl) ?_
  refine lv_iload hx hb dL_law_352 (lv_at hl 0 rfl) ?_
  refine lv_iconst (v := 2) hx hb dL_law_354 (by decide) ?_
  refine lv_iadd hx hb dL_law_355 ?_
  refine tI (y := 2) (by decide) ?_
  refine va_sld hx hb hX hbl hbA hS (vp_in_nI (n := 2) (N := 6) (by decide) (by decide)) dL_law_356 ?_
  refine tI (y := xs 2) rfl ?_
  refine endi (wr := [(y, .inr (10, [.int 0, .ref m1, .int 0, .int 0, .int 0, .int 0, .int 0, .int 0, .int 0, .int 0, .int 0, .int 0, .long 0, .int 0, .ref m14, .ref m15, .ref m16, .ref m17, .ref m18, .ref m19, .ref m20, .ref m21, .ref m22, .ref m23, .ref m24, .int 0, .ref m26, .int (-1), .ref m28, .int (-1), .int (-1), .ref m31, .ref m32, .int 0, .int 0, .ref m35, .int 0, .ref m37, .int 0, .int 0, .ref m40, .ref m41, .int 0, .int 0, .ref m44, .int 0, .int 0, .int 0, .int 0])), (m14, .inl (cy 1, 414, .inl NW))]) (va_runV (As := [.int (xs 1), .int (xs 2)]) (rest := []) ⟨hx, hb, hml, hown, hts⟩ (c_X_much l D cy z H.size x kq1 kq7 kq13 kq18 kq23 kq24 kq28 kq31 kq32 kq33 kq34 kq35 kq36 kq39 kq40 kq41 kq42 kq43 kq44 kq45 kq46 kq47 kq48 kq49 kq62 kq78 (xs 1) (xs 2)) (cwV 2 hts (gV tw_536 tw_537 tw_538 tw_1 tw_539) rfl rfl rfl (by decide +kernel) ⟨Nat.le_of_ble_eq_true rfl, Nat.le_of_ble_eq_true rfl⟩) (preV hP hD hK hSD hS hA [0, 1, 2, 3] rfl (by decide) (q := (RX9, TX9, 15)) (ci := 9) (q0 := 0) rfl rfl) rfl rfl hl.1 rfl (lv_room (Nat.le_of_ble_eq_true rfl)) dL_law_357 ⟨Nat.le_of_ble_eq_true rfl, Nat.le_of_ble_eq_true rfl⟩) hP hD hS hA [0, 1, 2, 3] [4, 5] rfl rfl (by decide) (by decide) (fun r_2 u_1 H locs hw_2 hP hD hS => ?_)
  have hP : va_P D classes [(y, .inr (10, [.int 0, .ref m1, .int 0, .int 0, .int 0, .int 0, .int 0, .int 0, .int 0, .int 0, .int 0, .int 0, .long 0, .int 0, .ref m14, .ref m15, .ref m16, .ref m17, .ref m18, .ref m19, .ref m20, .ref m21, .ref m22, .ref m23, .ref m24, .int 0, .ref m26, .int (-1), .ref m28, .int (-1), .int (-1), .ref m31, .ref m32, .int 0, .int 0, .ref m35, .int 0, .ref m37, .int 0, .int 0, .ref m40, .ref m41, .int 0, .int 0, .ref m44, .int 0, .int 0, .int 0, .int 0])), (m14, .inl (cy 1, 414, .inl NW))] H := hP
  have hD : va_D (fun q : Nat => s.heap.size ≤ q) [(y, .inr (10, [.int 0, .ref m1, .int 0, .int 0, .int 0, .int 0, .int 0, .int 0, .int 0, .int 0, .int 0, .int 0, .long 0, .int 0, .ref m14, .ref m15, .ref m16, .ref m17, .ref m18, .ref m19, .ref m20, .ref m21, .ref m22, .ref m23, .ref m24, .int 0, .ref m26, .int (-1), .ref m28, .int (-1), .int (-1), .ref m31, .ref m32, .int 0, .int 0, .ref m35, .int 0, .ref m37, .int 0, .int 0, .ref m40, .ref m41, .int 0, .int 0, .ref m44, .int 0, .int 0, .int 0, .int 0])), (m14, .inl (cy 1, 414, .inl NW))] := hD
  have hw_2 : r_2 = -1 := hw_2
  subst hw_2
  refine lv_aload_n hx hb dL_law_360 rfl (lv_at hl 2 rfl) ?_
  refine lv_aload_n hx hb dL_law_361 rfl (lv_at hl 4 rfl) ?_
  refine lv_iload hx hb dL_law_362 (lv_at hl 0 rfl) ?_
  refine lv_iconst (v := 1) hx hb dL_law_364 (by decide) ?_
  refine lv_iadd hx hb dL_law_365 ?_
  refine tI (y := 1) (by decide) ?_
  refine va_sld hx hb hX hbl hbA hS (vp_in_nI (n := 1) (N := 6) (by decide) (by decide)) dL_law_366 ?_
  refine tI (y := xs 1) rfl ?_
  refine lv_aload_n hx hb dL_law_367 rfl (lv_at hl 4 rfl) ?_
  refine lv_iload hx hb dL_law_368 (lv_at hl 0 rfl) ?_
  refine lv_iconst (v := 2) hx hb dL_law_370 (by decide) ?_
  refine lv_iadd hx hb dL_law_371 ?_
  refine tI (y := 2) (by decide) ?_
  refine va_sld hx hb hX hbl hbA hS (vp_in_nI (n := 2) (N := 6) (by decide) (by decide)) dL_law_372 ?_
  refine tI (y := xs 2) rfl ?_
  refine endi (wr := []) (va_runV (As := [.int (xs 1), .int (xs 2)]) (rest := [.int (-1)]) ⟨hx, hb, hml, hown, hts⟩ (c_M_much l D cy z H.size y m1 m14 m15 m16 m17 m18 m19 m20 m21 m22 m23 m24 m26 m28 m31 m32 m35 m37 m40 m41 m44 (xs 1) (xs 2)) (cwV 2 hts (gV tw_1429 tw_1430 tw_1431 tw_15 tw_1432) rfl rfl rfl (by decide +kernel) ⟨Nat.le_of_ble_eq_true rfl, Nat.le_of_ble_eq_true rfl⟩) (preV hP hD hK hSD hS hA [0, 1] rfl (by decide) (q := (RX10, TX10, 49)) (ci := 10) (q0 := 0) rfl rfl) rfl rfl hl.1 rfl (lv_room (Nat.le_of_ble_eq_true rfl)) dL_law_373 ⟨Nat.le_of_ble_eq_true rfl, Nat.le_of_ble_eq_true rfl⟩) hP hD hS hA [0, 1] [] rfl rfl (by decide) (by decide) (fun r_4 u_3 H locs hw_4 hP hD hS => ?_)
  have hP : va_P D classes [] H := hP
  have hD : va_D (fun q : Nat => s.heap.size ≤ q) [] := hD
  have hw_4 : r_4 = -1 := hw_4
  subst hw_4
  refine lv_icmp_eq (tgt := 1391) hx hb dL_law_376 (by decide) (fun _ => ?_) (fun c9 => absurd (by decide) c9)
  refine lv_iinc (v := 6) (lv' := [(4, .int 6), (3, .ref o), (2, .ref y), (1, .ref x), (0, .ref b)]) hx hb dL_law_1391 hl (k := 0) rfl (by decide) (by decide) rfl (fun ls hl => ?_)
  refine lv_goto (tgt := 23) hx hb dL_law_1394 (by decide) ?_
  refine lv_iload hx hb dL_law_23 (lv_at hl 0 rfl) ?_
  refine lv_aload_n hx hb dL_law_25 rfl (lv_at hl 4 rfl) ?_
  refine va_slen hx hb hX hbl hbA hS dL_law_26 ?_
  refine tI (y := 6) rfl ?_
  refine lv_bipush (v := 6) hx hb dL_law_27 (by decide) ?_
  refine lv_isub hx hb dL_law_29 ?_
  refine tI (y := 0) (by decide) ?_
  refine lv_icmp_gt (tgt := 1397) hx hb dL_law_30 (by decide) (fun _ => ?_) (fun c9 => absurd (by decide) c9)
  refine lv_iconst (v := 1) hx hb dL_law_1397 (by decide) ?_
  refine va_forget (fun q hq => hS.2.2 q hq) ?_
  refine W.widen (k := 600002) (n := 7302232) (Nat.le_of_ble_eq_true rfl) (Nat.le_of_ble_eq_true rfl) ?_
  exact lw_ret hx hb hr hlocks dL_law_1398
set_option maxHeartbeats 4000000 in
set_option maxRecDepth 100000 in
theorem op7 {p : Program} {e : Env} {s : State} {m : MethodId} {below : List Frame} {meth : Method} {c : Code} (l : Launch) {b : Nat} {xs : Nat → Int32} (hx : p.tables.exec = Jvm.exec) (hb : c.code = code) (hr : meth.sig.returnType = ret) (hlocks : meth.locks = false) (hml : c.maxLocals = 7) (hown : s.vm.findClass RL = some m.cls) (hts : ∀ w ∈ gT, w.before #[Value.ref b] s = true) (hX : va_X b 6 xs s s.heap) (hbl : b < s.heap.size) (D : va_G) (cy : Nat → ClassId) (z : Nat → Nat) (hK : va_K D classes (TY cy) s) (hSD : SD z (fun q : Nat => s.heap.size ≤ q) s) (x : Nat) (kq1 : Nat) (kq7 : Nat) (kq13 : Nat) (kq18 : Nat) (kq23 : Nat) (kq24 : Nat) (kq28 : Nat) (kq31 : Nat) (kq32 : Nat) (kq33 : Nat) (kq34 : Nat) (kq35 : Nat) (kq36 : Nat) (kq39 : Nat) (kq40 : Nat) (kq41 : Nat) (kq42 : Nat) (kq43 : Nat) (kq44 : Nat) (kq45 : Nat) (kq46 : Nat) (kq47 : Nat) (kq48 : Nat) (kq49 : Nat) (kq62 : Nat) (kq78 : Nat) (y : Nat) (m1 : Nat) (m14 : Nat) (m15 : Nat) (m16 : Nat) (m17 : Nat) (m18 : Nat) (m19 : Nat) (m20 : Nat) (m21 : Nat) (m22 : Nat) (m23 : Nat) (m24 : Nat) (m26 : Nat) (m28 : Nat) (m31 : Nat) (m32 : Nat) (m35 : Nat) (m37 : Nat) (m40 : Nat) (m41 : Nat) (m44 : Nat) (o : Nat) {H : Heap} {locs : List Loc} (hP : va_P D classes [(x, .inr (9, [.ref kq1, .ref kq36, .ref kq49, .ref kq62, .ref kq78, .null, .ref kq7, .ref kq13, .ref kq18, .ref kq23, .ref kq24, .int 0, .int (-1), .int (-1), .int (-1)])), (kq28, .inr (3, [.ref kq31, .ref kq32, .ref kq33, .ref kq34, .ref kq35, .int 0, .int 5, .int 0, .int 0])), (kq32, .inl (cy 1, 4, .inl (fun _ => 0))), (kq36, .inr (8, [.ref kq28, .int 0, .ref kq39, .ref kq40, .ref kq41, .ref kq42, .ref kq43, .ref kq44, .ref kq45, .ref kq46, .ref kq47, .ref kq48, .int 0])), (y, .inr (10, [.int 0, .ref m1, .int 0, .int 0, .int 0, .int 0, .int 0, .int 0, .int 0, .int 0, .int 0, .int 0, .long 0, .int 0, .ref m14, .ref m15, .ref m16, .ref m17, .ref m18, .ref m19, .ref m20, .ref m21, .ref m22, .ref m23, .ref m24, .int 0, .ref m26, .int (-1), .ref m28, .int (-1), .int (-1), .ref m31, .ref m32, .int 0, .int 0, .ref m35, .int 0, .ref m37, .int 0, .int 0, .ref m40, .ref m41, .int 0, .int 0, .ref m44, .int 0, .int 0, .int 0, .int 0])), (m14, .inl (cy 1, 414, .inl NW))] H) (hD : va_D (fun q : Nat => s.heap.size ≤ q) [(x, .inr (9, [.ref kq1, .ref kq36, .ref kq49, .ref kq62, .ref kq78, .null, .ref kq7, .ref kq13, .ref kq18, .ref kq23, .ref kq24, .int 0, .int (-1), .int (-1), .int (-1)])), (kq28, .inr (3, [.ref kq31, .ref kq32, .ref kq33, .ref kq34, .ref kq35, .int 0, .int 5, .int 0, .int 0])), (kq32, .inl (cy 1, 4, .inl (fun _ => 0))), (kq36, .inr (8, [.ref kq28, .int 0, .ref kq39, .ref kq40, .ref kq41, .ref kq42, .ref kq43, .ref kq44, .ref kq45, .ref kq46, .ref kq47, .ref kq48, .int 0])), (y, .inr (10, [.int 0, .ref m1, .int 0, .int 0, .int 0, .int 0, .int 0, .int 0, .int 0, .int 0, .int 0, .int 0, .long 0, .int 0, .ref m14, .ref m15, .ref m16, .ref m17, .ref m18, .ref m19, .ref m20, .ref m21, .ref m22, .ref m23, .ref m24, .int 0, .ref m26, .int (-1), .ref m28, .int (-1), .int (-1), .ref m31, .ref m32, .int 0, .int 0, .ref m35, .int 0, .ref m37, .int 0, .int 0, .ref m40, .ref m41, .int 0, .int 0, .ref m44, .int 0, .int 0, .int 0, .int 0])), (m14, .inl (cy 1, 414, .inl NW))]) (hS : va_S (fun q : Nat => s.heap.size ≤ q) s.heap H locs) {ls : Array Slot} (hl : lv_has ls 7 [(4, .int 0), (3, .ref o), (2, .ref y), (1, .ref x), (0, .ref b)]) : W p l e room_1 s m #[Value.ref b] below meth c H locs 192 6460 (lw_Z below #[Value.ref b] s) (F0 m 517 ls []) := by
  have hA : ∀ q : Nat, s.heap.size ≤ q → (fun q : Nat => s.heap.size ≤ q) q := fun _ h => h
  have hbA : ¬ (fun q : Nat => s.heap.size ≤ q) b := Nat.not_le.mpr hbl
  refine lv_aload_n hx hb dL_law_517 rfl (lv_at hl 3 rfl) ?_
  refine lv_aload_n hx hb dL_law_518 rfl (lv_at hl 4 rfl) ?_
  refine lv_iload hx hb dL_law_519 (lv_at hl 0 rfl) ?_
  refine lv_iconst (v := 1) hx hb dL_law_521 (by decide) ?_
  refine lv_iadd hx hb dL_law_522 ?_
  refine tI (y := 1) (by decide) ?_
  refine va_sld hx hb hX hbl hbA hS (vp_in_nI (n := 1) (N := 6) (by decide) (by decide)) dL_law_523 ?_
  refine tI (y := xs 1) rfl ?_
  refine endi (wr := [(y, .inr (10, [.int 0, .ref m1, .int 0, .int 0, .int 0, .int 0, .int 0, .int 0, .int 0, .int 0, .int 0, .int 0, .long 0, .int 0, .ref m14, .ref m15, .ref m16, .ref m17, .ref m18, .ref m19, .ref m20, .ref m21, .ref m22, .ref m23, .ref m24, .int 0, .ref m26, .int (-1), .ref m28, .int (-1), .int (-1), .ref m31, .ref m32, .int 0, .int 0, .ref m35, .int 0, .ref m37, .int 0, .int 0, .ref m40, .ref m41, .int 0, .int 0, .ref m44, .int 0, .int 0, .int 0, .int 0])), (m14, .inl (cy 1, 414, .inl NW))]) (va_runV (As := [.int (xs 1)]) (rest := []) ⟨hx, hb, hml, hown, hts⟩ (c_X_need l D cy z H.size x kq1 kq7 kq13 kq18 kq23 kq24 kq28 kq31 kq32 kq33 kq34 kq35 kq36 kq39 kq40 kq41 kq42 kq43 kq44 kq45 kq46 kq47 kq48 kq49 kq62 kq78 (xs 1)) (cwV 1 hts (gV tw_545 tw_546 tw_547 tw_1 tw_548) rfl rfl rfl (by decide +kernel) ⟨Nat.le_of_ble_eq_true rfl, Nat.le_of_ble_eq_true rfl⟩) (preV hP hD hK hSD hS hA [0, 1, 2, 3] rfl (by decide) (q := (RX9, TX9, 15)) (ci := 9) (q0 := 0) rfl rfl) rfl rfl hl.1 rfl (lv_room (Nat.le_of_ble_eq_true rfl)) dL_law_524 ⟨Nat.le_of_ble_eq_true rfl, Nat.le_of_ble_eq_true rfl⟩) hP hD hS hA [0, 1, 2, 3] [4, 5] rfl rfl (by decide) (by decide) (fun r_2 u_1 H locs hw_2 hP hD hS => ?_)
  have hP : va_P D classes [(y, .inr (10, [.int 0, .ref m1, .int 0, .int 0, .int 0, .int 0, .int 0, .int 0, .int 0, .int 0, .int 0, .int 0, .long 0, .int 0, .ref m14, .ref m15, .ref m16, .ref m17, .ref m18, .ref m19, .ref m20, .ref m21, .ref m22, .ref m23, .ref m24, .int 0, .ref m26, .int (-1), .ref m28, .int (-1), .int (-1), .ref m31, .ref m32, .int 0, .int 0, .ref m35, .int 0, .ref m37, .int 0, .int 0, .ref m40, .ref m41, .int 0, .int 0, .ref m44, .int 0, .int 0, .int 0, .int 0])), (m14, .inl (cy 1, 414, .inl NW))] H := hP
  have hD : va_D (fun q : Nat => s.heap.size ≤ q) [(y, .inr (10, [.int 0, .ref m1, .int 0, .int 0, .int 0, .int 0, .int 0, .int 0, .int 0, .int 0, .int 0, .int 0, .long 0, .int 0, .ref m14, .ref m15, .ref m16, .ref m17, .ref m18, .ref m19, .ref m20, .ref m21, .ref m22, .ref m23, .ref m24, .int 0, .ref m26, .int (-1), .ref m28, .int (-1), .int (-1), .ref m31, .ref m32, .int 0, .int 0, .ref m35, .int 0, .ref m37, .int 0, .int 0, .ref m40, .ref m41, .int 0, .int 0, .ref m44, .int 0, .int 0, .int 0, .int 0])), (m14, .inl (cy 1, 414, .inl NW))] := hD
  have hw_2 : r_2 = -1 := hw_2
  subst hw_2
  refine lv_aload_n hx hb dL_law_527 rfl (lv_at hl 2 rfl) ?_
  refine lv_aload_n hx hb dL_law_528 rfl (lv_at hl 4 rfl) ?_
  refine lv_iload hx hb dL_law_529 (lv_at hl 0 rfl) ?_
  refine lv_iconst (v := 1) hx hb dL_law_531 (by decide) ?_
  refine lv_iadd hx hb dL_law_532 ?_
  refine tI (y := 1) (by decide) ?_
  refine va_sld hx hb hX hbl hbA hS (vp_in_nI (n := 1) (N := 6) (by decide) (by decide)) dL_law_533 ?_
  refine tI (y := xs 1) rfl ?_
  refine endi (wr := []) (va_runV (As := [.int (xs 1)]) (rest := [.int (-1)]) ⟨hx, hb, hml, hown, hts⟩ (c_M_need l D cy z H.size y m1 m14 m15 m16 m17 m18 m19 m20 m21 m22 m23 m24 m26 m28 m31 m32 m35 m37 m40 m41 m44 (xs 1)) (cwV 1 hts (gV tw_1477 tw_1478 tw_1479 tw_15 tw_1480) rfl rfl rfl (by decide +kernel) ⟨Nat.le_of_ble_eq_true rfl, Nat.le_of_ble_eq_true rfl⟩) (preV hP hD hK hSD hS hA [0, 1] rfl (by decide) (q := (RX10, TX10, 49)) (ci := 10) (q0 := 0) rfl rfl) rfl rfl hl.1 rfl (lv_room (Nat.le_of_ble_eq_true rfl)) dL_law_534 ⟨Nat.le_of_ble_eq_true rfl, Nat.le_of_ble_eq_true rfl⟩) hP hD hS hA [0, 1] [] rfl rfl (by decide) (by decide) (fun r_4 u_3 H locs hw_4 hP hD hS => ?_)
  have hP : va_P D classes [] H := hP
  have hD : va_D (fun q : Nat => s.heap.size ≤ q) [] := hD
  have hw_4 : r_4 = -1 := hw_4
  subst hw_4
  refine lv_icmp_eq (tgt := 1391) hx hb dL_law_537 (by decide) (fun _ => ?_) (fun c9 => absurd (by decide) c9)
  refine lv_iinc (v := 6) (lv' := [(4, .int 6), (3, .ref o), (2, .ref y), (1, .ref x), (0, .ref b)]) hx hb dL_law_1391 hl (k := 0) rfl (by decide) (by decide) rfl (fun ls hl => ?_)
  refine lv_goto (tgt := 23) hx hb dL_law_1394 (by decide) ?_
  refine lv_iload hx hb dL_law_23 (lv_at hl 0 rfl) ?_
  refine lv_aload_n hx hb dL_law_25 rfl (lv_at hl 4 rfl) ?_
  refine va_slen hx hb hX hbl hbA hS dL_law_26 ?_
  refine tI (y := 6) rfl ?_
  refine lv_bipush (v := 6) hx hb dL_law_27 (by decide) ?_
  refine lv_isub hx hb dL_law_29 ?_
  refine tI (y := 0) (by decide) ?_
  refine lv_icmp_gt (tgt := 1397) hx hb dL_law_30 (by decide) (fun _ => ?_) (fun c9 => absurd (by decide) c9)
  refine lv_iconst (v := 1) hx hb dL_law_1397 (by decide) ?_
  refine va_forget (fun q hq => hS.2.2 q hq) ?_
  refine W.widen (k := 600002) (n := 7302232) (Nat.le_of_ble_eq_true rfl) (Nat.le_of_ble_eq_true rfl) ?_
  exact lw_ret hx hb hr hlocks dL_law_1398
set_option maxHeartbeats 4000000 in
set_option maxRecDepth 100000 in
theorem op8 {p : Program} {e : Env} {s : State} {m : MethodId} {below : List Frame} {meth : Method} {c : Code} (l : Launch) {b : Nat} {xs : Nat → Int32} (hx : p.tables.exec = Jvm.exec) (hb : c.code = code) (hr : meth.sig.returnType = ret) (hlocks : meth.locks = false) (hml : c.maxLocals = 7) (hown : s.vm.findClass RL = some m.cls) (hts : ∀ w ∈ gT, w.before #[Value.ref b] s = true) (hX : va_X b 6 xs s s.heap) (hbl : b < s.heap.size) (D : va_G) (cy : Nat → ClassId) (z : Nat → Nat) (hK : va_K D classes (TY cy) s) (hSD : SD z (fun q : Nat => s.heap.size ≤ q) s) (x : Nat) (kq1 : Nat) (kq7 : Nat) (kq13 : Nat) (kq18 : Nat) (kq23 : Nat) (kq24 : Nat) (kq28 : Nat) (kq31 : Nat) (kq32 : Nat) (kq33 : Nat) (kq34 : Nat) (kq35 : Nat) (kq36 : Nat) (kq39 : Nat) (kq40 : Nat) (kq41 : Nat) (kq42 : Nat) (kq43 : Nat) (kq44 : Nat) (kq45 : Nat) (kq46 : Nat) (kq47 : Nat) (kq48 : Nat) (kq49 : Nat) (kq62 : Nat) (kq78 : Nat) (y : Nat) (m1 : Nat) (m14 : Nat) (m15 : Nat) (m16 : Nat) (m17 : Nat) (m18 : Nat) (m19 : Nat) (m20 : Nat) (m21 : Nat) (m22 : Nat) (m23 : Nat) (m24 : Nat) (m26 : Nat) (m28 : Nat) (m31 : Nat) (m32 : Nat) (m35 : Nat) (m37 : Nat) (m40 : Nat) (m41 : Nat) (m44 : Nat) (o : Nat) {H : Heap} {locs : List Loc} (hP : va_P D classes [(x, .inr (9, [.ref kq1, .ref kq36, .ref kq49, .ref kq62, .ref kq78, .null, .ref kq7, .ref kq13, .ref kq18, .ref kq23, .ref kq24, .int 0, .int (-1), .int (-1), .int (-1)])), (kq28, .inr (3, [.ref kq31, .ref kq32, .ref kq33, .ref kq34, .ref kq35, .int 0, .int 5, .int 0, .int 0])), (kq32, .inl (cy 1, 4, .inl (fun _ => 0))), (kq36, .inr (8, [.ref kq28, .int 0, .ref kq39, .ref kq40, .ref kq41, .ref kq42, .ref kq43, .ref kq44, .ref kq45, .ref kq46, .ref kq47, .ref kq48, .int 0])), (y, .inr (10, [.int 0, .ref m1, .int 0, .int 0, .int 0, .int 0, .int 0, .int 0, .int 0, .int 0, .int 0, .int 0, .long 0, .int 0, .ref m14, .ref m15, .ref m16, .ref m17, .ref m18, .ref m19, .ref m20, .ref m21, .ref m22, .ref m23, .ref m24, .int 0, .ref m26, .int (-1), .ref m28, .int (-1), .int (-1), .ref m31, .ref m32, .int 0, .int 0, .ref m35, .int 0, .ref m37, .int 0, .int 0, .ref m40, .ref m41, .int 0, .int 0, .ref m44, .int 0, .int 0, .int 0, .int 0])), (m14, .inl (cy 1, 414, .inl NW))] H) (hD : va_D (fun q : Nat => s.heap.size ≤ q) [(x, .inr (9, [.ref kq1, .ref kq36, .ref kq49, .ref kq62, .ref kq78, .null, .ref kq7, .ref kq13, .ref kq18, .ref kq23, .ref kq24, .int 0, .int (-1), .int (-1), .int (-1)])), (kq28, .inr (3, [.ref kq31, .ref kq32, .ref kq33, .ref kq34, .ref kq35, .int 0, .int 5, .int 0, .int 0])), (kq32, .inl (cy 1, 4, .inl (fun _ => 0))), (kq36, .inr (8, [.ref kq28, .int 0, .ref kq39, .ref kq40, .ref kq41, .ref kq42, .ref kq43, .ref kq44, .ref kq45, .ref kq46, .ref kq47, .ref kq48, .int 0])), (y, .inr (10, [.int 0, .ref m1, .int 0, .int 0, .int 0, .int 0, .int 0, .int 0, .int 0, .int 0, .int 0, .int 0, .long 0, .int 0, .ref m14, .ref m15, .ref m16, .ref m17, .ref m18, .ref m19, .ref m20, .ref m21, .ref m22, .ref m23, .ref m24, .int 0, .ref m26, .int (-1), .ref m28, .int (-1), .int (-1), .ref m31, .ref m32, .int 0, .int 0, .ref m35, .int 0, .ref m37, .int 0, .int 0, .ref m40, .ref m41, .int 0, .int 0, .ref m44, .int 0, .int 0, .int 0, .int 0])), (m14, .inl (cy 1, 414, .inl NW))]) (hS : va_S (fun q : Nat => s.heap.size ≤ q) s.heap H locs) {ls : Array Slot} (hl : lv_has ls 7 [(4, .int 0), (3, .ref o), (2, .ref y), (1, .ref x), (0, .ref b)]) : W p l e room_1 s m #[Value.ref b] below meth c H locs 192 6460 (lw_Z below #[Value.ref b] s) (F0 m 542 ls []) := by
  have hA : ∀ q : Nat, s.heap.size ≤ q → (fun q : Nat => s.heap.size ≤ q) q := fun _ h => h
  have hbA : ¬ (fun q : Nat => s.heap.size ≤ q) b := Nat.not_le.mpr hbl
  refine lv_aload_n hx hb dL_law_542 rfl (lv_at hl 3 rfl) ?_
  refine lv_aload_n hx hb dL_law_543 rfl (lv_at hl 4 rfl) ?_
  refine lv_iload hx hb dL_law_544 (lv_at hl 0 rfl) ?_
  refine lv_iconst (v := 1) hx hb dL_law_546 (by decide) ?_
  refine lv_iadd hx hb dL_law_547 ?_
  refine tI (y := 1) (by decide) ?_
  refine va_sld hx hb hX hbl hbA hS (vp_in_nI (n := 1) (N := 6) (by decide) (by decide)) dL_law_548 ?_
  refine tI (y := xs 1) rfl ?_
  refine endi (wr := [(y, .inr (10, [.int 0, .ref m1, .int 0, .int 0, .int 0, .int 0, .int 0, .int 0, .int 0, .int 0, .int 0, .int 0, .long 0, .int 0, .ref m14, .ref m15, .ref m16, .ref m17, .ref m18, .ref m19, .ref m20, .ref m21, .ref m22, .ref m23, .ref m24, .int 0, .ref m26, .int (-1), .ref m28, .int (-1), .int (-1), .ref m31, .ref m32, .int 0, .int 0, .ref m35, .int 0, .ref m37, .int 0, .int 0, .ref m40, .ref m41, .int 0, .int 0, .ref m44, .int 0, .int 0, .int 0, .int 0])), (m14, .inl (cy 1, 414, .inl NW))]) (va_runV (As := [.int (xs 1)]) (rest := []) ⟨hx, hb, hml, hown, hts⟩ (c_X_quarrels l D cy z H.size x kq1 kq7 kq13 kq18 kq23 kq24 kq28 kq31 kq32 kq33 kq34 kq35 kq36 kq39 kq40 kq41 kq42 kq43 kq44 kq45 kq46 kq47 kq48 kq49 kq62 kq78 (xs 1)) (cwV 1 hts (gV tw_549 tw_550 tw_551 tw_1 tw_552) rfl rfl rfl (by decide +kernel) ⟨Nat.le_of_ble_eq_true rfl, Nat.le_of_ble_eq_true rfl⟩) (preV hP hD hK hSD hS hA [0, 1, 2, 3] rfl (by decide) (q := (RX9, TX9, 15)) (ci := 9) (q0 := 0) rfl rfl) rfl rfl hl.1 rfl (lv_room (Nat.le_of_ble_eq_true rfl)) dL_law_549 ⟨Nat.le_of_ble_eq_true rfl, Nat.le_of_ble_eq_true rfl⟩) hP hD hS hA [0, 1, 2, 3] [4, 5] rfl rfl (by decide) (by decide) (fun r_2 u_1 H locs hw_2 hP hD hS => ?_)
  have hP : va_P D classes [(y, .inr (10, [.int 0, .ref m1, .int 0, .int 0, .int 0, .int 0, .int 0, .int 0, .int 0, .int 0, .int 0, .int 0, .long 0, .int 0, .ref m14, .ref m15, .ref m16, .ref m17, .ref m18, .ref m19, .ref m20, .ref m21, .ref m22, .ref m23, .ref m24, .int 0, .ref m26, .int (-1), .ref m28, .int (-1), .int (-1), .ref m31, .ref m32, .int 0, .int 0, .ref m35, .int 0, .ref m37, .int 0, .int 0, .ref m40, .ref m41, .int 0, .int 0, .ref m44, .int 0, .int 0, .int 0, .int 0])), (m14, .inl (cy 1, 414, .inl NW))] H := hP
  have hD : va_D (fun q : Nat => s.heap.size ≤ q) [(y, .inr (10, [.int 0, .ref m1, .int 0, .int 0, .int 0, .int 0, .int 0, .int 0, .int 0, .int 0, .int 0, .int 0, .long 0, .int 0, .ref m14, .ref m15, .ref m16, .ref m17, .ref m18, .ref m19, .ref m20, .ref m21, .ref m22, .ref m23, .ref m24, .int 0, .ref m26, .int (-1), .ref m28, .int (-1), .int (-1), .ref m31, .ref m32, .int 0, .int 0, .ref m35, .int 0, .ref m37, .int 0, .int 0, .ref m40, .ref m41, .int 0, .int 0, .ref m44, .int 0, .int 0, .int 0, .int 0])), (m14, .inl (cy 1, 414, .inl NW))] := hD
  have hw_2 : r_2 = -1 := hw_2
  subst hw_2
  refine lv_aload_n hx hb dL_law_552 rfl (lv_at hl 2 rfl) ?_
  refine lv_aload_n hx hb dL_law_553 rfl (lv_at hl 4 rfl) ?_
  refine lv_iload hx hb dL_law_554 (lv_at hl 0 rfl) ?_
  refine lv_iconst (v := 1) hx hb dL_law_556 (by decide) ?_
  refine lv_iadd hx hb dL_law_557 ?_
  refine tI (y := 1) (by decide) ?_
  refine va_sld hx hb hX hbl hbA hS (vp_in_nI (n := 1) (N := 6) (by decide) (by decide)) dL_law_558 ?_
  refine tI (y := xs 1) rfl ?_
  refine endi (wr := []) (va_runV (As := [.int (xs 1)]) (rest := [.int (-1)]) ⟨hx, hb, hml, hown, hts⟩ (c_M_quarrels l D cy z H.size y m1 m14 m15 m16 m17 m18 m19 m20 m21 m22 m23 m24 m26 m28 m31 m32 m35 m37 m40 m41 m44 (xs 1)) (cwV 1 hts (gV tw_1481 tw_1482 tw_1483 tw_15 tw_1484) rfl rfl rfl (by decide +kernel) ⟨Nat.le_of_ble_eq_true rfl, Nat.le_of_ble_eq_true rfl⟩) (preV hP hD hK hSD hS hA [0, 1] rfl (by decide) (q := (RX10, TX10, 49)) (ci := 10) (q0 := 0) rfl rfl) rfl rfl hl.1 rfl (lv_room (Nat.le_of_ble_eq_true rfl)) dL_law_559 ⟨Nat.le_of_ble_eq_true rfl, Nat.le_of_ble_eq_true rfl⟩) hP hD hS hA [0, 1] [] rfl rfl (by decide) (by decide) (fun r_4 u_3 H locs hw_4 hP hD hS => ?_)
  have hP : va_P D classes [] H := hP
  have hD : va_D (fun q : Nat => s.heap.size ≤ q) [] := hD
  have hw_4 : r_4 = -1 := hw_4
  subst hw_4
  refine lv_icmp_eq (tgt := 1391) hx hb dL_law_562 (by decide) (fun _ => ?_) (fun c9 => absurd (by decide) c9)
  refine lv_iinc (v := 6) (lv' := [(4, .int 6), (3, .ref o), (2, .ref y), (1, .ref x), (0, .ref b)]) hx hb dL_law_1391 hl (k := 0) rfl (by decide) (by decide) rfl (fun ls hl => ?_)
  refine lv_goto (tgt := 23) hx hb dL_law_1394 (by decide) ?_
  refine lv_iload hx hb dL_law_23 (lv_at hl 0 rfl) ?_
  refine lv_aload_n hx hb dL_law_25 rfl (lv_at hl 4 rfl) ?_
  refine va_slen hx hb hX hbl hbA hS dL_law_26 ?_
  refine tI (y := 6) rfl ?_
  refine lv_bipush (v := 6) hx hb dL_law_27 (by decide) ?_
  refine lv_isub hx hb dL_law_29 ?_
  refine tI (y := 0) (by decide) ?_
  refine lv_icmp_gt (tgt := 1397) hx hb dL_law_30 (by decide) (fun _ => ?_) (fun c9 => absurd (by decide) c9)
  refine lv_iconst (v := 1) hx hb dL_law_1397 (by decide) ?_
  refine va_forget (fun q hq => hS.2.2 q hq) ?_
  refine W.widen (k := 600002) (n := 7302232) (Nat.le_of_ble_eq_true rfl) (Nat.le_of_ble_eq_true rfl) ?_
  exact lw_ret hx hb hr hlocks dL_law_1398
set_option maxHeartbeats 4000000 in
set_option maxRecDepth 100000 in
theorem op9 {p : Program} {e : Env} {s : State} {m : MethodId} {below : List Frame} {meth : Method} {c : Code} (l : Launch) {b : Nat} {xs : Nat → Int32} (hx : p.tables.exec = Jvm.exec) (hb : c.code = code) (hr : meth.sig.returnType = ret) (hlocks : meth.locks = false) (hml : c.maxLocals = 7) (hown : s.vm.findClass RL = some m.cls) (hts : ∀ w ∈ gT, w.before #[Value.ref b] s = true) (hX : va_X b 6 xs s s.heap) (hbl : b < s.heap.size) (D : va_G) (cy : Nat → ClassId) (z : Nat → Nat) (hK : va_K D classes (TY cy) s) (hSD : SD z (fun q : Nat => s.heap.size ≤ q) s) (x : Nat) (kq1 : Nat) (kq7 : Nat) (kq13 : Nat) (kq18 : Nat) (kq23 : Nat) (kq24 : Nat) (kq28 : Nat) (kq31 : Nat) (kq32 : Nat) (kq33 : Nat) (kq34 : Nat) (kq35 : Nat) (kq36 : Nat) (kq39 : Nat) (kq40 : Nat) (kq41 : Nat) (kq42 : Nat) (kq43 : Nat) (kq44 : Nat) (kq45 : Nat) (kq46 : Nat) (kq47 : Nat) (kq48 : Nat) (kq49 : Nat) (kq62 : Nat) (kq78 : Nat) (y : Nat) (m1 : Nat) (m14 : Nat) (m15 : Nat) (m16 : Nat) (m17 : Nat) (m18 : Nat) (m19 : Nat) (m20 : Nat) (m21 : Nat) (m22 : Nat) (m23 : Nat) (m24 : Nat) (m26 : Nat) (m28 : Nat) (m31 : Nat) (m32 : Nat) (m35 : Nat) (m37 : Nat) (m40 : Nat) (m41 : Nat) (m44 : Nat) (o : Nat) {H : Heap} {locs : List Loc} (hP : va_P D classes [(x, .inr (9, [.ref kq1, .ref kq36, .ref kq49, .ref kq62, .ref kq78, .null, .ref kq7, .ref kq13, .ref kq18, .ref kq23, .ref kq24, .int 0, .int (-1), .int (-1), .int (-1)])), (kq28, .inr (3, [.ref kq31, .ref kq32, .ref kq33, .ref kq34, .ref kq35, .int 0, .int 5, .int 0, .int 0])), (kq32, .inl (cy 1, 4, .inl (fun _ => 0))), (kq36, .inr (8, [.ref kq28, .int 0, .ref kq39, .ref kq40, .ref kq41, .ref kq42, .ref kq43, .ref kq44, .ref kq45, .ref kq46, .ref kq47, .ref kq48, .int 0])), (y, .inr (10, [.int 0, .ref m1, .int 0, .int 0, .int 0, .int 0, .int 0, .int 0, .int 0, .int 0, .int 0, .int 0, .long 0, .int 0, .ref m14, .ref m15, .ref m16, .ref m17, .ref m18, .ref m19, .ref m20, .ref m21, .ref m22, .ref m23, .ref m24, .int 0, .ref m26, .int (-1), .ref m28, .int (-1), .int (-1), .ref m31, .ref m32, .int 0, .int 0, .ref m35, .int 0, .ref m37, .int 0, .int 0, .ref m40, .ref m41, .int 0, .int 0, .ref m44, .int 0, .int 0, .int 0, .int 0])), (m14, .inl (cy 1, 414, .inl NW))] H) (hD : va_D (fun q : Nat => s.heap.size ≤ q) [(x, .inr (9, [.ref kq1, .ref kq36, .ref kq49, .ref kq62, .ref kq78, .null, .ref kq7, .ref kq13, .ref kq18, .ref kq23, .ref kq24, .int 0, .int (-1), .int (-1), .int (-1)])), (kq28, .inr (3, [.ref kq31, .ref kq32, .ref kq33, .ref kq34, .ref kq35, .int 0, .int 5, .int 0, .int 0])), (kq32, .inl (cy 1, 4, .inl (fun _ => 0))), (kq36, .inr (8, [.ref kq28, .int 0, .ref kq39, .ref kq40, .ref kq41, .ref kq42, .ref kq43, .ref kq44, .ref kq45, .ref kq46, .ref kq47, .ref kq48, .int 0])), (y, .inr (10, [.int 0, .ref m1, .int 0, .int 0, .int 0, .int 0, .int 0, .int 0, .int 0, .int 0, .int 0, .int 0, .long 0, .int 0, .ref m14, .ref m15, .ref m16, .ref m17, .ref m18, .ref m19, .ref m20, .ref m21, .ref m22, .ref m23, .ref m24, .int 0, .ref m26, .int (-1), .ref m28, .int (-1), .int (-1), .ref m31, .ref m32, .int 0, .int 0, .ref m35, .int 0, .ref m37, .int 0, .int 0, .ref m40, .ref m41, .int 0, .int 0, .ref m44, .int 0, .int 0, .int 0, .int 0])), (m14, .inl (cy 1, 414, .inl NW))]) (hS : va_S (fun q : Nat => s.heap.size ≤ q) s.heap H locs) {ls : Array Slot} (hl : lv_has ls 7 [(4, .int 0), (3, .ref o), (2, .ref y), (1, .ref x), (0, .ref b)]) : W p l e room_1 s m #[Value.ref b] below meth c H locs 192 6460 (lw_Z below #[Value.ref b] s) (F0 m 567 ls []) := by
  have hA : ∀ q : Nat, s.heap.size ≤ q → (fun q : Nat => s.heap.size ≤ q) q := fun _ h => h
  have hbA : ¬ (fun q : Nat => s.heap.size ≤ q) b := Nat.not_le.mpr hbl
  refine lv_aload_n hx hb dL_law_567 rfl (lv_at hl 3 rfl) ?_
  refine lv_aload_n hx hb dL_law_568 rfl (lv_at hl 4 rfl) ?_
  refine lv_iload hx hb dL_law_569 (lv_at hl 0 rfl) ?_
  refine lv_iconst (v := 1) hx hb dL_law_571 (by decide) ?_
  refine lv_iadd hx hb dL_law_572 ?_
  refine tI (y := 1) (by decide) ?_
  refine va_sld hx hb hX hbl hbA hS (vp_in_nI (n := 1) (N := 6) (by decide) (by decide)) dL_law_573 ?_
  refine tI (y := xs 1) rfl ?_
  refine endi (wr := [(y, .inr (10, [.int 0, .ref m1, .int 0, .int 0, .int 0, .int 0, .int 0, .int 0, .int 0, .int 0, .int 0, .int 0, .long 0, .int 0, .ref m14, .ref m15, .ref m16, .ref m17, .ref m18, .ref m19, .ref m20, .ref m21, .ref m22, .ref m23, .ref m24, .int 0, .ref m26, .int (-1), .ref m28, .int (-1), .int (-1), .ref m31, .ref m32, .int 0, .int 0, .ref m35, .int 0, .ref m37, .int 0, .int 0, .ref m40, .ref m41, .int 0, .int 0, .ref m44, .int 0, .int 0, .int 0, .int 0])), (m14, .inl (cy 1, 414, .inl NW))]) (va_runV (As := [.int (xs 1)]) (rest := []) ⟨hx, hb, hml, hown, hts⟩ (c_X_now l D cy z H.size x kq1 kq7 kq13 kq18 kq23 kq24 kq28 kq31 kq32 kq33 kq34 kq35 kq36 kq39 kq40 kq41 kq42 kq43 kq44 kq45 kq46 kq47 kq48 kq49 kq62 kq78 (xs 1)) (cwV 1 hts (gV tw_553 tw_554 tw_555 tw_1 tw_556) rfl rfl rfl (by decide +kernel) ⟨Nat.le_of_ble_eq_true rfl, Nat.le_of_ble_eq_true rfl⟩) (preV hP hD hK hSD hS hA [0, 1, 2, 3] rfl (by decide) (q := (RX9, TX9, 15)) (ci := 9) (q0 := 0) rfl rfl) rfl rfl hl.1 rfl (lv_room (Nat.le_of_ble_eq_true rfl)) dL_law_574 ⟨Nat.le_of_ble_eq_true rfl, Nat.le_of_ble_eq_true rfl⟩) hP hD hS hA [0, 1, 2, 3] [4, 5] rfl rfl (by decide) (by decide) (fun r_2 u_1 H locs hw_2 hP hD hS => ?_)
  have hP : va_P D classes [(y, .inr (10, [.int 0, .ref m1, .int 0, .int 0, .int 0, .int 0, .int 0, .int 0, .int 0, .int 0, .int 0, .int 0, .long 0, .int 0, .ref m14, .ref m15, .ref m16, .ref m17, .ref m18, .ref m19, .ref m20, .ref m21, .ref m22, .ref m23, .ref m24, .int 0, .ref m26, .int (-1), .ref m28, .int (-1), .int (-1), .ref m31, .ref m32, .int 0, .int 0, .ref m35, .int 0, .ref m37, .int 0, .int 0, .ref m40, .ref m41, .int 0, .int 0, .ref m44, .int 0, .int 0, .int 0, .int 0])), (m14, .inl (cy 1, 414, .inl NW))] H := hP
  have hD : va_D (fun q : Nat => s.heap.size ≤ q) [(y, .inr (10, [.int 0, .ref m1, .int 0, .int 0, .int 0, .int 0, .int 0, .int 0, .int 0, .int 0, .int 0, .int 0, .long 0, .int 0, .ref m14, .ref m15, .ref m16, .ref m17, .ref m18, .ref m19, .ref m20, .ref m21, .ref m22, .ref m23, .ref m24, .int 0, .ref m26, .int (-1), .ref m28, .int (-1), .int (-1), .ref m31, .ref m32, .int 0, .int 0, .ref m35, .int 0, .ref m37, .int 0, .int 0, .ref m40, .ref m41, .int 0, .int 0, .ref m44, .int 0, .int 0, .int 0, .int 0])), (m14, .inl (cy 1, 414, .inl NW))] := hD
  have hw_2 : r_2 = if (xs 1).toInt < 0 ∨ 6 < (xs 1).toInt then -1 else 0 := hw_2
  subst hw_2
  refine lv_aload_n hx hb dL_law_577 rfl (lv_at hl 2 rfl) ?_
  refine lv_aload_n hx hb dL_law_578 rfl (lv_at hl 4 rfl) ?_
  refine lv_iload hx hb dL_law_579 (lv_at hl 0 rfl) ?_
  refine lv_iconst (v := 1) hx hb dL_law_581 (by decide) ?_
  refine lv_iadd hx hb dL_law_582 ?_
  refine tI (y := 1) (by decide) ?_
  refine va_sld hx hb hX hbl hbA hS (vp_in_nI (n := 1) (N := 6) (by decide) (by decide)) dL_law_583 ?_
  refine tI (y := xs 1) rfl ?_
  refine endi (wr := []) (va_runV (As := [.int (xs 1)]) (rest := [.int (if (xs 1).toInt < 0 ∨ 6 < (xs 1).toInt then -1 else 0)]) ⟨hx, hb, hml, hown, hts⟩ (c_M_now l D cy z H.size y m1 m14 m15 m16 m17 m18 m19 m20 m21 m22 m23 m24 m26 m28 m31 m32 m35 m37 m40 m41 m44 (xs 1)) (cwV 1 hts (gV tw_1485 tw_1486 tw_1487 tw_15 tw_1488) rfl rfl rfl (by decide +kernel) ⟨Nat.le_of_ble_eq_true rfl, Nat.le_of_ble_eq_true rfl⟩) (preV hP hD hK hSD hS hA [0, 1] rfl (by decide) (q := (RX10, TX10, 49)) (ci := 10) (q0 := 0) rfl rfl) rfl rfl hl.1 rfl (lv_room (Nat.le_of_ble_eq_true rfl)) dL_law_584 ⟨Nat.le_of_ble_eq_true rfl, Nat.le_of_ble_eq_true rfl⟩) hP hD hS hA [0, 1] [] rfl rfl (by decide) (by decide) (fun r_4 u_3 H locs hw_4 hP hD hS => ?_)
  have hP : va_P D classes [] H := hP
  have hD : va_D (fun q : Nat => s.heap.size ≤ q) [] := hD
  have hw_4 : r_4 = if (xs 1).toInt < 0 ∨ 6 < (xs 1).toInt then -1 else 0 := hw_4
  subst hw_4
  refine lv_icmp_eq (tgt := 1391) hx hb dL_law_587 (by decide) (fun _ => ?_) (fun c9 => absurd rfl c9)
  refine lv_iinc (v := 6) (lv' := [(4, .int 6), (3, .ref o), (2, .ref y), (1, .ref x), (0, .ref b)]) hx hb dL_law_1391 hl (k := 0) rfl (by decide) (by decide) rfl (fun ls hl => ?_)
  refine lv_goto (tgt := 23) hx hb dL_law_1394 (by decide) ?_
  refine lv_iload hx hb dL_law_23 (lv_at hl 0 rfl) ?_
  refine lv_aload_n hx hb dL_law_25 rfl (lv_at hl 4 rfl) ?_
  refine va_slen hx hb hX hbl hbA hS dL_law_26 ?_
  refine tI (y := 6) rfl ?_
  refine lv_bipush (v := 6) hx hb dL_law_27 (by decide) ?_
  refine lv_isub hx hb dL_law_29 ?_
  refine tI (y := 0) (by decide) ?_
  refine lv_icmp_gt (tgt := 1397) hx hb dL_law_30 (by decide) (fun _ => ?_) (fun c9 => absurd (by decide) c9)
  refine lv_iconst (v := 1) hx hb dL_law_1397 (by decide) ?_
  refine va_forget (fun q hq => hS.2.2 q hq) ?_
  refine W.widen (k := 600002) (n := 7302232) (Nat.le_of_ble_eq_true rfl) (Nat.le_of_ble_eq_true rfl) ?_
  exact lw_ret hx hb hr hlocks dL_law_1398
set_option maxHeartbeats 4000000 in
set_option maxRecDepth 100000 in
theorem op10 {p : Program} {e : Env} {s : State} {m : MethodId} {below : List Frame} {meth : Method} {c : Code} (l : Launch) {b : Nat} {xs : Nat → Int32} (hx : p.tables.exec = Jvm.exec) (hb : c.code = code) (hr : meth.sig.returnType = ret) (hlocks : meth.locks = false) (hml : c.maxLocals = 7) (hown : s.vm.findClass RL = some m.cls) (hts : ∀ w ∈ gT, w.before #[Value.ref b] s = true) (hX : va_X b 6 xs s s.heap) (hbl : b < s.heap.size) (D : va_G) (cy : Nat → ClassId) (z : Nat → Nat) (hK : va_K D classes (TY cy) s) (hSD : SD z (fun q : Nat => s.heap.size ≤ q) s) (x : Nat) (kq1 : Nat) (kq7 : Nat) (kq13 : Nat) (kq18 : Nat) (kq23 : Nat) (kq24 : Nat) (kq28 : Nat) (kq31 : Nat) (kq32 : Nat) (kq33 : Nat) (kq34 : Nat) (kq35 : Nat) (kq36 : Nat) (kq39 : Nat) (kq40 : Nat) (kq41 : Nat) (kq42 : Nat) (kq43 : Nat) (kq44 : Nat) (kq45 : Nat) (kq46 : Nat) (kq47 : Nat) (kq48 : Nat) (kq49 : Nat) (kq62 : Nat) (kq78 : Nat) (y : Nat) (m1 : Nat) (m14 : Nat) (m15 : Nat) (m16 : Nat) (m17 : Nat) (m18 : Nat) (m19 : Nat) (m20 : Nat) (m21 : Nat) (m22 : Nat) (m23 : Nat) (m24 : Nat) (m26 : Nat) (m28 : Nat) (m31 : Nat) (m32 : Nat) (m35 : Nat) (m37 : Nat) (m40 : Nat) (m41 : Nat) (m44 : Nat) (o : Nat) {H : Heap} {locs : List Loc} (hP : va_P D classes [(x, .inr (9, [.ref kq1, .ref kq36, .ref kq49, .ref kq62, .ref kq78, .null, .ref kq7, .ref kq13, .ref kq18, .ref kq23, .ref kq24, .int 0, .int (-1), .int (-1), .int (-1)])), (kq28, .inr (3, [.ref kq31, .ref kq32, .ref kq33, .ref kq34, .ref kq35, .int 0, .int 5, .int 0, .int 0])), (kq32, .inl (cy 1, 4, .inl (fun _ => 0))), (kq36, .inr (8, [.ref kq28, .int 0, .ref kq39, .ref kq40, .ref kq41, .ref kq42, .ref kq43, .ref kq44, .ref kq45, .ref kq46, .ref kq47, .ref kq48, .int 0])), (y, .inr (10, [.int 0, .ref m1, .int 0, .int 0, .int 0, .int 0, .int 0, .int 0, .int 0, .int 0, .int 0, .int 0, .long 0, .int 0, .ref m14, .ref m15, .ref m16, .ref m17, .ref m18, .ref m19, .ref m20, .ref m21, .ref m22, .ref m23, .ref m24, .int 0, .ref m26, .int (-1), .ref m28, .int (-1), .int (-1), .ref m31, .ref m32, .int 0, .int 0, .ref m35, .int 0, .ref m37, .int 0, .int 0, .ref m40, .ref m41, .int 0, .int 0, .ref m44, .int 0, .int 0, .int 0, .int 0])), (m14, .inl (cy 1, 414, .inl NW))] H) (hD : va_D (fun q : Nat => s.heap.size ≤ q) [(x, .inr (9, [.ref kq1, .ref kq36, .ref kq49, .ref kq62, .ref kq78, .null, .ref kq7, .ref kq13, .ref kq18, .ref kq23, .ref kq24, .int 0, .int (-1), .int (-1), .int (-1)])), (kq28, .inr (3, [.ref kq31, .ref kq32, .ref kq33, .ref kq34, .ref kq35, .int 0, .int 5, .int 0, .int 0])), (kq32, .inl (cy 1, 4, .inl (fun _ => 0))), (kq36, .inr (8, [.ref kq28, .int 0, .ref kq39, .ref kq40, .ref kq41, .ref kq42, .ref kq43, .ref kq44, .ref kq45, .ref kq46, .ref kq47, .ref kq48, .int 0])), (y, .inr (10, [.int 0, .ref m1, .int 0, .int 0, .int 0, .int 0, .int 0, .int 0, .int 0, .int 0, .int 0, .int 0, .long 0, .int 0, .ref m14, .ref m15, .ref m16, .ref m17, .ref m18, .ref m19, .ref m20, .ref m21, .ref m22, .ref m23, .ref m24, .int 0, .ref m26, .int (-1), .ref m28, .int (-1), .int (-1), .ref m31, .ref m32, .int 0, .int 0, .ref m35, .int 0, .ref m37, .int 0, .int 0, .ref m40, .ref m41, .int 0, .int 0, .ref m44, .int 0, .int 0, .int 0, .int 0])), (m14, .inl (cy 1, 414, .inl NW))]) (hS : va_S (fun q : Nat => s.heap.size ≤ q) s.heap H locs) {ls : Array Slot} (hl : lv_has ls 7 [(4, .int 0), (3, .ref o), (2, .ref y), (1, .ref x), (0, .ref b)]) : W p l e room_1 s m #[Value.ref b] below meth c H locs 192 6460 (lw_Z below #[Value.ref b] s) (F0 m 592 ls []) := by
  have hA : ∀ q : Nat, s.heap.size ≤ q → (fun q : Nat => s.heap.size ≤ q) q := fun _ h => h
  have hbA : ¬ (fun q : Nat => s.heap.size ≤ q) b := Nat.not_le.mpr hbl
  refine lv_aload_n hx hb dL_law_592 rfl (lv_at hl 3 rfl) ?_
  refine lv_aload_n hx hb dL_law_593 rfl (lv_at hl 4 rfl) ?_
  refine lv_iload hx hb dL_law_594 (lv_at hl 0 rfl) ?_
  refine lv_iconst (v := 1) hx hb dL_law_596 (by decide) ?_
  refine lv_iadd hx hb dL_law_597 ?_
  refine tI (y := 1) (by decide) ?_
  refine va_sld hx hb hX hbl hbA hS (vp_in_nI (n := 1) (N := 6) (by decide) (by decide)) dL_law_598 ?_
  refine tI (y := xs 1) rfl ?_
  refine lv_aload_n hx hb dL_law_599 rfl (lv_at hl 4 rfl) ?_
  refine lv_iload hx hb dL_law_600 (lv_at hl 0 rfl) ?_
  refine lv_iconst (v := 2) hx hb dL_law_602 (by decide) ?_
  refine lv_iadd hx hb dL_law_603 ?_
  refine tI (y := 2) (by decide) ?_
  refine va_sld hx hb hX hbl hbA hS (vp_in_nI (n := 2) (N := 6) (by decide) (by decide)) dL_law_604 ?_
  refine tI (y := xs 2) rfl ?_
  refine endi (wr := [(y, .inr (10, [.int 0, .ref m1, .int 0, .int 0, .int 0, .int 0, .int 0, .int 0, .int 0, .int 0, .int 0, .int 0, .long 0, .int 0, .ref m14, .ref m15, .ref m16, .ref m17, .ref m18, .ref m19, .ref m20, .ref m21, .ref m22, .ref m23, .ref m24, .int 0, .ref m26, .int (-1), .ref m28, .int (-1), .int (-1), .ref m31, .ref m32, .int 0, .int 0, .ref m35, .int 0, .ref m37, .int 0, .int 0, .ref m40, .ref m41, .int 0, .int 0, .ref m44, .int 0, .int 0, .int 0, .int 0])), (m14, .inl (cy 1, 414, .inl NW))]) (va_runV (As := [.int (xs 1), .int (xs 2)]) (rest := []) ⟨hx, hb, hml, hown, hts⟩ (c_X_sit l D cy z H.size x kq1 kq7 kq13 kq18 kq23 kq24 kq28 kq31 kq32 kq33 kq34 kq35 kq36 kq39 kq40 kq41 kq42 kq43 kq44 kq45 kq46 kq47 kq48 kq49 kq62 kq78 (xs 1) (xs 2)) (cwV 2 hts (gV tw_602 tw_603 tw_604 tw_1 tw_605) rfl rfl rfl (by decide +kernel) ⟨Nat.le_of_ble_eq_true rfl, Nat.le_of_ble_eq_true rfl⟩) (preV hP hD hK hSD hS hA [0, 1, 2, 3] rfl (by decide) (q := (RX9, TX9, 15)) (ci := 9) (q0 := 0) rfl rfl) rfl rfl hl.1 rfl (lv_room (Nat.le_of_ble_eq_true rfl)) dL_law_605 ⟨Nat.le_of_ble_eq_true rfl, Nat.le_of_ble_eq_true rfl⟩) hP hD hS hA [0, 1, 2, 3] [4, 5] rfl rfl (by decide) (by decide) (fun r_2 u_1 H locs hw_2 hP hD hS => ?_)
  have hP : va_P D classes [(y, .inr (10, [.int 0, .ref m1, .int 0, .int 0, .int 0, .int 0, .int 0, .int 0, .int 0, .int 0, .int 0, .int 0, .long 0, .int 0, .ref m14, .ref m15, .ref m16, .ref m17, .ref m18, .ref m19, .ref m20, .ref m21, .ref m22, .ref m23, .ref m24, .int 0, .ref m26, .int (-1), .ref m28, .int (-1), .int (-1), .ref m31, .ref m32, .int 0, .int 0, .ref m35, .int 0, .ref m37, .int 0, .int 0, .ref m40, .ref m41, .int 0, .int 0, .ref m44, .int 0, .int 0, .int 0, .int 0])), (m14, .inl (cy 1, 414, .inl NW))] H := hP
  have hD : va_D (fun q : Nat => s.heap.size ≤ q) [(y, .inr (10, [.int 0, .ref m1, .int 0, .int 0, .int 0, .int 0, .int 0, .int 0, .int 0, .int 0, .int 0, .int 0, .long 0, .int 0, .ref m14, .ref m15, .ref m16, .ref m17, .ref m18, .ref m19, .ref m20, .ref m21, .ref m22, .ref m23, .ref m24, .int 0, .ref m26, .int (-1), .ref m28, .int (-1), .int (-1), .ref m31, .ref m32, .int 0, .int 0, .ref m35, .int 0, .ref m37, .int 0, .int 0, .ref m40, .ref m41, .int 0, .int 0, .ref m44, .int 0, .int 0, .int 0, .int 0])), (m14, .inl (cy 1, 414, .inl NW))] := hD
  have hw_2 : r_2 = -1 := hw_2
  subst hw_2
  refine lv_aload_n hx hb dL_law_608 rfl (lv_at hl 2 rfl) ?_
  refine lv_aload_n hx hb dL_law_609 rfl (lv_at hl 4 rfl) ?_
  refine lv_iload hx hb dL_law_610 (lv_at hl 0 rfl) ?_
  refine lv_iconst (v := 1) hx hb dL_law_612 (by decide) ?_
  refine lv_iadd hx hb dL_law_613 ?_
  refine tI (y := 1) (by decide) ?_
  refine va_sld hx hb hX hbl hbA hS (vp_in_nI (n := 1) (N := 6) (by decide) (by decide)) dL_law_614 ?_
  refine tI (y := xs 1) rfl ?_
  refine lv_aload_n hx hb dL_law_615 rfl (lv_at hl 4 rfl) ?_
  refine lv_iload hx hb dL_law_616 (lv_at hl 0 rfl) ?_
  refine lv_iconst (v := 2) hx hb dL_law_618 (by decide) ?_
  refine lv_iadd hx hb dL_law_619 ?_
  refine tI (y := 2) (by decide) ?_
  refine va_sld hx hb hX hbl hbA hS (vp_in_nI (n := 2) (N := 6) (by decide) (by decide)) dL_law_620 ?_
  refine tI (y := xs 2) rfl ?_
  refine endi (wr := []) (va_runV (As := [.int (xs 1), .int (xs 2)]) (rest := [.int (-1)]) ⟨hx, hb, hml, hown, hts⟩ (c_M_sit l D cy z H.size y m1 m14 m15 m16 m17 m18 m19 m20 m21 m22 m23 m24 m26 m28 m31 m32 m35 m37 m40 m41 m44 (xs 1) (xs 2)) (cwV 2 hts (gV tw_1497 tw_1498 tw_1499 tw_15 tw_1500) rfl rfl rfl (by decide +kernel) ⟨Nat.le_of_ble_eq_true rfl, Nat.le_of_ble_eq_true rfl⟩) (preV hP hD hK hSD hS hA [0, 1] rfl (by decide) (q := (RX10, TX10, 49)) (ci := 10) (q0 := 0) rfl rfl) rfl rfl hl.1 rfl (lv_room (Nat.le_of_ble_eq_true rfl)) dL_law_621 ⟨Nat.le_of_ble_eq_true rfl, Nat.le_of_ble_eq_true rfl⟩) hP hD hS hA [0, 1] [] rfl rfl (by decide) (by decide) (fun r_4 u_3 H locs hw_4 hP hD hS => ?_)
  have hP : va_P D classes [] H := hP
  have hD : va_D (fun q : Nat => s.heap.size ≤ q) [] := hD
  have hw_4 : r_4 = -1 := hw_4
  subst hw_4
  refine lv_icmp_eq (tgt := 1391) hx hb dL_law_624 (by decide) (fun _ => ?_) (fun c9 => absurd (by decide) c9)
  refine lv_iinc (v := 6) (lv' := [(4, .int 6), (3, .ref o), (2, .ref y), (1, .ref x), (0, .ref b)]) hx hb dL_law_1391 hl (k := 0) rfl (by decide) (by decide) rfl (fun ls hl => ?_)
  refine lv_goto (tgt := 23) hx hb dL_law_1394 (by decide) ?_
  refine lv_iload hx hb dL_law_23 (lv_at hl 0 rfl) ?_
  refine lv_aload_n hx hb dL_law_25 rfl (lv_at hl 4 rfl) ?_
  refine va_slen hx hb hX hbl hbA hS dL_law_26 ?_
  refine tI (y := 6) rfl ?_
  refine lv_bipush (v := 6) hx hb dL_law_27 (by decide) ?_
  refine lv_isub hx hb dL_law_29 ?_
  refine tI (y := 0) (by decide) ?_
  refine lv_icmp_gt (tgt := 1397) hx hb dL_law_30 (by decide) (fun _ => ?_) (fun c9 => absurd (by decide) c9)
  refine lv_iconst (v := 1) hx hb dL_law_1397 (by decide) ?_
  refine va_forget (fun q hq => hS.2.2 q hq) ?_
  refine W.widen (k := 600002) (n := 7302232) (Nat.le_of_ble_eq_true rfl) (Nat.le_of_ble_eq_true rfl) ?_
  exact lw_ret hx hb hr hlocks dL_law_1398
set_option maxHeartbeats 4000000 in
set_option maxRecDepth 100000 in
theorem op11 {p : Program} {e : Env} {s : State} {m : MethodId} {below : List Frame} {meth : Method} {c : Code} (l : Launch) {b : Nat} {xs : Nat → Int32} (hx : p.tables.exec = Jvm.exec) (hb : c.code = code) (hr : meth.sig.returnType = ret) (hlocks : meth.locks = false) (hml : c.maxLocals = 7) (hown : s.vm.findClass RL = some m.cls) (hts : ∀ w ∈ gT, w.before #[Value.ref b] s = true) (hX : va_X b 6 xs s s.heap) (hbl : b < s.heap.size) (D : va_G) (cy : Nat → ClassId) (z : Nat → Nat) (hK : va_K D classes (TY cy) s) (hSD : SD z (fun q : Nat => s.heap.size ≤ q) s) (x : Nat) (kq1 : Nat) (kq7 : Nat) (kq13 : Nat) (kq18 : Nat) (kq23 : Nat) (kq24 : Nat) (kq28 : Nat) (kq31 : Nat) (kq32 : Nat) (kq33 : Nat) (kq34 : Nat) (kq35 : Nat) (kq36 : Nat) (kq39 : Nat) (kq40 : Nat) (kq41 : Nat) (kq42 : Nat) (kq43 : Nat) (kq44 : Nat) (kq45 : Nat) (kq46 : Nat) (kq47 : Nat) (kq48 : Nat) (kq49 : Nat) (kq62 : Nat) (kq78 : Nat) (y : Nat) (m1 : Nat) (m14 : Nat) (m15 : Nat) (m16 : Nat) (m17 : Nat) (m18 : Nat) (m19 : Nat) (m20 : Nat) (m21 : Nat) (m22 : Nat) (m23 : Nat) (m24 : Nat) (m26 : Nat) (m28 : Nat) (m31 : Nat) (m32 : Nat) (m35 : Nat) (m37 : Nat) (m40 : Nat) (m41 : Nat) (m44 : Nat) (o : Nat) {H : Heap} {locs : List Loc} (hP : va_P D classes [(x, .inr (9, [.ref kq1, .ref kq36, .ref kq49, .ref kq62, .ref kq78, .null, .ref kq7, .ref kq13, .ref kq18, .ref kq23, .ref kq24, .int 0, .int (-1), .int (-1), .int (-1)])), (kq28, .inr (3, [.ref kq31, .ref kq32, .ref kq33, .ref kq34, .ref kq35, .int 0, .int 5, .int 0, .int 0])), (kq32, .inl (cy 1, 4, .inl (fun _ => 0))), (kq36, .inr (8, [.ref kq28, .int 0, .ref kq39, .ref kq40, .ref kq41, .ref kq42, .ref kq43, .ref kq44, .ref kq45, .ref kq46, .ref kq47, .ref kq48, .int 0])), (y, .inr (10, [.int 0, .ref m1, .int 0, .int 0, .int 0, .int 0, .int 0, .int 0, .int 0, .int 0, .int 0, .int 0, .long 0, .int 0, .ref m14, .ref m15, .ref m16, .ref m17, .ref m18, .ref m19, .ref m20, .ref m21, .ref m22, .ref m23, .ref m24, .int 0, .ref m26, .int (-1), .ref m28, .int (-1), .int (-1), .ref m31, .ref m32, .int 0, .int 0, .ref m35, .int 0, .ref m37, .int 0, .int 0, .ref m40, .ref m41, .int 0, .int 0, .ref m44, .int 0, .int 0, .int 0, .int 0])), (m14, .inl (cy 1, 414, .inl NW))] H) (hD : va_D (fun q : Nat => s.heap.size ≤ q) [(x, .inr (9, [.ref kq1, .ref kq36, .ref kq49, .ref kq62, .ref kq78, .null, .ref kq7, .ref kq13, .ref kq18, .ref kq23, .ref kq24, .int 0, .int (-1), .int (-1), .int (-1)])), (kq28, .inr (3, [.ref kq31, .ref kq32, .ref kq33, .ref kq34, .ref kq35, .int 0, .int 5, .int 0, .int 0])), (kq32, .inl (cy 1, 4, .inl (fun _ => 0))), (kq36, .inr (8, [.ref kq28, .int 0, .ref kq39, .ref kq40, .ref kq41, .ref kq42, .ref kq43, .ref kq44, .ref kq45, .ref kq46, .ref kq47, .ref kq48, .int 0])), (y, .inr (10, [.int 0, .ref m1, .int 0, .int 0, .int 0, .int 0, .int 0, .int 0, .int 0, .int 0, .int 0, .int 0, .long 0, .int 0, .ref m14, .ref m15, .ref m16, .ref m17, .ref m18, .ref m19, .ref m20, .ref m21, .ref m22, .ref m23, .ref m24, .int 0, .ref m26, .int (-1), .ref m28, .int (-1), .int (-1), .ref m31, .ref m32, .int 0, .int 0, .ref m35, .int 0, .ref m37, .int 0, .int 0, .ref m40, .ref m41, .int 0, .int 0, .ref m44, .int 0, .int 0, .int 0, .int 0])), (m14, .inl (cy 1, 414, .inl NW))]) (hS : va_S (fun q : Nat => s.heap.size ≤ q) s.heap H locs) {ls : Array Slot} (hl : lv_has ls 7 [(4, .int 0), (3, .ref o), (2, .ref y), (1, .ref x), (0, .ref b)]) : W p l e room_1 s m #[Value.ref b] below meth c H locs 192 6460 (lw_Z below #[Value.ref b] s) (F0 m 629 ls []) := by
  have hA : ∀ q : Nat, s.heap.size ≤ q → (fun q : Nat => s.heap.size ≤ q) q := fun _ h => h
  have hbA : ¬ (fun q : Nat => s.heap.size ≤ q) b := Nat.not_le.mpr hbl
  refine lv_aload_n hx hb dL_law_629 rfl (lv_at hl 3 rfl) ?_
  refine lv_aload_n hx hb dL_law_630 rfl (lv_at hl 4 rfl) ?_
  refine lv_iload hx hb dL_law_631 (lv_at hl 0 rfl) ?_
  refine lv_iconst (v := 1) hx hb dL_law_633 (by decide) ?_
  refine lv_iadd hx hb dL_law_634 ?_
  refine tI (y := 1) (by decide) ?_
  refine va_sld hx hb hX hbl hbA hS (vp_in_nI (n := 1) (N := 6) (by decide) (by decide)) dL_law_635 ?_
  refine tI (y := xs 1) rfl ?_
  refine endi (wr := [(y, .inr (10, [.int 0, .ref m1, .int 0, .int 0, .int 0, .int 0, .int 0, .int 0, .int 0, .int 0, .int 0, .int 0, .long 0, .int 0, .ref m14, .ref m15, .ref m16, .ref m17, .ref m18, .ref m19, .ref m20, .ref m21, .ref m22, .ref m23, .ref m24, .int 0, .ref m26, .int (-1), .ref m28, .int (-1), .int (-1), .ref m31, .ref m32, .int 0, .int 0, .ref m35, .int 0, .ref m37, .int 0, .int 0, .ref m40, .ref m41, .int 0, .int 0, .ref m44, .int 0, .int 0, .int 0, .int 0])), (m14, .inl (cy 1, 414, .inl NW))]) (va_runV (As := [.int (xs 1)]) (rest := []) ⟨hx, hb, hml, hown, hts⟩ (c_X_stand l D cy z H.size x kq1 kq7 kq13 kq18 kq23 kq24 kq28 kq31 kq32 kq33 kq34 kq35 kq36 kq39 kq40 kq41 kq42 kq43 kq44 kq45 kq46 kq47 kq48 kq49 kq62 kq78 (xs 1)) (cwV 1 hts (gV tw_624 tw_625 tw_626 tw_1 tw_627) rfl rfl rfl (by decide +kernel) ⟨Nat.le_of_ble_eq_true rfl, Nat.le_of_ble_eq_true rfl⟩) (preV hP hD hK hSD hS hA [0, 1, 2, 3] rfl (by decide) (q := (RX9, TX9, 15)) (ci := 9) (q0 := 0) rfl rfl) rfl rfl hl.1 rfl (lv_room (Nat.le_of_ble_eq_true rfl)) dL_law_636 ⟨Nat.le_of_ble_eq_true rfl, Nat.le_of_ble_eq_true rfl⟩) hP hD hS hA [0, 1, 2, 3] [4, 5] rfl rfl (by decide) (by decide) (fun r_2 u_1 H locs hw_2 hP hD hS => ?_)
  have hP : va_P D classes [(y, .inr (10, [.int 0, .ref m1, .int 0, .int 0, .int 0, .int 0, .int 0, .int 0, .int 0, .int 0, .int 0, .int 0, .long 0, .int 0, .ref m14, .ref m15, .ref m16, .ref m17, .ref m18, .ref m19, .ref m20, .ref m21, .ref m22, .ref m23, .ref m24, .int 0, .ref m26, .int (-1), .ref m28, .int (-1), .int (-1), .ref m31, .ref m32, .int 0, .int 0, .ref m35, .int 0, .ref m37, .int 0, .int 0, .ref m40, .ref m41, .int 0, .int 0, .ref m44, .int 0, .int 0, .int 0, .int 0])), (m14, .inl (cy 1, 414, .inl NW))] H := hP
  have hD : va_D (fun q : Nat => s.heap.size ≤ q) [(y, .inr (10, [.int 0, .ref m1, .int 0, .int 0, .int 0, .int 0, .int 0, .int 0, .int 0, .int 0, .int 0, .int 0, .long 0, .int 0, .ref m14, .ref m15, .ref m16, .ref m17, .ref m18, .ref m19, .ref m20, .ref m21, .ref m22, .ref m23, .ref m24, .int 0, .ref m26, .int (-1), .ref m28, .int (-1), .int (-1), .ref m31, .ref m32, .int 0, .int 0, .ref m35, .int 0, .ref m37, .int 0, .int 0, .ref m40, .ref m41, .int 0, .int 0, .ref m44, .int 0, .int 0, .int 0, .int 0])), (m14, .inl (cy 1, 414, .inl NW))] := hD
  have hw_2 : r_2 = -1 := hw_2
  subst hw_2
  refine lv_aload_n hx hb dL_law_639 rfl (lv_at hl 2 rfl) ?_
  refine lv_aload_n hx hb dL_law_640 rfl (lv_at hl 4 rfl) ?_
  refine lv_iload hx hb dL_law_641 (lv_at hl 0 rfl) ?_
  refine lv_iconst (v := 1) hx hb dL_law_643 (by decide) ?_
  refine lv_iadd hx hb dL_law_644 ?_
  refine tI (y := 1) (by decide) ?_
  refine va_sld hx hb hX hbl hbA hS (vp_in_nI (n := 1) (N := 6) (by decide) (by decide)) dL_law_645 ?_
  refine tI (y := xs 1) rfl ?_
  refine endi (wr := []) (va_runV (As := [.int (xs 1)]) (rest := [.int (-1)]) ⟨hx, hb, hml, hown, hts⟩ (c_M_stand l D cy z H.size y m1 m14 m15 m16 m17 m18 m19 m20 m21 m22 m23 m24 m26 m28 m31 m32 m35 m37 m40 m41 m44 (xs 1)) (cwV 1 hts (gV tw_1532 tw_1533 tw_1534 tw_15 tw_1535) rfl rfl rfl (by decide +kernel) ⟨Nat.le_of_ble_eq_true rfl, Nat.le_of_ble_eq_true rfl⟩) (preV hP hD hK hSD hS hA [0, 1] rfl (by decide) (q := (RX10, TX10, 49)) (ci := 10) (q0 := 0) rfl rfl) rfl rfl hl.1 rfl (lv_room (Nat.le_of_ble_eq_true rfl)) dL_law_646 ⟨Nat.le_of_ble_eq_true rfl, Nat.le_of_ble_eq_true rfl⟩) hP hD hS hA [0, 1] [] rfl rfl (by decide) (by decide) (fun r_4 u_3 H locs hw_4 hP hD hS => ?_)
  have hP : va_P D classes [] H := hP
  have hD : va_D (fun q : Nat => s.heap.size ≤ q) [] := hD
  have hw_4 : r_4 = -1 := hw_4
  subst hw_4
  refine lv_icmp_eq (tgt := 1391) hx hb dL_law_649 (by decide) (fun _ => ?_) (fun c9 => absurd (by decide) c9)
  refine lv_iinc (v := 6) (lv' := [(4, .int 6), (3, .ref o), (2, .ref y), (1, .ref x), (0, .ref b)]) hx hb dL_law_1391 hl (k := 0) rfl (by decide) (by decide) rfl (fun ls hl => ?_)
  refine lv_goto (tgt := 23) hx hb dL_law_1394 (by decide) ?_
  refine lv_iload hx hb dL_law_23 (lv_at hl 0 rfl) ?_
  refine lv_aload_n hx hb dL_law_25 rfl (lv_at hl 4 rfl) ?_
  refine va_slen hx hb hX hbl hbA hS dL_law_26 ?_
  refine tI (y := 6) rfl ?_
  refine lv_bipush (v := 6) hx hb dL_law_27 (by decide) ?_
  refine lv_isub hx hb dL_law_29 ?_
  refine tI (y := 0) (by decide) ?_
  refine lv_icmp_gt (tgt := 1397) hx hb dL_law_30 (by decide) (fun _ => ?_) (fun c9 => absurd (by decide) c9)
  refine lv_iconst (v := 1) hx hb dL_law_1397 (by decide) ?_
  refine va_forget (fun q hq => hS.2.2 q hq) ?_
  refine W.widen (k := 600002) (n := 7302232) (Nat.le_of_ble_eq_true rfl) (Nat.le_of_ble_eq_true rfl) ?_
  exact lw_ret hx hb hr hlocks dL_law_1398
set_option maxHeartbeats 4000000 in
set_option maxRecDepth 100000 in
theorem op12 {p : Program} {e : Env} {s : State} {m : MethodId} {below : List Frame} {meth : Method} {c : Code} (l : Launch) {b : Nat} {xs : Nat → Int32} (hx : p.tables.exec = Jvm.exec) (hb : c.code = code) (hr : meth.sig.returnType = ret) (hlocks : meth.locks = false) (hml : c.maxLocals = 7) (hown : s.vm.findClass RL = some m.cls) (hts : ∀ w ∈ gT, w.before #[Value.ref b] s = true) (hX : va_X b 6 xs s s.heap) (hbl : b < s.heap.size) (D : va_G) (cy : Nat → ClassId) (z : Nat → Nat) (hK : va_K D classes (TY cy) s) (hSD : SD z (fun q : Nat => s.heap.size ≤ q) s) (x : Nat) (kq1 : Nat) (kq7 : Nat) (kq13 : Nat) (kq18 : Nat) (kq23 : Nat) (kq24 : Nat) (kq28 : Nat) (kq31 : Nat) (kq32 : Nat) (kq33 : Nat) (kq34 : Nat) (kq35 : Nat) (kq36 : Nat) (kq39 : Nat) (kq40 : Nat) (kq41 : Nat) (kq42 : Nat) (kq43 : Nat) (kq44 : Nat) (kq45 : Nat) (kq46 : Nat) (kq47 : Nat) (kq48 : Nat) (kq49 : Nat) (kq62 : Nat) (kq78 : Nat) (y : Nat) (m1 : Nat) (m14 : Nat) (m15 : Nat) (m16 : Nat) (m17 : Nat) (m18 : Nat) (m19 : Nat) (m20 : Nat) (m21 : Nat) (m22 : Nat) (m23 : Nat) (m24 : Nat) (m26 : Nat) (m28 : Nat) (m31 : Nat) (m32 : Nat) (m35 : Nat) (m37 : Nat) (m40 : Nat) (m41 : Nat) (m44 : Nat) (o : Nat) {H : Heap} {locs : List Loc} (hP : va_P D classes [(x, .inr (9, [.ref kq1, .ref kq36, .ref kq49, .ref kq62, .ref kq78, .null, .ref kq7, .ref kq13, .ref kq18, .ref kq23, .ref kq24, .int 0, .int (-1), .int (-1), .int (-1)])), (kq28, .inr (3, [.ref kq31, .ref kq32, .ref kq33, .ref kq34, .ref kq35, .int 0, .int 5, .int 0, .int 0])), (kq32, .inl (cy 1, 4, .inl (fun _ => 0))), (kq36, .inr (8, [.ref kq28, .int 0, .ref kq39, .ref kq40, .ref kq41, .ref kq42, .ref kq43, .ref kq44, .ref kq45, .ref kq46, .ref kq47, .ref kq48, .int 0])), (y, .inr (10, [.int 0, .ref m1, .int 0, .int 0, .int 0, .int 0, .int 0, .int 0, .int 0, .int 0, .int 0, .int 0, .long 0, .int 0, .ref m14, .ref m15, .ref m16, .ref m17, .ref m18, .ref m19, .ref m20, .ref m21, .ref m22, .ref m23, .ref m24, .int 0, .ref m26, .int (-1), .ref m28, .int (-1), .int (-1), .ref m31, .ref m32, .int 0, .int 0, .ref m35, .int 0, .ref m37, .int 0, .int 0, .ref m40, .ref m41, .int 0, .int 0, .ref m44, .int 0, .int 0, .int 0, .int 0])), (m14, .inl (cy 1, 414, .inl NW))] H) (hD : va_D (fun q : Nat => s.heap.size ≤ q) [(x, .inr (9, [.ref kq1, .ref kq36, .ref kq49, .ref kq62, .ref kq78, .null, .ref kq7, .ref kq13, .ref kq18, .ref kq23, .ref kq24, .int 0, .int (-1), .int (-1), .int (-1)])), (kq28, .inr (3, [.ref kq31, .ref kq32, .ref kq33, .ref kq34, .ref kq35, .int 0, .int 5, .int 0, .int 0])), (kq32, .inl (cy 1, 4, .inl (fun _ => 0))), (kq36, .inr (8, [.ref kq28, .int 0, .ref kq39, .ref kq40, .ref kq41, .ref kq42, .ref kq43, .ref kq44, .ref kq45, .ref kq46, .ref kq47, .ref kq48, .int 0])), (y, .inr (10, [.int 0, .ref m1, .int 0, .int 0, .int 0, .int 0, .int 0, .int 0, .int 0, .int 0, .int 0, .int 0, .long 0, .int 0, .ref m14, .ref m15, .ref m16, .ref m17, .ref m18, .ref m19, .ref m20, .ref m21, .ref m22, .ref m23, .ref m24, .int 0, .ref m26, .int (-1), .ref m28, .int (-1), .int (-1), .ref m31, .ref m32, .int 0, .int 0, .ref m35, .int 0, .ref m37, .int 0, .int 0, .ref m40, .ref m41, .int 0, .int 0, .ref m44, .int 0, .int 0, .int 0, .int 0])), (m14, .inl (cy 1, 414, .inl NW))]) (hS : va_S (fun q : Nat => s.heap.size ≤ q) s.heap H locs) {ls : Array Slot} (hl : lv_has ls 7 [(4, .int 0), (3, .ref o), (2, .ref y), (1, .ref x), (0, .ref b)]) : W p l e room_1 s m #[Value.ref b] below meth c H locs 192 6460 (lw_Z below #[Value.ref b] s) (F0 m 654 ls []) := by
  have hA : ∀ q : Nat, s.heap.size ≤ q → (fun q : Nat => s.heap.size ≤ q) q := fun _ h => h
  have hbA : ¬ (fun q : Nat => s.heap.size ≤ q) b := Nat.not_le.mpr hbl
  refine lv_aload_n hx hb dL_law_654 rfl (lv_at hl 3 rfl) ?_
  refine lv_aload_n hx hb dL_law_655 rfl (lv_at hl 4 rfl) ?_
  refine lv_iload hx hb dL_law_656 (lv_at hl 0 rfl) ?_
  refine lv_iconst (v := 1) hx hb dL_law_658 (by decide) ?_
  refine lv_iadd hx hb dL_law_659 ?_
  refine tI (y := 1) (by decide) ?_
  refine va_sld hx hb hX hbl hbA hS (vp_in_nI (n := 1) (N := 6) (by decide) (by decide)) dL_law_660 ?_
  refine tI (y := xs 1) rfl ?_
  refine lv_aload_n hx hb dL_law_661 rfl (lv_at hl 4 rfl) ?_
  refine lv_iload hx hb dL_law_662 (lv_at hl 0 rfl) ?_
  refine lv_iconst (v := 2) hx hb dL_law_664 (by decide) ?_
  refine lv_iadd hx hb dL_law_665 ?_
  refine tI (y := 2) (by decide) ?_
  refine va_sld hx hb hX hbl hbA hS (vp_in_nI (n := 2) (N := 6) (by decide) (by decide)) dL_law_666 ?_
  refine tI (y := xs 2) rfl ?_
  refine endi (wr := [(y, .inr (10, [.int 0, .ref m1, .int 0, .int 0, .int 0, .int 0, .int 0, .int 0, .int 0, .int 0, .int 0, .int 0, .long 0, .int 0, .ref m14, .ref m15, .ref m16, .ref m17, .ref m18, .ref m19, .ref m20, .ref m21, .ref m22, .ref m23, .ref m24, .int 0, .ref m26, .int (-1), .ref m28, .int (-1), .int (-1), .ref m31, .ref m32, .int 0, .int 0, .ref m35, .int 0, .ref m37, .int 0, .int 0, .ref m40, .ref m41, .int 0, .int 0, .ref m44, .int 0, .int 0, .int 0, .int 0])), (m14, .inl (cy 1, 414, .inl NW))]) (va_runV (As := [.int (xs 1), .int (xs 2)]) (rest := []) ⟨hx, hb, hml, hown, hts⟩ (c_X_wish l D cy z H.size x kq1 kq7 kq13 kq18 kq23 kq24 kq28 kq31 kq32 kq33 kq34 kq35 kq36 kq39 kq40 kq41 kq42 kq43 kq44 kq45 kq46 kq47 kq48 kq49 kq62 kq78 (xs 1) (xs 2)) (cwV 2 hts (gV tw_632 tw_633 tw_634 tw_1 tw_635) rfl rfl rfl (by decide +kernel) ⟨Nat.le_of_ble_eq_true rfl, Nat.le_of_ble_eq_true rfl⟩) (preV hP hD hK hSD hS hA [0, 1, 2, 3] rfl (by decide) (q := (RX9, TX9, 15)) (ci := 9) (q0 := 0) rfl rfl) rfl rfl hl.1 rfl (lv_room (Nat.le_of_ble_eq_true rfl)) dL_law_667 ⟨Nat.le_of_ble_eq_true rfl, Nat.le_of_ble_eq_true rfl⟩) hP hD hS hA [0, 1, 2, 3] [4, 5] rfl rfl (by decide) (by decide) (fun r_2 u_1 H locs hw_2 hP hD hS => ?_)
  have hP : va_P D classes [(y, .inr (10, [.int 0, .ref m1, .int 0, .int 0, .int 0, .int 0, .int 0, .int 0, .int 0, .int 0, .int 0, .int 0, .long 0, .int 0, .ref m14, .ref m15, .ref m16, .ref m17, .ref m18, .ref m19, .ref m20, .ref m21, .ref m22, .ref m23, .ref m24, .int 0, .ref m26, .int (-1), .ref m28, .int (-1), .int (-1), .ref m31, .ref m32, .int 0, .int 0, .ref m35, .int 0, .ref m37, .int 0, .int 0, .ref m40, .ref m41, .int 0, .int 0, .ref m44, .int 0, .int 0, .int 0, .int 0])), (m14, .inl (cy 1, 414, .inl NW))] H := hP
  have hD : va_D (fun q : Nat => s.heap.size ≤ q) [(y, .inr (10, [.int 0, .ref m1, .int 0, .int 0, .int 0, .int 0, .int 0, .int 0, .int 0, .int 0, .int 0, .int 0, .long 0, .int 0, .ref m14, .ref m15, .ref m16, .ref m17, .ref m18, .ref m19, .ref m20, .ref m21, .ref m22, .ref m23, .ref m24, .int 0, .ref m26, .int (-1), .ref m28, .int (-1), .int (-1), .ref m31, .ref m32, .int 0, .int 0, .ref m35, .int 0, .ref m37, .int 0, .int 0, .ref m40, .ref m41, .int 0, .int 0, .ref m44, .int 0, .int 0, .int 0, .int 0])), (m14, .inl (cy 1, 414, .inl NW))] := hD
  have hw_2 : r_2 = -1 := hw_2
  subst hw_2
  refine lv_aload_n hx hb dL_law_670 rfl (lv_at hl 2 rfl) ?_
  refine lv_aload_n hx hb dL_law_671 rfl (lv_at hl 4 rfl) ?_
  refine lv_iload hx hb dL_law_672 (lv_at hl 0 rfl) ?_
  refine lv_iconst (v := 1) hx hb dL_law_674 (by decide) ?_
  refine lv_iadd hx hb dL_law_675 ?_
  refine tI (y := 1) (by decide) ?_
  refine va_sld hx hb hX hbl hbA hS (vp_in_nI (n := 1) (N := 6) (by decide) (by decide)) dL_law_676 ?_
  refine tI (y := xs 1) rfl ?_
  refine lv_aload_n hx hb dL_law_677 rfl (lv_at hl 4 rfl) ?_
  refine lv_iload hx hb dL_law_678 (lv_at hl 0 rfl) ?_
  refine lv_iconst (v := 2) hx hb dL_law_680 (by decide) ?_
  refine lv_iadd hx hb dL_law_681 ?_
  refine tI (y := 2) (by decide) ?_
  refine va_sld hx hb hX hbl hbA hS (vp_in_nI (n := 2) (N := 6) (by decide) (by decide)) dL_law_682 ?_
  refine tI (y := xs 2) rfl ?_
  refine endi (wr := []) (va_runV (As := [.int (xs 1), .int (xs 2)]) (rest := [.int (-1)]) ⟨hx, hb, hml, hown, hts⟩ (c_M_wish l D cy z H.size y m1 m14 m15 m16 m17 m18 m19 m20 m21 m22 m23 m24 m26 m28 m31 m32 m35 m37 m40 m41 m44 (xs 1) (xs 2)) (cwV 2 hts (gV tw_1536 tw_1537 tw_1538 tw_15 tw_1539) rfl rfl rfl (by decide +kernel) ⟨Nat.le_of_ble_eq_true rfl, Nat.le_of_ble_eq_true rfl⟩) (preV hP hD hK hSD hS hA [0, 1] rfl (by decide) (q := (RX10, TX10, 49)) (ci := 10) (q0 := 0) rfl rfl) rfl rfl hl.1 rfl (lv_room (Nat.le_of_ble_eq_true rfl)) dL_law_683 ⟨Nat.le_of_ble_eq_true rfl, Nat.le_of_ble_eq_true rfl⟩) hP hD hS hA [0, 1] [] rfl rfl (by decide) (by decide) (fun r_4 u_3 H locs hw_4 hP hD hS => ?_)
  have hP : va_P D classes [] H := hP
  have hD : va_D (fun q : Nat => s.heap.size ≤ q) [] := hD
  have hw_4 : r_4 = -1 := hw_4
  subst hw_4
  refine lv_icmp_eq (tgt := 1391) hx hb dL_law_686 (by decide) (fun _ => ?_) (fun c9 => absurd (by decide) c9)
  refine lv_iinc (v := 6) (lv' := [(4, .int 6), (3, .ref o), (2, .ref y), (1, .ref x), (0, .ref b)]) hx hb dL_law_1391 hl (k := 0) rfl (by decide) (by decide) rfl (fun ls hl => ?_)
  refine lv_goto (tgt := 23) hx hb dL_law_1394 (by decide) ?_
  refine lv_iload hx hb dL_law_23 (lv_at hl 0 rfl) ?_
  refine lv_aload_n hx hb dL_law_25 rfl (lv_at hl 4 rfl) ?_
  refine va_slen hx hb hX hbl hbA hS dL_law_26 ?_
  refine tI (y := 6) rfl ?_
  refine lv_bipush (v := 6) hx hb dL_law_27 (by decide) ?_
  refine lv_isub hx hb dL_law_29 ?_
  refine tI (y := 0) (by decide) ?_
  refine lv_icmp_gt (tgt := 1397) hx hb dL_law_30 (by decide) (fun _ => ?_) (fun c9 => absurd (by decide) c9)
  refine lv_iconst (v := 1) hx hb dL_law_1397 (by decide) ?_
  refine va_forget (fun q hq => hS.2.2 q hq) ?_
  refine W.widen (k := 600002) (n := 7302232) (Nat.le_of_ble_eq_true rfl) (Nat.le_of_ble_eq_true rfl) ?_
  exact lw_ret hx hb hr hlocks dL_law_1398
set_option maxHeartbeats 4000000 in
set_option maxRecDepth 100000 in
theorem op13 {p : Program} {e : Env} {s : State} {m : MethodId} {below : List Frame} {meth : Method} {c : Code} (l : Launch) {b : Nat} {xs : Nat → Int32} (hx : p.tables.exec = Jvm.exec) (hb : c.code = code) (hr : meth.sig.returnType = ret) (hlocks : meth.locks = false) (hml : c.maxLocals = 7) (hown : s.vm.findClass RL = some m.cls) (hts : ∀ w ∈ gT, w.before #[Value.ref b] s = true) (hX : va_X b 6 xs s s.heap) (hbl : b < s.heap.size) (D : va_G) (cy : Nat → ClassId) (z : Nat → Nat) (hK : va_K D classes (TY cy) s) (hSD : SD z (fun q : Nat => s.heap.size ≤ q) s) (x : Nat) (kq1 : Nat) (kq7 : Nat) (kq13 : Nat) (kq18 : Nat) (kq23 : Nat) (kq24 : Nat) (kq28 : Nat) (kq31 : Nat) (kq32 : Nat) (kq33 : Nat) (kq34 : Nat) (kq35 : Nat) (kq36 : Nat) (kq39 : Nat) (kq40 : Nat) (kq41 : Nat) (kq42 : Nat) (kq43 : Nat) (kq44 : Nat) (kq45 : Nat) (kq46 : Nat) (kq47 : Nat) (kq48 : Nat) (kq49 : Nat) (kq62 : Nat) (kq78 : Nat) (y : Nat) (m1 : Nat) (m14 : Nat) (m15 : Nat) (m16 : Nat) (m17 : Nat) (m18 : Nat) (m19 : Nat) (m20 : Nat) (m21 : Nat) (m22 : Nat) (m23 : Nat) (m24 : Nat) (m26 : Nat) (m28 : Nat) (m31 : Nat) (m32 : Nat) (m35 : Nat) (m37 : Nat) (m40 : Nat) (m41 : Nat) (m44 : Nat) (o : Nat) {H : Heap} {locs : List Loc} (hP : va_P D classes [(x, .inr (9, [.ref kq1, .ref kq36, .ref kq49, .ref kq62, .ref kq78, .null, .ref kq7, .ref kq13, .ref kq18, .ref kq23, .ref kq24, .int 0, .int (-1), .int (-1), .int (-1)])), (kq28, .inr (3, [.ref kq31, .ref kq32, .ref kq33, .ref kq34, .ref kq35, .int 0, .int 5, .int 0, .int 0])), (kq32, .inl (cy 1, 4, .inl (fun _ => 0))), (kq36, .inr (8, [.ref kq28, .int 0, .ref kq39, .ref kq40, .ref kq41, .ref kq42, .ref kq43, .ref kq44, .ref kq45, .ref kq46, .ref kq47, .ref kq48, .int 0])), (y, .inr (10, [.int 0, .ref m1, .int 0, .int 0, .int 0, .int 0, .int 0, .int 0, .int 0, .int 0, .int 0, .int 0, .long 0, .int 0, .ref m14, .ref m15, .ref m16, .ref m17, .ref m18, .ref m19, .ref m20, .ref m21, .ref m22, .ref m23, .ref m24, .int 0, .ref m26, .int (-1), .ref m28, .int (-1), .int (-1), .ref m31, .ref m32, .int 0, .int 0, .ref m35, .int 0, .ref m37, .int 0, .int 0, .ref m40, .ref m41, .int 0, .int 0, .ref m44, .int 0, .int 0, .int 0, .int 0])), (m14, .inl (cy 1, 414, .inl NW))] H) (hD : va_D (fun q : Nat => s.heap.size ≤ q) [(x, .inr (9, [.ref kq1, .ref kq36, .ref kq49, .ref kq62, .ref kq78, .null, .ref kq7, .ref kq13, .ref kq18, .ref kq23, .ref kq24, .int 0, .int (-1), .int (-1), .int (-1)])), (kq28, .inr (3, [.ref kq31, .ref kq32, .ref kq33, .ref kq34, .ref kq35, .int 0, .int 5, .int 0, .int 0])), (kq32, .inl (cy 1, 4, .inl (fun _ => 0))), (kq36, .inr (8, [.ref kq28, .int 0, .ref kq39, .ref kq40, .ref kq41, .ref kq42, .ref kq43, .ref kq44, .ref kq45, .ref kq46, .ref kq47, .ref kq48, .int 0])), (y, .inr (10, [.int 0, .ref m1, .int 0, .int 0, .int 0, .int 0, .int 0, .int 0, .int 0, .int 0, .int 0, .int 0, .long 0, .int 0, .ref m14, .ref m15, .ref m16, .ref m17, .ref m18, .ref m19, .ref m20, .ref m21, .ref m22, .ref m23, .ref m24, .int 0, .ref m26, .int (-1), .ref m28, .int (-1), .int (-1), .ref m31, .ref m32, .int 0, .int 0, .ref m35, .int 0, .ref m37, .int 0, .int 0, .ref m40, .ref m41, .int 0, .int 0, .ref m44, .int 0, .int 0, .int 0, .int 0])), (m14, .inl (cy 1, 414, .inl NW))]) (hS : va_S (fun q : Nat => s.heap.size ≤ q) s.heap H locs) {ls : Array Slot} (hl : lv_has ls 7 [(4, .int 0), (3, .ref o), (2, .ref y), (1, .ref x), (0, .ref b)]) : W p l e room_1 s m #[Value.ref b] below meth c H locs 192 6460 (lw_Z below #[Value.ref b] s) (F0 m 691 ls []) := by
  have hA : ∀ q : Nat, s.heap.size ≤ q → (fun q : Nat => s.heap.size ≤ q) q := fun _ h => h
  have hbA : ¬ (fun q : Nat => s.heap.size ≤ q) b := Nat.not_le.mpr hbl
  refine lv_aload_n hx hb dL_law_691 rfl (lv_at hl 3 rfl) ?_
  refine lv_aload_n hx hb dL_law_692 rfl (lv_at hl 4 rfl) ?_
  refine lv_iload hx hb dL_law_693 (lv_at hl 0 rfl) ?_
  refine lv_iconst (v := 1) hx hb dL_law_695 (by decide) ?_
  refine lv_iadd hx hb dL_law_696 ?_
  refine tI (y := 1) (by decide) ?_
  refine va_sld hx hb hX hbl hbA hS (vp_in_nI (n := 1) (N := 6) (by decide) (by decide)) dL_law_697 ?_
  refine tI (y := xs 1) rfl ?_
  refine lv_aload_n hx hb dL_law_698 rfl (lv_at hl 4 rfl) ?_
  refine lv_iload hx hb dL_law_699 (lv_at hl 0 rfl) ?_
  refine lv_iconst (v := 2) hx hb dL_law_701 (by decide) ?_
  refine lv_iadd hx hb dL_law_702 ?_
  refine tI (y := 2) (by decide) ?_
  refine va_sld hx hb hX hbl hbA hS (vp_in_nI (n := 2) (N := 6) (by decide) (by decide)) dL_law_703 ?_
  refine tI (y := xs 2) rfl ?_
  refine endi (wr := [(y, .inr (10, [.int 0, .ref m1, .int 0, .int 0, .int 0, .int 0, .int 0, .int 0, .int 0, .int 0, .int 0, .int 0, .long 0, .int 0, .ref m14, .ref m15, .ref m16, .ref m17, .ref m18, .ref m19, .ref m20, .ref m21, .ref m22, .ref m23, .ref m24, .int 0, .ref m26, .int (-1), .ref m28, .int (-1), .int (-1), .ref m31, .ref m32, .int 0, .int 0, .ref m35, .int 0, .ref m37, .int 0, .int 0, .ref m40, .ref m41, .int 0, .int 0, .ref m44, .int 0, .int 0, .int 0, .int 0])), (m14, .inl (cy 1, 414, .inl NW))]) (va_runV (As := [.int (xs 1), .int (xs 2)]) (rest := []) ⟨hx, hb, hml, hown, hts⟩ (c_X_guess l D cy z H.size x kq1 kq7 kq13 kq18 kq23 kq24 kq28 kq31 kq32 kq33 kq34 kq35 kq36 kq39 kq40 kq41 kq42 kq43 kq44 kq45 kq46 kq47 kq48 kq49 kq62 kq78 (xs 1) (xs 2)) (cwV 2 hts (gV tw_640 tw_641 tw_642 tw_1 tw_643) rfl rfl rfl (by decide +kernel) ⟨Nat.le_of_ble_eq_true rfl, Nat.le_of_ble_eq_true rfl⟩) (preV hP hD hK hSD hS hA [0, 1, 2, 3] rfl (by decide) (q := (RX9, TX9, 15)) (ci := 9) (q0 := 0) rfl rfl) rfl rfl hl.1 rfl (lv_room (Nat.le_of_ble_eq_true rfl)) dL_law_704 ⟨Nat.le_of_ble_eq_true rfl, Nat.le_of_ble_eq_true rfl⟩) hP hD hS hA [0, 1, 2, 3] [4, 5] rfl rfl (by decide) (by decide) (fun r_2 u_1 H locs hw_2 hP hD hS => ?_)
  have hP : va_P D classes [(y, .inr (10, [.int 0, .ref m1, .int 0, .int 0, .int 0, .int 0, .int 0, .int 0, .int 0, .int 0, .int 0, .int 0, .long 0, .int 0, .ref m14, .ref m15, .ref m16, .ref m17, .ref m18, .ref m19, .ref m20, .ref m21, .ref m22, .ref m23, .ref m24, .int 0, .ref m26, .int (-1), .ref m28, .int (-1), .int (-1), .ref m31, .ref m32, .int 0, .int 0, .ref m35, .int 0, .ref m37, .int 0, .int 0, .ref m40, .ref m41, .int 0, .int 0, .ref m44, .int 0, .int 0, .int 0, .int 0])), (m14, .inl (cy 1, 414, .inl NW))] H := hP
  have hD : va_D (fun q : Nat => s.heap.size ≤ q) [(y, .inr (10, [.int 0, .ref m1, .int 0, .int 0, .int 0, .int 0, .int 0, .int 0, .int 0, .int 0, .int 0, .int 0, .long 0, .int 0, .ref m14, .ref m15, .ref m16, .ref m17, .ref m18, .ref m19, .ref m20, .ref m21, .ref m22, .ref m23, .ref m24, .int 0, .ref m26, .int (-1), .ref m28, .int (-1), .int (-1), .ref m31, .ref m32, .int 0, .int 0, .ref m35, .int 0, .ref m37, .int 0, .int 0, .ref m40, .ref m41, .int 0, .int 0, .ref m44, .int 0, .int 0, .int 0, .int 0])), (m14, .inl (cy 1, 414, .inl NW))] := hD
  have hw_2 : r_2 = -1 := hw_2
  subst hw_2
  refine lv_aload_n hx hb dL_law_707 rfl (lv_at hl 2 rfl) ?_
  refine lv_aload_n hx hb dL_law_708 rfl (lv_at hl 4 rfl) ?_
  refine lv_iload hx hb dL_law_709 (lv_at hl 0 rfl) ?_
  refine lv_iconst (v := 1) hx hb dL_law_711 (by decide) ?_
  refine lv_iadd hx hb dL_law_712 ?_
  refine tI (y := 1) (by decide) ?_
  refine va_sld hx hb hX hbl hbA hS (vp_in_nI (n := 1) (N := 6) (by decide) (by decide)) dL_law_713 ?_
  refine tI (y := xs 1) rfl ?_
  refine lv_aload_n hx hb dL_law_714 rfl (lv_at hl 4 rfl) ?_
  refine lv_iload hx hb dL_law_715 (lv_at hl 0 rfl) ?_
  refine lv_iconst (v := 2) hx hb dL_law_717 (by decide) ?_
  refine lv_iadd hx hb dL_law_718 ?_
  refine tI (y := 2) (by decide) ?_
  refine va_sld hx hb hX hbl hbA hS (vp_in_nI (n := 2) (N := 6) (by decide) (by decide)) dL_law_719 ?_
  refine tI (y := xs 2) rfl ?_
  refine endi (wr := []) (va_runV (As := [.int (xs 1), .int (xs 2)]) (rest := [.int (-1)]) ⟨hx, hb, hml, hown, hts⟩ (c_M_guess l D cy z H.size y m1 m14 m15 m16 m17 m18 m19 m20 m21 m22 m23 m24 m26 m28 m31 m32 m35 m37 m40 m41 m44 (xs 1) (xs 2)) (cwV 2 hts (gV tw_1540 tw_1541 tw_1542 tw_15 tw_1543) rfl rfl rfl (by decide +kernel) ⟨Nat.le_of_ble_eq_true rfl, Nat.le_of_ble_eq_true rfl⟩) (preV hP hD hK hSD hS hA [0, 1] rfl (by decide) (q := (RX10, TX10, 49)) (ci := 10) (q0 := 0) rfl rfl) rfl rfl hl.1 rfl (lv_room (Nat.le_of_ble_eq_true rfl)) dL_law_720 ⟨Nat.le_of_ble_eq_true rfl, Nat.le_of_ble_eq_true rfl⟩) hP hD hS hA [0, 1] [] rfl rfl (by decide) (by decide) (fun r_4 u_3 H locs hw_4 hP hD hS => ?_)
  have hP : va_P D classes [] H := hP
  have hD : va_D (fun q : Nat => s.heap.size ≤ q) [] := hD
  have hw_4 : r_4 = -1 := hw_4
  subst hw_4
  refine lv_icmp_eq (tgt := 1391) hx hb dL_law_723 (by decide) (fun _ => ?_) (fun c9 => absurd (by decide) c9)
  refine lv_iinc (v := 6) (lv' := [(4, .int 6), (3, .ref o), (2, .ref y), (1, .ref x), (0, .ref b)]) hx hb dL_law_1391 hl (k := 0) rfl (by decide) (by decide) rfl (fun ls hl => ?_)
  refine lv_goto (tgt := 23) hx hb dL_law_1394 (by decide) ?_
  refine lv_iload hx hb dL_law_23 (lv_at hl 0 rfl) ?_
  refine lv_aload_n hx hb dL_law_25 rfl (lv_at hl 4 rfl) ?_
  refine va_slen hx hb hX hbl hbA hS dL_law_26 ?_
  refine tI (y := 6) rfl ?_
  refine lv_bipush (v := 6) hx hb dL_law_27 (by decide) ?_
  refine lv_isub hx hb dL_law_29 ?_
  refine tI (y := 0) (by decide) ?_
  refine lv_icmp_gt (tgt := 1397) hx hb dL_law_30 (by decide) (fun _ => ?_) (fun c9 => absurd (by decide) c9)
  refine lv_iconst (v := 1) hx hb dL_law_1397 (by decide) ?_
  refine va_forget (fun q hq => hS.2.2 q hq) ?_
  refine W.widen (k := 600002) (n := 7302232) (Nat.le_of_ble_eq_true rfl) (Nat.le_of_ble_eq_true rfl) ?_
  exact lw_ret hx hb hr hlocks dL_law_1398
set_option maxHeartbeats 4000000 in
set_option maxRecDepth 100000 in
theorem op14 {p : Program} {e : Env} {s : State} {m : MethodId} {below : List Frame} {meth : Method} {c : Code} (l : Launch) {b : Nat} {xs : Nat → Int32} (hx : p.tables.exec = Jvm.exec) (hb : c.code = code) (hr : meth.sig.returnType = ret) (hlocks : meth.locks = false) (hml : c.maxLocals = 7) (hown : s.vm.findClass RL = some m.cls) (hts : ∀ w ∈ gT, w.before #[Value.ref b] s = true) (hX : va_X b 6 xs s s.heap) (hbl : b < s.heap.size) (D : va_G) (cy : Nat → ClassId) (z : Nat → Nat) (hK : va_K D classes (TY cy) s) (hSD : SD z (fun q : Nat => s.heap.size ≤ q) s) (x : Nat) (kq1 : Nat) (kq7 : Nat) (kq13 : Nat) (kq18 : Nat) (kq23 : Nat) (kq24 : Nat) (kq28 : Nat) (kq31 : Nat) (kq32 : Nat) (kq33 : Nat) (kq34 : Nat) (kq35 : Nat) (kq36 : Nat) (kq39 : Nat) (kq40 : Nat) (kq41 : Nat) (kq42 : Nat) (kq43 : Nat) (kq44 : Nat) (kq45 : Nat) (kq46 : Nat) (kq47 : Nat) (kq48 : Nat) (kq49 : Nat) (kq62 : Nat) (kq78 : Nat) (y : Nat) (m1 : Nat) (m14 : Nat) (m15 : Nat) (m16 : Nat) (m17 : Nat) (m18 : Nat) (m19 : Nat) (m20 : Nat) (m21 : Nat) (m22 : Nat) (m23 : Nat) (m24 : Nat) (m26 : Nat) (m28 : Nat) (m31 : Nat) (m32 : Nat) (m35 : Nat) (m37 : Nat) (m40 : Nat) (m41 : Nat) (m44 : Nat) (o : Nat) {H : Heap} {locs : List Loc} (hP : va_P D classes [(x, .inr (9, [.ref kq1, .ref kq36, .ref kq49, .ref kq62, .ref kq78, .null, .ref kq7, .ref kq13, .ref kq18, .ref kq23, .ref kq24, .int 0, .int (-1), .int (-1), .int (-1)])), (kq28, .inr (3, [.ref kq31, .ref kq32, .ref kq33, .ref kq34, .ref kq35, .int 0, .int 5, .int 0, .int 0])), (kq32, .inl (cy 1, 4, .inl (fun _ => 0))), (kq36, .inr (8, [.ref kq28, .int 0, .ref kq39, .ref kq40, .ref kq41, .ref kq42, .ref kq43, .ref kq44, .ref kq45, .ref kq46, .ref kq47, .ref kq48, .int 0])), (y, .inr (10, [.int 0, .ref m1, .int 0, .int 0, .int 0, .int 0, .int 0, .int 0, .int 0, .int 0, .int 0, .int 0, .long 0, .int 0, .ref m14, .ref m15, .ref m16, .ref m17, .ref m18, .ref m19, .ref m20, .ref m21, .ref m22, .ref m23, .ref m24, .int 0, .ref m26, .int (-1), .ref m28, .int (-1), .int (-1), .ref m31, .ref m32, .int 0, .int 0, .ref m35, .int 0, .ref m37, .int 0, .int 0, .ref m40, .ref m41, .int 0, .int 0, .ref m44, .int 0, .int 0, .int 0, .int 0])), (m14, .inl (cy 1, 414, .inl NW))] H) (hD : va_D (fun q : Nat => s.heap.size ≤ q) [(x, .inr (9, [.ref kq1, .ref kq36, .ref kq49, .ref kq62, .ref kq78, .null, .ref kq7, .ref kq13, .ref kq18, .ref kq23, .ref kq24, .int 0, .int (-1), .int (-1), .int (-1)])), (kq28, .inr (3, [.ref kq31, .ref kq32, .ref kq33, .ref kq34, .ref kq35, .int 0, .int 5, .int 0, .int 0])), (kq32, .inl (cy 1, 4, .inl (fun _ => 0))), (kq36, .inr (8, [.ref kq28, .int 0, .ref kq39, .ref kq40, .ref kq41, .ref kq42, .ref kq43, .ref kq44, .ref kq45, .ref kq46, .ref kq47, .ref kq48, .int 0])), (y, .inr (10, [.int 0, .ref m1, .int 0, .int 0, .int 0, .int 0, .int 0, .int 0, .int 0, .int 0, .int 0, .int 0, .long 0, .int 0, .ref m14, .ref m15, .ref m16, .ref m17, .ref m18, .ref m19, .ref m20, .ref m21, .ref m22, .ref m23, .ref m24, .int 0, .ref m26, .int (-1), .ref m28, .int (-1), .int (-1), .ref m31, .ref m32, .int 0, .int 0, .ref m35, .int 0, .ref m37, .int 0, .int 0, .ref m40, .ref m41, .int 0, .int 0, .ref m44, .int 0, .int 0, .int 0, .int 0])), (m14, .inl (cy 1, 414, .inl NW))]) (hS : va_S (fun q : Nat => s.heap.size ≤ q) s.heap H locs) {ls : Array Slot} (hl : lv_has ls 7 [(4, .int 0), (3, .ref o), (2, .ref y), (1, .ref x), (0, .ref b)]) : W p l e room_1 s m #[Value.ref b] below meth c H locs 192 6460 (lw_Z below #[Value.ref b] s) (F0 m 728 ls []) := by
  have hA : ∀ q : Nat, s.heap.size ≤ q → (fun q : Nat => s.heap.size ≤ q) q := fun _ h => h
  have hbA : ¬ (fun q : Nat => s.heap.size ≤ q) b := Nat.not_le.mpr hbl
  refine lv_aload_n hx hb dL_law_728 rfl (lv_at hl 3 rfl) ?_
  refine lv_aload_n hx hb dL_law_729 rfl (lv_at hl 4 rfl) ?_
  refine lv_iload hx hb dL_law_730 (lv_at hl 0 rfl) ?_
  refine lv_iconst (v := 1) hx hb dL_law_732 (by decide) ?_
  refine lv_iadd hx hb dL_law_733 ?_
  refine tI (y := 1) (by decide) ?_
  refine va_sld hx hb hX hbl hbA hS (vp_in_nI (n := 1) (N := 6) (by decide) (by decide)) dL_law_734 ?_
  refine tI (y := xs 1) rfl ?_
  refine endi (wr := [(y, .inr (10, [.int 0, .ref m1, .int 0, .int 0, .int 0, .int 0, .int 0, .int 0, .int 0, .int 0, .int 0, .int 0, .long 0, .int 0, .ref m14, .ref m15, .ref m16, .ref m17, .ref m18, .ref m19, .ref m20, .ref m21, .ref m22, .ref m23, .ref m24, .int 0, .ref m26, .int (-1), .ref m28, .int (-1), .int (-1), .ref m31, .ref m32, .int 0, .int 0, .ref m35, .int 0, .ref m37, .int 0, .int 0, .ref m40, .ref m41, .int 0, .int 0, .ref m44, .int 0, .int 0, .int 0, .int 0])), (m14, .inl (cy 1, 414, .inl NW))]) (va_runV (As := [.int (xs 1)]) (rest := []) ⟨hx, hb, hml, hown, hts⟩ (c_X_open l D cy z H.size x kq1 kq7 kq13 kq18 kq23 kq24 kq28 kq31 kq32 kq33 kq34 kq35 kq36 kq39 kq40 kq41 kq42 kq43 kq44 kq45 kq46 kq47 kq48 kq49 kq62 kq78 (xs 1)) (cwV 1 hts (gV tw_657 tw_658 tw_659 tw_1 tw_660) rfl rfl rfl (by decide +kernel) ⟨Nat.le_of_ble_eq_true rfl, Nat.le_of_ble_eq_true rfl⟩) (preV hP hD hK hSD hS hA [0, 1, 2, 3] rfl (by decide) (q := (RX9, TX9, 15)) (ci := 9) (q0 := 0) rfl rfl) rfl rfl hl.1 rfl (lv_room (Nat.le_of_ble_eq_true rfl)) dL_law_735 ⟨Nat.le_of_ble_eq_true rfl, Nat.le_of_ble_eq_true rfl⟩) hP hD hS hA [0, 1, 2, 3] [4, 5] rfl rfl (by decide) (by decide) (fun r_2 u_1 H locs hw_2 hP hD hS => ?_)
  have hP : va_P D classes [(y, .inr (10, [.int 0, .ref m1, .int 0, .int 0, .int 0, .int 0, .int 0, .int 0, .int 0, .int 0, .int 0, .int 0, .long 0, .int 0, .ref m14, .ref m15, .ref m16, .ref m17, .ref m18, .ref m19, .ref m20, .ref m21, .ref m22, .ref m23, .ref m24, .int 0, .ref m26, .int (-1), .ref m28, .int (-1), .int (-1), .ref m31, .ref m32, .int 0, .int 0, .ref m35, .int 0, .ref m37, .int 0, .int 0, .ref m40, .ref m41, .int 0, .int 0, .ref m44, .int 0, .int 0, .int 0, .int 0])), (m14, .inl (cy 1, 414, .inl NW))] H := hP
  have hD : va_D (fun q : Nat => s.heap.size ≤ q) [(y, .inr (10, [.int 0, .ref m1, .int 0, .int 0, .int 0, .int 0, .int 0, .int 0, .int 0, .int 0, .int 0, .int 0, .long 0, .int 0, .ref m14, .ref m15, .ref m16, .ref m17, .ref m18, .ref m19, .ref m20, .ref m21, .ref m22, .ref m23, .ref m24, .int 0, .ref m26, .int (-1), .ref m28, .int (-1), .int (-1), .ref m31, .ref m32, .int 0, .int 0, .ref m35, .int 0, .ref m37, .int 0, .int 0, .ref m40, .ref m41, .int 0, .int 0, .ref m44, .int 0, .int 0, .int 0, .int 0])), (m14, .inl (cy 1, 414, .inl NW))] := hD
  have hw_2 : r_2 = -1 := hw_2
  subst hw_2
  refine lv_aload_n hx hb dL_law_738 rfl (lv_at hl 2 rfl) ?_
  refine lv_aload_n hx hb dL_law_739 rfl (lv_at hl 4 rfl) ?_
  refine lv_iload hx hb dL_law_740 (lv_at hl 0 rfl) ?_
  refine lv_iconst (v := 1) hx hb dL_law_742 (by decide) ?_
  refine lv_iadd hx hb dL_law_743 ?_
  refine tI (y := 1) (by decide) ?_
  refine va_sld hx hb hX hbl hbA hS (vp_in_nI (n := 1) (N := 6) (by decide) (by decide)) dL_law_744 ?_
  refine tI (y := xs 1) rfl ?_
  refine endi (wr := []) (va_runV (As := [.int (xs 1)]) (rest := [.int (-1)]) ⟨hx, hb, hml, hown, hts⟩ (c_M_open l D cy z H.size y m1 m14 m15 m16 m17 m18 m19 m20 m21 m22 m23 m24 m26 m28 m31 m32 m35 m37 m40 m41 m44 (xs 1)) (cwV 1 hts (gV tw_1544 tw_1545 tw_1546 tw_15 tw_1547) rfl rfl rfl (by decide +kernel) ⟨Nat.le_of_ble_eq_true rfl, Nat.le_of_ble_eq_true rfl⟩) (preV hP hD hK hSD hS hA [0, 1] rfl (by decide) (q := (RX10, TX10, 49)) (ci := 10) (q0 := 0) rfl rfl) rfl rfl hl.1 rfl (lv_room (Nat.le_of_ble_eq_true rfl)) dL_law_745 ⟨Nat.le_of_ble_eq_true rfl, Nat.le_of_ble_eq_true rfl⟩) hP hD hS hA [0, 1] [] rfl rfl (by decide) (by decide) (fun r_4 u_3 H locs hw_4 hP hD hS => ?_)
  have hP : va_P D classes [] H := hP
  have hD : va_D (fun q : Nat => s.heap.size ≤ q) [] := hD
  have hw_4 : r_4 = -1 := hw_4
  subst hw_4
  refine lv_icmp_eq (tgt := 1391) hx hb dL_law_748 (by decide) (fun _ => ?_) (fun c9 => absurd (by decide) c9)
  refine lv_iinc (v := 6) (lv' := [(4, .int 6), (3, .ref o), (2, .ref y), (1, .ref x), (0, .ref b)]) hx hb dL_law_1391 hl (k := 0) rfl (by decide) (by decide) rfl (fun ls hl => ?_)
  refine lv_goto (tgt := 23) hx hb dL_law_1394 (by decide) ?_
  refine lv_iload hx hb dL_law_23 (lv_at hl 0 rfl) ?_
  refine lv_aload_n hx hb dL_law_25 rfl (lv_at hl 4 rfl) ?_
  refine va_slen hx hb hX hbl hbA hS dL_law_26 ?_
  refine tI (y := 6) rfl ?_
  refine lv_bipush (v := 6) hx hb dL_law_27 (by decide) ?_
  refine lv_isub hx hb dL_law_29 ?_
  refine tI (y := 0) (by decide) ?_
  refine lv_icmp_gt (tgt := 1397) hx hb dL_law_30 (by decide) (fun _ => ?_) (fun c9 => absurd (by decide) c9)
  refine lv_iconst (v := 1) hx hb dL_law_1397 (by decide) ?_
  refine va_forget (fun q hq => hS.2.2 q hq) ?_
  refine W.widen (k := 600002) (n := 7302232) (Nat.le_of_ble_eq_true rfl) (Nat.le_of_ble_eq_true rfl) ?_
  exact lw_ret hx hb hr hlocks dL_law_1398
set_option maxHeartbeats 4000000 in
set_option maxRecDepth 100000 in
theorem op15 {p : Program} {e : Env} {s : State} {m : MethodId} {below : List Frame} {meth : Method} {c : Code} (l : Launch) {b : Nat} {xs : Nat → Int32} (hx : p.tables.exec = Jvm.exec) (hb : c.code = code) (hr : meth.sig.returnType = ret) (hlocks : meth.locks = false) (hml : c.maxLocals = 7) (hown : s.vm.findClass RL = some m.cls) (hts : ∀ w ∈ gT, w.before #[Value.ref b] s = true) (hX : va_X b 6 xs s s.heap) (hbl : b < s.heap.size) (D : va_G) (cy : Nat → ClassId) (z : Nat → Nat) (hK : va_K D classes (TY cy) s) (hSD : SD z (fun q : Nat => s.heap.size ≤ q) s) (x : Nat) (kq1 : Nat) (kq7 : Nat) (kq13 : Nat) (kq18 : Nat) (kq23 : Nat) (kq24 : Nat) (kq28 : Nat) (kq31 : Nat) (kq32 : Nat) (kq33 : Nat) (kq34 : Nat) (kq35 : Nat) (kq36 : Nat) (kq39 : Nat) (kq40 : Nat) (kq41 : Nat) (kq42 : Nat) (kq43 : Nat) (kq44 : Nat) (kq45 : Nat) (kq46 : Nat) (kq47 : Nat) (kq48 : Nat) (kq49 : Nat) (kq62 : Nat) (kq78 : Nat) (y : Nat) (m1 : Nat) (m14 : Nat) (m15 : Nat) (m16 : Nat) (m17 : Nat) (m18 : Nat) (m19 : Nat) (m20 : Nat) (m21 : Nat) (m22 : Nat) (m23 : Nat) (m24 : Nat) (m26 : Nat) (m28 : Nat) (m31 : Nat) (m32 : Nat) (m35 : Nat) (m37 : Nat) (m40 : Nat) (m41 : Nat) (m44 : Nat) (o : Nat) {H : Heap} {locs : List Loc} (hP : va_P D classes [(x, .inr (9, [.ref kq1, .ref kq36, .ref kq49, .ref kq62, .ref kq78, .null, .ref kq7, .ref kq13, .ref kq18, .ref kq23, .ref kq24, .int 0, .int (-1), .int (-1), .int (-1)])), (kq28, .inr (3, [.ref kq31, .ref kq32, .ref kq33, .ref kq34, .ref kq35, .int 0, .int 5, .int 0, .int 0])), (kq32, .inl (cy 1, 4, .inl (fun _ => 0))), (kq36, .inr (8, [.ref kq28, .int 0, .ref kq39, .ref kq40, .ref kq41, .ref kq42, .ref kq43, .ref kq44, .ref kq45, .ref kq46, .ref kq47, .ref kq48, .int 0])), (y, .inr (10, [.int 0, .ref m1, .int 0, .int 0, .int 0, .int 0, .int 0, .int 0, .int 0, .int 0, .int 0, .int 0, .long 0, .int 0, .ref m14, .ref m15, .ref m16, .ref m17, .ref m18, .ref m19, .ref m20, .ref m21, .ref m22, .ref m23, .ref m24, .int 0, .ref m26, .int (-1), .ref m28, .int (-1), .int (-1), .ref m31, .ref m32, .int 0, .int 0, .ref m35, .int 0, .ref m37, .int 0, .int 0, .ref m40, .ref m41, .int 0, .int 0, .ref m44, .int 0, .int 0, .int 0, .int 0])), (m14, .inl (cy 1, 414, .inl NW))] H) (hD : va_D (fun q : Nat => s.heap.size ≤ q) [(x, .inr (9, [.ref kq1, .ref kq36, .ref kq49, .ref kq62, .ref kq78, .null, .ref kq7, .ref kq13, .ref kq18, .ref kq23, .ref kq24, .int 0, .int (-1), .int (-1), .int (-1)])), (kq28, .inr (3, [.ref kq31, .ref kq32, .ref kq33, .ref kq34, .ref kq35, .int 0, .int 5, .int 0, .int 0])), (kq32, .inl (cy 1, 4, .inl (fun _ => 0))), (kq36, .inr (8, [.ref kq28, .int 0, .ref kq39, .ref kq40, .ref kq41, .ref kq42, .ref kq43, .ref kq44, .ref kq45, .ref kq46, .ref kq47, .ref kq48, .int 0])), (y, .inr (10, [.int 0, .ref m1, .int 0, .int 0, .int 0, .int 0, .int 0, .int 0, .int 0, .int 0, .int 0, .int 0, .long 0, .int 0, .ref m14, .ref m15, .ref m16, .ref m17, .ref m18, .ref m19, .ref m20, .ref m21, .ref m22, .ref m23, .ref m24, .int 0, .ref m26, .int (-1), .ref m28, .int (-1), .int (-1), .ref m31, .ref m32, .int 0, .int 0, .ref m35, .int 0, .ref m37, .int 0, .int 0, .ref m40, .ref m41, .int 0, .int 0, .ref m44, .int 0, .int 0, .int 0, .int 0])), (m14, .inl (cy 1, 414, .inl NW))]) (hS : va_S (fun q : Nat => s.heap.size ≤ q) s.heap H locs) {ls : Array Slot} (hl : lv_has ls 7 [(4, .int 0), (3, .ref o), (2, .ref y), (1, .ref x), (0, .ref b)]) : W p l e room_1 s m #[Value.ref b] below meth c H locs 192 6460 (lw_Z below #[Value.ref b] s) (F0 m 753 ls []) := by
  have hA : ∀ q : Nat, s.heap.size ≤ q → (fun q : Nat => s.heap.size ≤ q) q := fun _ h => h
  have hbA : ¬ (fun q : Nat => s.heap.size ≤ q) b := Nat.not_le.mpr hbl
  refine lv_aload_n hx hb dL_law_753 rfl (lv_at hl 3 rfl) ?_
  refine lv_aload_n hx hb dL_law_754 rfl (lv_at hl 4 rfl) ?_
  refine lv_iload hx hb dL_law_755 (lv_at hl 0 rfl) ?_
  refine lv_iconst (v := 1) hx hb dL_law_757 (by decide) ?_
  refine lv_iadd hx hb dL_law_758 ?_
  refine tI (y := 1) (by decide) ?_
  refine va_sld hx hb hX hbl hbA hS (vp_in_nI (n := 1) (N := 6) (by decide) (by decide)) dL_law_759 ?_
  refine tI (y := xs 1) rfl ?_
  refine lv_aload_n hx hb dL_law_760 rfl (lv_at hl 4 rfl) ?_
  refine lv_iload hx hb dL_law_761 (lv_at hl 0 rfl) ?_
  refine lv_iconst (v := 2) hx hb dL_law_763 (by decide) ?_
  refine lv_iadd hx hb dL_law_764 ?_
  refine tI (y := 2) (by decide) ?_
  refine va_sld hx hb hX hbl hbA hS (vp_in_nI (n := 2) (N := 6) (by decide) (by decide)) dL_law_765 ?_
  refine tI (y := xs 2) rfl ?_
  refine endi (wr := [(y, .inr (10, [.int 0, .ref m1, .int 0, .int 0, .int 0, .int 0, .int 0, .int 0, .int 0, .int 0, .int 0, .int 0, .long 0, .int 0, .ref m14, .ref m15, .ref m16, .ref m17, .ref m18, .ref m19, .ref m20, .ref m21, .ref m22, .ref m23, .ref m24, .int 0, .ref m26, .int (-1), .ref m28, .int (-1), .int (-1), .ref m31, .ref m32, .int 0, .int 0, .ref m35, .int 0, .ref m37, .int 0, .int 0, .ref m40, .ref m41, .int 0, .int 0, .ref m44, .int 0, .int 0, .int 0, .int 0])), (m14, .inl (cy 1, 414, .inl NW))]) (va_runV (As := [.int (xs 1), .int (xs 2)]) (rest := []) ⟨hx, hb, hml, hown, hts⟩ (c_X_carry l D cy z H.size x kq1 kq7 kq13 kq18 kq23 kq24 kq28 kq31 kq32 kq33 kq34 kq35 kq36 kq39 kq40 kq41 kq42 kq43 kq44 kq45 kq46 kq47 kq48 kq49 kq62 kq78 (xs 1) (xs 2)) (cwV 2 hts (gV tw_665 tw_666 tw_667 tw_1 tw_668) rfl rfl rfl (by decide +kernel) ⟨Nat.le_of_ble_eq_true rfl, Nat.le_of_ble_eq_true rfl⟩) (preV hP hD hK hSD hS hA [0, 1, 2, 3] rfl (by decide) (q := (RX9, TX9, 15)) (ci := 9) (q0 := 0) rfl rfl) rfl rfl hl.1 rfl (lv_room (Nat.le_of_ble_eq_true rfl)) dL_law_766 ⟨Nat.le_of_ble_eq_true rfl, Nat.le_of_ble_eq_true rfl⟩) hP hD hS hA [0, 1, 2, 3] [4, 5] rfl rfl (by decide) (by decide) (fun r_2 u_1 H locs hw_2 hP hD hS => ?_)
  have hP : va_P D classes [(y, .inr (10, [.int 0, .ref m1, .int 0, .int 0, .int 0, .int 0, .int 0, .int 0, .int 0, .int 0, .int 0, .int 0, .long 0, .int 0, .ref m14, .ref m15, .ref m16, .ref m17, .ref m18, .ref m19, .ref m20, .ref m21, .ref m22, .ref m23, .ref m24, .int 0, .ref m26, .int (-1), .ref m28, .int (-1), .int (-1), .ref m31, .ref m32, .int 0, .int 0, .ref m35, .int 0, .ref m37, .int 0, .int 0, .ref m40, .ref m41, .int 0, .int 0, .ref m44, .int 0, .int 0, .int 0, .int 0])), (m14, .inl (cy 1, 414, .inl NW))] H := hP
  have hD : va_D (fun q : Nat => s.heap.size ≤ q) [(y, .inr (10, [.int 0, .ref m1, .int 0, .int 0, .int 0, .int 0, .int 0, .int 0, .int 0, .int 0, .int 0, .int 0, .long 0, .int 0, .ref m14, .ref m15, .ref m16, .ref m17, .ref m18, .ref m19, .ref m20, .ref m21, .ref m22, .ref m23, .ref m24, .int 0, .ref m26, .int (-1), .ref m28, .int (-1), .int (-1), .ref m31, .ref m32, .int 0, .int 0, .ref m35, .int 0, .ref m37, .int 0, .int 0, .ref m40, .ref m41, .int 0, .int 0, .ref m44, .int 0, .int 0, .int 0, .int 0])), (m14, .inl (cy 1, 414, .inl NW))] := hD
  have hw_2 : r_2 = -1 := hw_2
  subst hw_2
  refine lv_aload_n hx hb dL_law_769 rfl (lv_at hl 2 rfl) ?_
  refine lv_aload_n hx hb dL_law_770 rfl (lv_at hl 4 rfl) ?_
  refine lv_iload hx hb dL_law_771 (lv_at hl 0 rfl) ?_
  refine lv_iconst (v := 1) hx hb dL_law_773 (by decide) ?_
  refine lv_iadd hx hb dL_law_774 ?_
  refine tI (y := 1) (by decide) ?_
  refine va_sld hx hb hX hbl hbA hS (vp_in_nI (n := 1) (N := 6) (by decide) (by decide)) dL_law_775 ?_
  refine tI (y := xs 1) rfl ?_
  refine lv_aload_n hx hb dL_law_776 rfl (lv_at hl 4 rfl) ?_
  refine lv_iload hx hb dL_law_777 (lv_at hl 0 rfl) ?_
  refine lv_iconst (v := 2) hx hb dL_law_779 (by decide) ?_
  refine lv_iadd hx hb dL_law_780 ?_
  refine tI (y := 2) (by decide) ?_
  refine va_sld hx hb hX hbl hbA hS (vp_in_nI (n := 2) (N := 6) (by decide) (by decide)) dL_law_781 ?_
  refine tI (y := xs 2) rfl ?_
  refine endi (wr := []) (va_runV (As := [.int (xs 1), .int (xs 2)]) (rest := [.int (-1)]) ⟨hx, hb, hml, hown, hts⟩ (c_M_carry l D cy z H.size y m1 m14 m15 m16 m17 m18 m19 m20 m21 m22 m23 m24 m26 m28 m31 m32 m35 m37 m40 m41 m44 (xs 1) (xs 2)) (cwV 2 hts (gV tw_1548 tw_1549 tw_1550 tw_15 tw_1551) rfl rfl rfl (by decide +kernel) ⟨Nat.le_of_ble_eq_true rfl, Nat.le_of_ble_eq_true rfl⟩) (preV hP hD hK hSD hS hA [0, 1] rfl (by decide) (q := (RX10, TX10, 49)) (ci := 10) (q0 := 0) rfl rfl) rfl rfl hl.1 rfl (lv_room (Nat.le_of_ble_eq_true rfl)) dL_law_782 ⟨Nat.le_of_ble_eq_true rfl, Nat.le_of_ble_eq_true rfl⟩) hP hD hS hA [0, 1] [] rfl rfl (by decide) (by decide) (fun r_4 u_3 H locs hw_4 hP hD hS => ?_)
  have hP : va_P D classes [] H := hP
  have hD : va_D (fun q : Nat => s.heap.size ≤ q) [] := hD
  have hw_4 : r_4 = -1 := hw_4
  subst hw_4
  refine lv_icmp_eq (tgt := 1391) hx hb dL_law_785 (by decide) (fun _ => ?_) (fun c9 => absurd (by decide) c9)
  refine lv_iinc (v := 6) (lv' := [(4, .int 6), (3, .ref o), (2, .ref y), (1, .ref x), (0, .ref b)]) hx hb dL_law_1391 hl (k := 0) rfl (by decide) (by decide) rfl (fun ls hl => ?_)
  refine lv_goto (tgt := 23) hx hb dL_law_1394 (by decide) ?_
  refine lv_iload hx hb dL_law_23 (lv_at hl 0 rfl) ?_
  refine lv_aload_n hx hb dL_law_25 rfl (lv_at hl 4 rfl) ?_
  refine va_slen hx hb hX hbl hbA hS dL_law_26 ?_
  refine tI (y := 6) rfl ?_
  refine lv_bipush (v := 6) hx hb dL_law_27 (by decide) ?_
  refine lv_isub hx hb dL_law_29 ?_
  refine tI (y := 0) (by decide) ?_
  refine lv_icmp_gt (tgt := 1397) hx hb dL_law_30 (by decide) (fun _ => ?_) (fun c9 => absurd (by decide) c9)
  refine lv_iconst (v := 1) hx hb dL_law_1397 (by decide) ?_
  refine va_forget (fun q hq => hS.2.2 q hq) ?_
  refine W.widen (k := 600002) (n := 7302232) (Nat.le_of_ble_eq_true rfl) (Nat.le_of_ble_eq_true rfl) ?_
  exact lw_ret hx hb hr hlocks dL_law_1398
set_option maxHeartbeats 4000000 in
set_option maxRecDepth 100000 in
theorem op16 {p : Program} {e : Env} {s : State} {m : MethodId} {below : List Frame} {meth : Method} {c : Code} (l : Launch) {b : Nat} {xs : Nat → Int32} (hx : p.tables.exec = Jvm.exec) (hb : c.code = code) (hr : meth.sig.returnType = ret) (hlocks : meth.locks = false) (hml : c.maxLocals = 7) (hown : s.vm.findClass RL = some m.cls) (hts : ∀ w ∈ gT, w.before #[Value.ref b] s = true) (hX : va_X b 6 xs s s.heap) (hbl : b < s.heap.size) (D : va_G) (cy : Nat → ClassId) (z : Nat → Nat) (hK : va_K D classes (TY cy) s) (hSD : SD z (fun q : Nat => s.heap.size ≤ q) s) (x : Nat) (kq1 : Nat) (kq7 : Nat) (kq13 : Nat) (kq18 : Nat) (kq23 : Nat) (kq24 : Nat) (kq28 : Nat) (kq31 : Nat) (kq32 : Nat) (kq33 : Nat) (kq34 : Nat) (kq35 : Nat) (kq36 : Nat) (kq39 : Nat) (kq40 : Nat) (kq41 : Nat) (kq42 : Nat) (kq43 : Nat) (kq44 : Nat) (kq45 : Nat) (kq46 : Nat) (kq47 : Nat) (kq48 : Nat) (kq49 : Nat) (kq62 : Nat) (kq65 : Nat) (kq66 : Nat) (kq67 : Nat) (kq68 : Nat) (kq69 : Nat) (kq70 : Nat) (kq71 : Nat) (kq72 : Nat) (kq73 : Nat) (kq74 : Nat) (kq75 : Nat) (kq76 : Nat) (kg77 : Nat → Option Nat) (kq78 : Nat) (y : Nat) (m1 : Nat) (m14 : Nat) (m15 : Nat) (m16 : Nat) (m17 : Nat) (m18 : Nat) (m19 : Nat) (m20 : Nat) (m21 : Nat) (m22 : Nat) (m23 : Nat) (m24 : Nat) (m26 : Nat) (m28 : Nat) (m31 : Nat) (m32 : Nat) (m35 : Nat) (m37 : Nat) (m40 : Nat) (m41 : Nat) (m44 : Nat) (o : Nat) (hgh : kg77 0 = some kq66) {H : Heap} {locs : List Loc} (hP : va_P D classes [(x, .inr (9, [.ref kq1, .ref kq36, .ref kq49, .ref kq62, .ref kq78, .null, .ref kq7, .ref kq13, .ref kq18, .ref kq23, .ref kq24, .int 0, .int (-1), .int (-1), .int (-1)])), (kq28, .inr (3, [.ref kq31, .ref kq32, .ref kq33, .ref kq34, .ref kq35, .int 0, .int 5, .int 0, .int 0])), (kq32, .inl (cy 1, 4, .inl (fun _ => 0))), (kq36, .inr (8, [.ref kq28, .int 0, .ref kq39, .ref kq40, .ref kq41, .ref kq42, .ref kq43, .ref kq44, .ref kq45, .ref kq46, .ref kq47, .ref kq48, .int 0])), (kq39, .inl (cy 1, 36, .inl (fun _ => 0))), (kq40, .inl (cy 1, 6, .inl (fun _ => 0))), (kq41, .inl (cy 1, 6, .inl (fun _ => 0))), (kq42, .inl (cy 1, 6, .inl (fun _ => 0))), (kq43, .inl (cy 1, 6, .inl (fun _ => 0))), (kq44, .inl (cy 1, 8, .inl (fun _ => 0))), (kq46, .inl (cy 1, 8, .inl (fun _ => 0))), (kq47, .inl (cy 1, 8, .inl (fun _ => 0))), (kq45, .inl (cy 1, 8, .inl (fun _ => (-1)))), (kq62, .inr (1, [.ref kq65, .int 0, .int 0])), (kq65, .inl (cy 4, 9, .inr (.inr (.inr (.inr kg77))))), (kq66, .inr (8, [.ref kq28, .int 0, .ref kq67, .ref kq68, .ref kq69, .ref kq70, .ref kq71, .ref kq72, .ref kq73, .ref kq74, .ref kq75, .ref kq76, .int 0])), (kq67, .inl (cy 1, 36, .inl (fun _ => 0))), (kq68, .inl (cy 1, 6, .inl (fun _ => 0))), (kq69, .inl (cy 1, 6, .inl (fun _ => 0))), (kq70, .inl (cy 1, 6, .inl (fun _ => 0))), (kq71, .inl (cy 1, 6, .inl (fun _ => 0))), (kq72, .inl (cy 1, 8, .inl (fun _ => 0))), (kq74, .inl (cy 1, 8, .inl (fun _ => 0))), (kq75, .inl (cy 1, 8, .inl (fun _ => 0))), (kq73, .inl (cy 1, 8, .inl (fun _ => (-1)))), (y, .inr (10, [.int 0, .ref m1, .int 0, .int 0, .int 0, .int 0, .int 0, .int 0, .int 0, .int 0, .int 0, .int 0, .long 0, .int 0, .ref m14, .ref m15, .ref m16, .ref m17, .ref m18, .ref m19, .ref m20, .ref m21, .ref m22, .ref m23, .ref m24, .int 0, .ref m26, .int (-1), .ref m28, .int (-1), .int (-1), .ref m31, .ref m32, .int 0, .int 0, .ref m35, .int 0, .ref m37, .int 0, .int 0, .ref m40, .ref m41, .int 0, .int 0, .ref m44, .int 0, .int 0, .int 0, .int 0])), (m14, .inl (cy 1, 414, .inl NW)), (m17, .inl (cy 1, 704, .inl (fun _ => 0)))] H) (hD : va_D (fun q : Nat => s.heap.size ≤ q) [(x, .inr (9, [.ref kq1, .ref kq36, .ref kq49, .ref kq62, .ref kq78, .null, .ref kq7, .ref kq13, .ref kq18, .ref kq23, .ref kq24, .int 0, .int (-1), .int (-1), .int (-1)])), (kq28, .inr (3, [.ref kq31, .ref kq32, .ref kq33, .ref kq34, .ref kq35, .int 0, .int 5, .int 0, .int 0])), (kq32, .inl (cy 1, 4, .inl (fun _ => 0))), (kq36, .inr (8, [.ref kq28, .int 0, .ref kq39, .ref kq40, .ref kq41, .ref kq42, .ref kq43, .ref kq44, .ref kq45, .ref kq46, .ref kq47, .ref kq48, .int 0])), (kq39, .inl (cy 1, 36, .inl (fun _ => 0))), (kq40, .inl (cy 1, 6, .inl (fun _ => 0))), (kq41, .inl (cy 1, 6, .inl (fun _ => 0))), (kq42, .inl (cy 1, 6, .inl (fun _ => 0))), (kq43, .inl (cy 1, 6, .inl (fun _ => 0))), (kq44, .inl (cy 1, 8, .inl (fun _ => 0))), (kq46, .inl (cy 1, 8, .inl (fun _ => 0))), (kq47, .inl (cy 1, 8, .inl (fun _ => 0))), (kq45, .inl (cy 1, 8, .inl (fun _ => (-1)))), (kq62, .inr (1, [.ref kq65, .int 0, .int 0])), (kq65, .inl (cy 4, 9, .inr (.inr (.inr (.inr kg77))))), (kq66, .inr (8, [.ref kq28, .int 0, .ref kq67, .ref kq68, .ref kq69, .ref kq70, .ref kq71, .ref kq72, .ref kq73, .ref kq74, .ref kq75, .ref kq76, .int 0])), (kq67, .inl (cy 1, 36, .inl (fun _ => 0))), (kq68, .inl (cy 1, 6, .inl (fun _ => 0))), (kq69, .inl (cy 1, 6, .inl (fun _ => 0))), (kq70, .inl (cy 1, 6, .inl (fun _ => 0))), (kq71, .inl (cy 1, 6, .inl (fun _ => 0))), (kq72, .inl (cy 1, 8, .inl (fun _ => 0))), (kq74, .inl (cy 1, 8, .inl (fun _ => 0))), (kq75, .inl (cy 1, 8, .inl (fun _ => 0))), (kq73, .inl (cy 1, 8, .inl (fun _ => (-1)))), (y, .inr (10, [.int 0, .ref m1, .int 0, .int 0, .int 0, .int 0, .int 0, .int 0, .int 0, .int 0, .int 0, .int 0, .long 0, .int 0, .ref m14, .ref m15, .ref m16, .ref m17, .ref m18, .ref m19, .ref m20, .ref m21, .ref m22, .ref m23, .ref m24, .int 0, .ref m26, .int (-1), .ref m28, .int (-1), .int (-1), .ref m31, .ref m32, .int 0, .int 0, .ref m35, .int 0, .ref m37, .int 0, .int 0, .ref m40, .ref m41, .int 0, .int 0, .ref m44, .int 0, .int 0, .int 0, .int 0])), (m14, .inl (cy 1, 414, .inl NW)), (m17, .inl (cy 1, 704, .inl (fun _ => 0)))]) (hS : va_S (fun q : Nat => s.heap.size ≤ q) s.heap H locs) {ls : Array Slot} (hl : lv_has ls 7 [(4, .int 0), (3, .ref o), (2, .ref y), (1, .ref x), (0, .ref b)]) : W p l e room_1 s m #[Value.ref b] below meth c H locs 192 6460 (lw_Z below #[Value.ref b] s) (F0 m 790 ls []) := by
  have hA : ∀ q : Nat, s.heap.size ≤ q → (fun q : Nat => s.heap.size ≤ q) q := fun _ h => h
  have hbA : ¬ (fun q : Nat => s.heap.size ≤ q) b := Nat.not_le.mpr hbl
  refine lv_aload_n hx hb dL_law_790 rfl (lv_at hl 3 rfl) ?_
  refine lv_aload_n hx hb dL_law_791 rfl (lv_at hl 4 rfl) ?_
  refine lv_iload hx hb dL_law_792 (lv_at hl 0 rfl) ?_
  refine lv_iconst (v := 1) hx hb dL_law_794 (by decide) ?_
  refine lv_iadd hx hb dL_law_795 ?_
  refine tI (y := 1) (by decide) ?_
  refine va_sld hx hb hX hbl hbA hS (vp_in_nI (n := 1) (N := 6) (by decide) (by decide)) dL_law_796 ?_
  refine tI (y := xs 1) rfl ?_
  refine endi (wr := [(y, .inr (10, [.int 0, .ref m1, .int 0, .int 0, .int 0, .int 0, .int 0, .int 0, .int 0, .int 0, .int 0, .int 0, .long 0, .int 0, .ref m14, .ref m15, .ref m16, .ref m17, .ref m18, .ref m19, .ref m20, .ref m21, .ref m22, .ref m23, .ref m24, .int 0, .ref m26, .int (-1), .ref m28, .int (-1), .int (-1), .ref m31, .ref m32, .int 0, .int 0, .ref m35, .int 0, .ref m37, .int 0, .int 0, .ref m40, .ref m41, .int 0, .int 0, .ref m44, .int 0, .int 0, .int 0, .int 0])), (m14, .inl (cy 1, 414, .inl NW)), (m17, .inl (cy 1, 704, .inl (fun _ => 0)))]) (va_runV (As := [.int (xs 1)]) (rest := []) ⟨hx, hb, hml, hown, hts⟩ (c_X_days l D cy z H.size x kq1 kq7 kq13 kq18 kq23 kq24 kq28 kq31 kq32 kq33 kq34 kq35 kq36 kq39 kq40 kq41 kq42 kq43 kq44 kq45 kq46 kq47 kq48 kq49 kq62 kq65 kq66 kq67 kq68 kq69 kq70 kq71 kq72 kq73 kq74 kq75 kq76 kg77 kq78 (xs 1) hgh) (cwV 1 hts (gV tw_673 tw_674 tw_675 tw_1 tw_676) rfl rfl rfl (by decide +kernel) ⟨Nat.le_of_ble_eq_true rfl, Nat.le_of_ble_eq_true rfl⟩) (preV hP hD hK hSD hS hA [0, 1, 2, 3, 4, 5, 6, 7, 8, 9, 10, 11, 12, 13, 14, 15, 16, 17, 18, 19, 20, 21, 22, 23, 24] rfl (by decide) (q := (RX9, TX9, 15)) (ci := 9) (q0 := 0) rfl rfl) rfl rfl hl.1 rfl (lv_room (Nat.le_of_ble_eq_true rfl)) dL_law_797 ⟨Nat.le_of_ble_eq_true rfl, Nat.le_of_ble_eq_true rfl⟩) hP hD hS hA [0, 1, 2, 3, 4, 5, 6, 7, 8, 9, 10, 11, 12, 13, 14, 15, 16, 17, 18, 19, 20, 21, 22, 23, 24] [25, 26, 27] rfl rfl (by decide) (by decide) (fun r_2 u_1 H locs hw_2 hP hD hS => ?_)
  have hP : va_P D classes [(y, .inr (10, [.int 0, .ref m1, .int 0, .int 0, .int 0, .int 0, .int 0, .int 0, .int 0, .int 0, .int 0, .int 0, .long 0, .int 0, .ref m14, .ref m15, .ref m16, .ref m17, .ref m18, .ref m19, .ref m20, .ref m21, .ref m22, .ref m23, .ref m24, .int 0, .ref m26, .int (-1), .ref m28, .int (-1), .int (-1), .ref m31, .ref m32, .int 0, .int 0, .ref m35, .int 0, .ref m37, .int 0, .int 0, .ref m40, .ref m41, .int 0, .int 0, .ref m44, .int 0, .int 0, .int 0, .int 0])), (m14, .inl (cy 1, 414, .inl NW)), (m17, .inl (cy 1, 704, .inl (fun _ => 0)))] H := hP
  have hD : va_D (fun q : Nat => s.heap.size ≤ q) [(y, .inr (10, [.int 0, .ref m1, .int 0, .int 0, .int 0, .int 0, .int 0, .int 0, .int 0, .int 0, .int 0, .int 0, .long 0, .int 0, .ref m14, .ref m15, .ref m16, .ref m17, .ref m18, .ref m19, .ref m20, .ref m21, .ref m22, .ref m23, .ref m24, .int 0, .ref m26, .int (-1), .ref m28, .int (-1), .int (-1), .ref m31, .ref m32, .int 0, .int 0, .ref m35, .int 0, .ref m37, .int 0, .int 0, .ref m40, .ref m41, .int 0, .int 0, .ref m44, .int 0, .int 0, .int 0, .int 0])), (m14, .inl (cy 1, 414, .inl NW)), (m17, .inl (cy 1, 704, .inl (fun _ => 0)))] := hD
  have hw_2 : r_2 = if (xs 1) < 1 ∨ 60 < (xs 1) then -1 else (xs 1) := hw_2
  subst hw_2
  refine lv_aload_n hx hb dL_law_800 rfl (lv_at hl 2 rfl) ?_
  refine lv_aload_n hx hb dL_law_801 rfl (lv_at hl 4 rfl) ?_
  refine lv_iload hx hb dL_law_802 (lv_at hl 0 rfl) ?_
  refine lv_iconst (v := 1) hx hb dL_law_804 (by decide) ?_
  refine lv_iadd hx hb dL_law_805 ?_
  refine tI (y := 1) (by decide) ?_
  refine va_sld hx hb hX hbl hbA hS (vp_in_nI (n := 1) (N := 6) (by decide) (by decide)) dL_law_806 ?_
  refine tI (y := xs 1) rfl ?_
  refine endi (wr := []) (va_runV (As := [.int (xs 1)]) (rest := [.int (if (xs 1) < 1 ∨ 60 < (xs 1) then -1 else (xs 1))]) ⟨hx, hb, hml, hown, hts⟩ (c_M_days l D cy z H.size y m1 m14 m15 m16 m17 m18 m19 m20 m21 m22 m23 m24 m26 m28 m31 m32 m35 m37 m40 m41 m44 (xs 1)) (cwV 1 hts (gV tw_1560 tw_1561 tw_1562 tw_15 tw_1563) rfl rfl rfl (by decide +kernel) ⟨Nat.le_of_ble_eq_true rfl, Nat.le_of_ble_eq_true rfl⟩) (preV hP hD hK hSD hS hA [0, 1, 2] rfl (by decide) (q := (RX10, TX10, 49)) (ci := 10) (q0 := 0) rfl rfl) rfl rfl hl.1 rfl (lv_room (Nat.le_of_ble_eq_true rfl)) dL_law_807 ⟨Nat.le_of_ble_eq_true rfl, Nat.le_of_ble_eq_true rfl⟩) hP hD hS hA [0, 1, 2] [] rfl rfl (by decide) (by decide) (fun r_4 u_3 H locs hw_4 hP hD hS => ?_)
  have hP : va_P D classes [] H := hP
  have hD : va_D (fun q : Nat => s.heap.size ≤ q) [] := hD
  have hw_4 : r_4 = if (xs 1) < 1 ∨ 60 < (xs 1) then -1 else (xs 1) := hw_4
  subst hw_4
  refine lv_icmp_eq (tgt := 1391) hx hb dL_law_810 (by decide) (fun _ => ?_) (fun c9 => absurd rfl c9)
  refine lv_iinc (v := 6) (lv' := [(4, .int 6), (3, .ref o), (2, .ref y), (1, .ref x), (0, .ref b)]) hx hb dL_law_1391 hl (k := 0) rfl (by decide) (by decide) rfl (fun ls hl => ?_)
  refine lv_goto (tgt := 23) hx hb dL_law_1394 (by decide) ?_
  refine lv_iload hx hb dL_law_23 (lv_at hl 0 rfl) ?_
  refine lv_aload_n hx hb dL_law_25 rfl (lv_at hl 4 rfl) ?_
  refine va_slen hx hb hX hbl hbA hS dL_law_26 ?_
  refine tI (y := 6) rfl ?_
  refine lv_bipush (v := 6) hx hb dL_law_27 (by decide) ?_
  refine lv_isub hx hb dL_law_29 ?_
  refine tI (y := 0) (by decide) ?_
  refine lv_icmp_gt (tgt := 1397) hx hb dL_law_30 (by decide) (fun _ => ?_) (fun c9 => absurd (by decide) c9)
  refine lv_iconst (v := 1) hx hb dL_law_1397 (by decide) ?_
  refine va_forget (fun q hq => hS.2.2 q hq) ?_
  refine W.widen (k := 600002) (n := 7302232) (Nat.le_of_ble_eq_true rfl) (Nat.le_of_ble_eq_true rfl) ?_
  exact lw_ret hx hb hr hlocks dL_law_1398
set_option maxHeartbeats 4000000 in
set_option maxRecDepth 100000 in
theorem op17 {p : Program} {e : Env} {s : State} {m : MethodId} {below : List Frame} {meth : Method} {c : Code} (l : Launch) {b : Nat} {xs : Nat → Int32} (hx : p.tables.exec = Jvm.exec) (hb : c.code = code) (hr : meth.sig.returnType = ret) (hlocks : meth.locks = false) (hml : c.maxLocals = 7) (hown : s.vm.findClass RL = some m.cls) (hts : ∀ w ∈ gT, w.before #[Value.ref b] s = true) (hX : va_X b 6 xs s s.heap) (hbl : b < s.heap.size) (D : va_G) (cy : Nat → ClassId) (z : Nat → Nat) (hK : va_K D classes (TY cy) s) (hSD : SD z (fun q : Nat => s.heap.size ≤ q) s) (x : Nat) (kq1 : Nat) (kq7 : Nat) (kq13 : Nat) (kq18 : Nat) (kq23 : Nat) (kq24 : Nat) (kq36 : Nat) (kq49 : Nat) (kq62 : Nat) (kq65 : Nat) (kq78 : Nat) (y : Nat) (m1 : Nat) (m14 : Nat) (m15 : Nat) (m16 : Nat) (m17 : Nat) (m18 : Nat) (m19 : Nat) (m20 : Nat) (m21 : Nat) (m22 : Nat) (m23 : Nat) (m24 : Nat) (m26 : Nat) (m28 : Nat) (m31 : Nat) (m32 : Nat) (m35 : Nat) (m37 : Nat) (m40 : Nat) (m41 : Nat) (m44 : Nat) (o : Nat) {H : Heap} {locs : List Loc} (hP : va_P D classes [(x, .inr (9, [.ref kq1, .ref kq36, .ref kq49, .ref kq62, .ref kq78, .null, .ref kq7, .ref kq13, .ref kq18, .ref kq23, .ref kq24, .int 0, .int (-1), .int (-1), .int (-1)])), (kq62, .inr (1, [.ref kq65, .int 0, .int 0])), (y, .inr (10, [.int 0, .ref m1, .int 0, .int 0, .int 0, .int 0, .int 0, .int 0, .int 0, .int 0, .int 0, .int 0, .long 0, .int 0, .ref m14, .ref m15, .ref m16, .ref m17, .ref m18, .ref m19, .ref m20, .ref m21, .ref m22, .ref m23, .ref m24, .int 0, .ref m26, .int (-1), .ref m28, .int (-1), .int (-1), .ref m31, .ref m32, .int 0, .int 0, .ref m35, .int 0, .ref m37, .int 0, .int 0, .ref m40, .ref m41, .int 0, .int 0, .ref m44, .int 0, .int 0, .int 0, .int 0]))] H) (hD : va_D (fun q : Nat => s.heap.size ≤ q) [(x, .inr (9, [.ref kq1, .ref kq36, .ref kq49, .ref kq62, .ref kq78, .null, .ref kq7, .ref kq13, .ref kq18, .ref kq23, .ref kq24, .int 0, .int (-1), .int (-1), .int (-1)])), (kq62, .inr (1, [.ref kq65, .int 0, .int 0])), (y, .inr (10, [.int 0, .ref m1, .int 0, .int 0, .int 0, .int 0, .int 0, .int 0, .int 0, .int 0, .int 0, .int 0, .long 0, .int 0, .ref m14, .ref m15, .ref m16, .ref m17, .ref m18, .ref m19, .ref m20, .ref m21, .ref m22, .ref m23, .ref m24, .int 0, .ref m26, .int (-1), .ref m28, .int (-1), .int (-1), .ref m31, .ref m32, .int 0, .int 0, .ref m35, .int 0, .ref m37, .int 0, .int 0, .ref m40, .ref m41, .int 0, .int 0, .ref m44, .int 0, .int 0, .int 0, .int 0]))]) (hS : va_S (fun q : Nat => s.heap.size ≤ q) s.heap H locs) {ls : Array Slot} (hl : lv_has ls 7 [(4, .int 0), (3, .ref o), (2, .ref y), (1, .ref x), (0, .ref b)]) : W p l e room_1 s m #[Value.ref b] below meth c H locs 192 6460 (lw_Z below #[Value.ref b] s) (F0 m 815 ls []) := by
  have hA : ∀ q : Nat, s.heap.size ≤ q → (fun q : Nat => s.heap.size ≤ q) q := fun _ h => h
  have hbA : ¬ (fun q : Nat => s.heap.size ≤ q) b := Nat.not_le.mpr hbl
  refine lv_aload_n hx hb dL_law_815 rfl (lv_at hl 3 rfl) ?_
  refine endi (wr := [(y, .inr (10, [.int 0, .ref m1, .int 0, .int 0, .int 0, .int 0, .int 0, .int 0, .int 0, .int 0, .int 0, .int 0, .long 0, .int 0, .ref m14, .ref m15, .ref m16, .ref m17, .ref m18, .ref m19, .ref m20, .ref m21, .ref m22, .ref m23, .ref m24, .int 0, .ref m26, .int (-1), .ref m28, .int (-1), .int (-1), .ref m31, .ref m32, .int 0, .int 0, .ref m35, .int 0, .ref m37, .int 0, .int 0, .ref m40, .ref m41, .int 0, .int 0, .ref m44, .int 0, .int 0, .int 0, .int 0]))]) (va_runV (As := []) (rest := []) ⟨hx, hb, hml, hown, hts⟩ (c_X_undo l D cy z H.size x kq1 kq7 kq13 kq18 kq23 kq24 kq36 kq49 kq62 kq65 kq78) (cwV 0 hts (gV tw_713 tw_714 tw_715 tw_1 tw_716) rfl rfl rfl (by decide +kernel) ⟨Nat.le_of_ble_eq_true rfl, Nat.le_of_ble_eq_true rfl⟩) (preV hP hD hK hSD hS hA [0, 1] rfl (by decide) (q := (RX9, TX9, 15)) (ci := 9) (q0 := 0) rfl rfl) rfl rfl hl.1 rfl (lv_room (Nat.le_of_ble_eq_true rfl)) dL_law_816 ⟨Nat.le_of_ble_eq_true rfl, Nat.le_of_ble_eq_true rfl⟩) hP hD hS hA [0, 1] [2] rfl rfl (by decide) (by decide) (fun r_2 u_1 H locs hw_2 hP hD hS => ?_)
  have hP : va_P D classes [(y, .inr (10, [.int 0, .ref m1, .int 0, .int 0, .int 0, .int 0, .int 0, .int 0, .int 0, .int 0, .int 0, .int 0, .long 0, .int 0, .ref m14, .ref m15, .ref m16, .ref m17, .ref m18, .ref m19, .ref m20, .ref m21, .ref m22, .ref m23, .ref m24, .int 0, .ref m26, .int (-1), .ref m28, .int (-1), .int (-1), .ref m31, .ref m32, .int 0, .int 0, .ref m35, .int 0, .ref m37, .int 0, .int 0, .ref m40, .ref m41, .int 0, .int 0, .ref m44, .int 0, .int 0, .int 0, .int 0]))] H := hP
  have hD : va_D (fun q : Nat => s.heap.size ≤ q) [(y, .inr (10, [.int 0, .ref m1, .int 0, .int 0, .int 0, .int 0, .int 0, .int 0, .int 0, .int 0, .int 0, .int 0, .long 0, .int 0, .ref m14, .ref m15, .ref m16, .ref m17, .ref m18, .ref m19, .ref m20, .ref m21, .ref m22, .ref m23, .ref m24, .int 0, .ref m26, .int (-1), .ref m28, .int (-1), .int (-1), .ref m31, .ref m32, .int 0, .int 0, .ref m35, .int 0, .ref m37, .int 0, .int 0, .ref m40, .ref m41, .int 0, .int 0, .ref m44, .int 0, .int 0, .int 0, .int 0]))] := hD
  have hw_2 : r_2 = -1 := hw_2
  subst hw_2
  refine lv_aload_n hx hb dL_law_819 rfl (lv_at hl 2 rfl) ?_
  refine endi (wr := []) (va_runV (As := []) (rest := [.int (-1)]) ⟨hx, hb, hml, hown, hts⟩ (c_M_undo l D cy z H.size y m1 m14 m15 m16 m17 m18 m19 m20 m21 m22 m23 m24 m26 m28 m31 m32 m35 m37 m40 m41 m44) (cwV 0 hts (gV tw_1556 tw_1557 tw_1558 tw_15 tw_1559) rfl rfl rfl (by decide +kernel) ⟨Nat.le_of_ble_eq_true rfl, Nat.le_of_ble_eq_true rfl⟩) (preV hP hD hK hSD hS hA [0] rfl (by decide) (q := (RX10, TX10, 49)) (ci := 10) (q0 := 0) rfl rfl) rfl rfl hl.1 rfl (lv_room (Nat.le_of_ble_eq_true rfl)) dL_law_820 ⟨Nat.le_of_ble_eq_true rfl, Nat.le_of_ble_eq_true rfl⟩) hP hD hS hA [0] [] rfl rfl (by decide) (by decide) (fun r_4 u_3 H locs hw_4 hP hD hS => ?_)
  have hP : va_P D classes [] H := hP
  have hD : va_D (fun q : Nat => s.heap.size ≤ q) [] := hD
  have hw_4 : r_4 = -1 := hw_4
  subst hw_4
  refine lv_icmp_eq (tgt := 1391) hx hb dL_law_823 (by decide) (fun _ => ?_) (fun c9 => absurd (by decide) c9)
  refine lv_iinc (v := 6) (lv' := [(4, .int 6), (3, .ref o), (2, .ref y), (1, .ref x), (0, .ref b)]) hx hb dL_law_1391 hl (k := 0) rfl (by decide) (by decide) rfl (fun ls hl => ?_)
  refine lv_goto (tgt := 23) hx hb dL_law_1394 (by decide) ?_
  refine lv_iload hx hb dL_law_23 (lv_at hl 0 rfl) ?_
  refine lv_aload_n hx hb dL_law_25 rfl (lv_at hl 4 rfl) ?_
  refine va_slen hx hb hX hbl hbA hS dL_law_26 ?_
  refine tI (y := 6) rfl ?_
  refine lv_bipush (v := 6) hx hb dL_law_27 (by decide) ?_
  refine lv_isub hx hb dL_law_29 ?_
  refine tI (y := 0) (by decide) ?_
  refine lv_icmp_gt (tgt := 1397) hx hb dL_law_30 (by decide) (fun _ => ?_) (fun c9 => absurd (by decide) c9)
  refine lv_iconst (v := 1) hx hb dL_law_1397 (by decide) ?_
  refine va_forget (fun q hq => hS.2.2 q hq) ?_
  refine W.widen (k := 600002) (n := 7302232) (Nat.le_of_ble_eq_true rfl) (Nat.le_of_ble_eq_true rfl) ?_
  exact lw_ret hx hb hr hlocks dL_law_1398
set_option maxHeartbeats 4000000 in
set_option maxRecDepth 100000 in
theorem op18 {p : Program} {e : Env} {s : State} {m : MethodId} {below : List Frame} {meth : Method} {c : Code} (l : Launch) {b : Nat} {xs : Nat → Int32} (hx : p.tables.exec = Jvm.exec) (hb : c.code = code) (hr : meth.sig.returnType = ret) (hlocks : meth.locks = false) (hml : c.maxLocals = 7) (hown : s.vm.findClass RL = some m.cls) (hts : ∀ w ∈ gT, w.before #[Value.ref b] s = true) (hX : va_X b 6 xs s s.heap) (hbl : b < s.heap.size) (D : va_G) (cy : Nat → ClassId) (z : Nat → Nat) (hK : va_K D classes (TY cy) s) (hSD : SD z (fun q : Nat => s.heap.size ≤ q) s) (x : Nat) (kq1 : Nat) (kq7 : Nat) (kq13 : Nat) (kq18 : Nat) (kq23 : Nat) (kq24 : Nat) (kq28 : Nat) (kq31 : Nat) (kq32 : Nat) (kq33 : Nat) (kq34 : Nat) (kq35 : Nat) (kq36 : Nat) (kq39 : Nat) (kq40 : Nat) (kq41 : Nat) (kq42 : Nat) (kq43 : Nat) (kq44 : Nat) (kq45 : Nat) (kq46 : Nat) (kq47 : Nat) (kq48 : Nat) (kq49 : Nat) (kq62 : Nat) (kq78 : Nat) (y : Nat) (m1 : Nat) (m14 : Nat) (m15 : Nat) (m16 : Nat) (m17 : Nat) (m18 : Nat) (m19 : Nat) (m20 : Nat) (m21 : Nat) (m22 : Nat) (m23 : Nat) (m24 : Nat) (m26 : Nat) (m28 : Nat) (m31 : Nat) (m32 : Nat) (m35 : Nat) (m37 : Nat) (m40 : Nat) (m41 : Nat) (m44 : Nat) (o : Nat) {H : Heap} {locs : List Loc} (hP : va_P D classes [(x, .inr (9, [.ref kq1, .ref kq36, .ref kq49, .ref kq62, .ref kq78, .null, .ref kq7, .ref kq13, .ref kq18, .ref kq23, .ref kq24, .int 0, .int (-1), .int (-1), .int (-1)])), (kq28, .inr (3, [.ref kq31, .ref kq32, .ref kq33, .ref kq34, .ref kq35, .int 0, .int 5, .int 0, .int 0])), (kq32, .inl (cy 1, 4, .inl (fun _ => 0))), (kq36, .inr (8, [.ref kq28, .int 0, .ref kq39, .ref kq40, .ref kq41, .ref kq42, .ref kq43, .ref kq44, .ref kq45, .ref kq46, .ref kq47, .ref kq48, .int 0])), (y, .inr (10, [.int 0, .ref m1, .int 0, .int 0, .int 0, .int 0, .int 0, .int 0, .int 0, .int 0, .int 0, .int 0, .long 0, .int 0, .ref m14, .ref m15, .ref m16, .ref m17, .ref m18, .ref m19, .ref m20, .ref m21, .ref m22, .ref m23, .ref m24, .int 0, .ref m26, .int (-1), .ref m28, .int (-1), .int (-1), .ref m31, .ref m32, .int 0, .int 0, .ref m35, .int 0, .ref m37, .int 0, .int 0, .ref m40, .ref m41, .int 0, .int 0, .ref m44, .int 0, .int 0, .int 0, .int 0])), (m14, .inl (cy 1, 414, .inl NW))] H) (hD : va_D (fun q : Nat => s.heap.size ≤ q) [(x, .inr (9, [.ref kq1, .ref kq36, .ref kq49, .ref kq62, .ref kq78, .null, .ref kq7, .ref kq13, .ref kq18, .ref kq23, .ref kq24, .int 0, .int (-1), .int (-1), .int (-1)])), (kq28, .inr (3, [.ref kq31, .ref kq32, .ref kq33, .ref kq34, .ref kq35, .int 0, .int 5, .int 0, .int 0])), (kq32, .inl (cy 1, 4, .inl (fun _ => 0))), (kq36, .inr (8, [.ref kq28, .int 0, .ref kq39, .ref kq40, .ref kq41, .ref kq42, .ref kq43, .ref kq44, .ref kq45, .ref kq46, .ref kq47, .ref kq48, .int 0])), (y, .inr (10, [.int 0, .ref m1, .int 0, .int 0, .int 0, .int 0, .int 0, .int 0, .int 0, .int 0, .int 0, .int 0, .long 0, .int 0, .ref m14, .ref m15, .ref m16, .ref m17, .ref m18, .ref m19, .ref m20, .ref m21, .ref m22, .ref m23, .ref m24, .int 0, .ref m26, .int (-1), .ref m28, .int (-1), .int (-1), .ref m31, .ref m32, .int 0, .int 0, .ref m35, .int 0, .ref m37, .int 0, .int 0, .ref m40, .ref m41, .int 0, .int 0, .ref m44, .int 0, .int 0, .int 0, .int 0])), (m14, .inl (cy 1, 414, .inl NW))]) (hS : va_S (fun q : Nat => s.heap.size ≤ q) s.heap H locs) {ls : Array Slot} (hl : lv_has ls 7 [(4, .int 0), (3, .ref o), (2, .ref y), (1, .ref x), (0, .ref b)]) : W p l e room_1 s m #[Value.ref b] below meth c H locs 192 6460 (lw_Z below #[Value.ref b] s) (F0 m 828 ls []) := by
  have hA : ∀ q : Nat, s.heap.size ≤ q → (fun q : Nat => s.heap.size ≤ q) q := fun _ h => h
  have hbA : ¬ (fun q : Nat => s.heap.size ≤ q) b := Nat.not_le.mpr hbl
  refine lv_aload_n hx hb dL_law_828 rfl (lv_at hl 3 rfl) ?_
  refine lv_aload_n hx hb dL_law_829 rfl (lv_at hl 4 rfl) ?_
  refine lv_iload hx hb dL_law_830 (lv_at hl 0 rfl) ?_
  refine lv_iconst (v := 1) hx hb dL_law_832 (by decide) ?_
  refine lv_iadd hx hb dL_law_833 ?_
  refine tI (y := 1) (by decide) ?_
  refine va_sld hx hb hX hbl hbA hS (vp_in_nI (n := 1) (N := 6) (by decide) (by decide)) dL_law_834 ?_
  refine tI (y := xs 1) rfl ?_
  refine lv_aload_n hx hb dL_law_835 rfl (lv_at hl 4 rfl) ?_
  refine lv_iload hx hb dL_law_836 (lv_at hl 0 rfl) ?_
  refine lv_iconst (v := 2) hx hb dL_law_838 (by decide) ?_
  refine lv_iadd hx hb dL_law_839 ?_
  refine tI (y := 2) (by decide) ?_
  refine va_sld hx hb hX hbl hbA hS (vp_in_nI (n := 2) (N := 6) (by decide) (by decide)) dL_law_840 ?_
  refine tI (y := xs 2) rfl ?_
  refine endi (wr := [(y, .inr (10, [.int 0, .ref m1, .int 0, .int 0, .int 0, .int 0, .int 0, .int 0, .int 0, .int 0, .int 0, .int 0, .long 0, .int 0, .ref m14, .ref m15, .ref m16, .ref m17, .ref m18, .ref m19, .ref m20, .ref m21, .ref m22, .ref m23, .ref m24, .int 0, .ref m26, .int (-1), .ref m28, .int (-1), .int (-1), .ref m31, .ref m32, .int 0, .int 0, .ref m35, .int 0, .ref m37, .int 0, .int 0, .ref m40, .ref m41, .int 0, .int 0, .ref m44, .int 0, .int 0, .int 0, .int 0])), (m14, .inl (cy 1, 414, .inl NW))]) (va_runV (As := [.int (xs 1), .int (xs 2)]) (rest := []) ⟨hx, hb, hml, hown, hts⟩ (c_X_when l D cy z H.size x kq1 kq7 kq13 kq18 kq23 kq24 kq28 kq31 kq32 kq33 kq34 kq35 kq36 kq39 kq40 kq41 kq42 kq43 kq44 kq45 kq46 kq47 kq48 kq49 kq62 kq78 (xs 1) (xs 2)) (cwV 2 hts (gV tw_721 tw_722 tw_723 tw_1 tw_724) rfl rfl rfl (by decide +kernel) ⟨Nat.le_of_ble_eq_true rfl, Nat.le_of_ble_eq_true rfl⟩) (preV hP hD hK hSD hS hA [0, 1, 2, 3] rfl (by decide) (q := (RX9, TX9, 15)) (ci := 9) (q0 := 0) rfl rfl) rfl rfl hl.1 rfl (lv_room (Nat.le_of_ble_eq_true rfl)) dL_law_841 ⟨Nat.le_of_ble_eq_true rfl, Nat.le_of_ble_eq_true rfl⟩) hP hD hS hA [0, 1, 2, 3] [4, 5] rfl rfl (by decide) (by decide) (fun r_2 u_1 H locs hw_2 hP hD hS => ?_)
  have hP : va_P D classes [(y, .inr (10, [.int 0, .ref m1, .int 0, .int 0, .int 0, .int 0, .int 0, .int 0, .int 0, .int 0, .int 0, .int 0, .long 0, .int 0, .ref m14, .ref m15, .ref m16, .ref m17, .ref m18, .ref m19, .ref m20, .ref m21, .ref m22, .ref m23, .ref m24, .int 0, .ref m26, .int (-1), .ref m28, .int (-1), .int (-1), .ref m31, .ref m32, .int 0, .int 0, .ref m35, .int 0, .ref m37, .int 0, .int 0, .ref m40, .ref m41, .int 0, .int 0, .ref m44, .int 0, .int 0, .int 0, .int 0])), (m14, .inl (cy 1, 414, .inl NW))] H := hP
  have hD : va_D (fun q : Nat => s.heap.size ≤ q) [(y, .inr (10, [.int 0, .ref m1, .int 0, .int 0, .int 0, .int 0, .int 0, .int 0, .int 0, .int 0, .int 0, .int 0, .long 0, .int 0, .ref m14, .ref m15, .ref m16, .ref m17, .ref m18, .ref m19, .ref m20, .ref m21, .ref m22, .ref m23, .ref m24, .int 0, .ref m26, .int (-1), .ref m28, .int (-1), .int (-1), .ref m31, .ref m32, .int 0, .int 0, .ref m35, .int 0, .ref m37, .int 0, .int 0, .ref m40, .ref m41, .int 0, .int 0, .ref m44, .int 0, .int 0, .int 0, .int 0])), (m14, .inl (cy 1, 414, .inl NW))] := hD
  have hw_2 : r_2 = -1 := hw_2
  subst hw_2
  refine lv_aload_n hx hb dL_law_844 rfl (lv_at hl 2 rfl) ?_
  refine lv_aload_n hx hb dL_law_845 rfl (lv_at hl 4 rfl) ?_
  refine lv_iload hx hb dL_law_846 (lv_at hl 0 rfl) ?_
  refine lv_iconst (v := 1) hx hb dL_law_848 (by decide) ?_
  refine lv_iadd hx hb dL_law_849 ?_
  refine tI (y := 1) (by decide) ?_
  refine va_sld hx hb hX hbl hbA hS (vp_in_nI (n := 1) (N := 6) (by decide) (by decide)) dL_law_850 ?_
  refine tI (y := xs 1) rfl ?_
  refine lv_aload_n hx hb dL_law_851 rfl (lv_at hl 4 rfl) ?_
  refine lv_iload hx hb dL_law_852 (lv_at hl 0 rfl) ?_
  refine lv_iconst (v := 2) hx hb dL_law_854 (by decide) ?_
  refine lv_iadd hx hb dL_law_855 ?_
  refine tI (y := 2) (by decide) ?_
  refine va_sld hx hb hX hbl hbA hS (vp_in_nI (n := 2) (N := 6) (by decide) (by decide)) dL_law_856 ?_
  refine tI (y := xs 2) rfl ?_
  refine endi (wr := []) (va_runV (As := [.int (xs 1), .int (xs 2)]) (rest := [.int (-1)]) ⟨hx, hb, hml, hown, hts⟩ (c_M_when l D cy z H.size y m1 m14 m15 m16 m17 m18 m19 m20 m21 m22 m23 m24 m26 m28 m31 m32 m35 m37 m40 m41 m44 (xs 1) (xs 2)) (cwV 2 hts (gV tw_1583 tw_1584 tw_1585 tw_15 tw_1586) rfl rfl rfl (by decide +kernel) ⟨Nat.le_of_ble_eq_true rfl, Nat.le_of_ble_eq_true rfl⟩) (preV hP hD hK hSD hS hA [0, 1] rfl (by decide) (q := (RX10, TX10, 49)) (ci := 10) (q0 := 0) rfl rfl) rfl rfl hl.1 rfl (lv_room (Nat.le_of_ble_eq_true rfl)) dL_law_857 ⟨Nat.le_of_ble_eq_true rfl, Nat.le_of_ble_eq_true rfl⟩) hP hD hS hA [0, 1] [] rfl rfl (by decide) (by decide) (fun r_4 u_3 H locs hw_4 hP hD hS => ?_)
  have hP : va_P D classes [] H := hP
  have hD : va_D (fun q : Nat => s.heap.size ≤ q) [] := hD
  have hw_4 : r_4 = -1 := hw_4
  subst hw_4
  refine lv_icmp_eq (tgt := 1391) hx hb dL_law_860 (by decide) (fun _ => ?_) (fun c9 => absurd (by decide) c9)
  refine lv_iinc (v := 6) (lv' := [(4, .int 6), (3, .ref o), (2, .ref y), (1, .ref x), (0, .ref b)]) hx hb dL_law_1391 hl (k := 0) rfl (by decide) (by decide) rfl (fun ls hl => ?_)
  refine lv_goto (tgt := 23) hx hb dL_law_1394 (by decide) ?_
  refine lv_iload hx hb dL_law_23 (lv_at hl 0 rfl) ?_
  refine lv_aload_n hx hb dL_law_25 rfl (lv_at hl 4 rfl) ?_
  refine va_slen hx hb hX hbl hbA hS dL_law_26 ?_
  refine tI (y := 6) rfl ?_
  refine lv_bipush (v := 6) hx hb dL_law_27 (by decide) ?_
  refine lv_isub hx hb dL_law_29 ?_
  refine tI (y := 0) (by decide) ?_
  refine lv_icmp_gt (tgt := 1397) hx hb dL_law_30 (by decide) (fun _ => ?_) (fun c9 => absurd (by decide) c9)
  refine lv_iconst (v := 1) hx hb dL_law_1397 (by decide) ?_
  refine va_forget (fun q hq => hS.2.2 q hq) ?_
  refine W.widen (k := 600002) (n := 7302232) (Nat.le_of_ble_eq_true rfl) (Nat.le_of_ble_eq_true rfl) ?_
  exact lw_ret hx hb hr hlocks dL_law_1398
set_option maxHeartbeats 4000000 in
set_option maxRecDepth 100000 in
theorem op19 {p : Program} {e : Env} {s : State} {m : MethodId} {below : List Frame} {meth : Method} {c : Code} (l : Launch) {b : Nat} {xs : Nat → Int32} (hx : p.tables.exec = Jvm.exec) (hb : c.code = code) (hr : meth.sig.returnType = ret) (hlocks : meth.locks = false) (hml : c.maxLocals = 7) (hown : s.vm.findClass RL = some m.cls) (hts : ∀ w ∈ gT, w.before #[Value.ref b] s = true) (hX : va_X b 6 xs s s.heap) (hbl : b < s.heap.size) (D : va_G) (cy : Nat → ClassId) (z : Nat → Nat) (hK : va_K D classes (TY cy) s) (hSD : SD z (fun q : Nat => s.heap.size ≤ q) s) (x : Nat) (kq1 : Nat) (kq7 : Nat) (kq13 : Nat) (kq18 : Nat) (kq23 : Nat) (kq24 : Nat) (kq28 : Nat) (kq31 : Nat) (kq32 : Nat) (kq33 : Nat) (kq34 : Nat) (kq35 : Nat) (kq36 : Nat) (kq39 : Nat) (kq40 : Nat) (kq41 : Nat) (kq42 : Nat) (kq43 : Nat) (kq44 : Nat) (kq45 : Nat) (kq46 : Nat) (kq47 : Nat) (kq48 : Nat) (kq49 : Nat) (kq62 : Nat) (kq78 : Nat) (y : Nat) (m1 : Nat) (m14 : Nat) (m15 : Nat) (m16 : Nat) (m17 : Nat) (m18 : Nat) (m19 : Nat) (m20 : Nat) (m21 : Nat) (m22 : Nat) (m23 : Nat) (m24 : Nat) (m26 : Nat) (m28 : Nat) (m31 : Nat) (m32 : Nat) (m35 : Nat) (m37 : Nat) (m40 : Nat) (m41 : Nat) (m44 : Nat) (o : Nat) {H : Heap} {locs : List Loc} (hP : va_P D classes [(x, .inr (9, [.ref kq1, .ref kq36, .ref kq49, .ref kq62, .ref kq78, .null, .ref kq7, .ref kq13, .ref kq18, .ref kq23, .ref kq24, .int 0, .int (-1), .int (-1), .int (-1)])), (kq28, .inr (3, [.ref kq31, .ref kq32, .ref kq33, .ref kq34, .ref kq35, .int 0, .int 5, .int 0, .int 0])), (kq32, .inl (cy 1, 4, .inl (fun _ => 0))), (kq36, .inr (8, [.ref kq28, .int 0, .ref kq39, .ref kq40, .ref kq41, .ref kq42, .ref kq43, .ref kq44, .ref kq45, .ref kq46, .ref kq47, .ref kq48, .int 0])), (y, .inr (10, [.int 0, .ref m1, .int 0, .int 0, .int 0, .int 0, .int 0, .int 0, .int 0, .int 0, .int 0, .int 0, .long 0, .int 0, .ref m14, .ref m15, .ref m16, .ref m17, .ref m18, .ref m19, .ref m20, .ref m21, .ref m22, .ref m23, .ref m24, .int 0, .ref m26, .int (-1), .ref m28, .int (-1), .int (-1), .ref m31, .ref m32, .int 0, .int 0, .ref m35, .int 0, .ref m37, .int 0, .int 0, .ref m40, .ref m41, .int 0, .int 0, .ref m44, .int 0, .int 0, .int 0, .int 0])), (m14, .inl (cy 1, 414, .inl NW))] H) (hD : va_D (fun q : Nat => s.heap.size ≤ q) [(x, .inr (9, [.ref kq1, .ref kq36, .ref kq49, .ref kq62, .ref kq78, .null, .ref kq7, .ref kq13, .ref kq18, .ref kq23, .ref kq24, .int 0, .int (-1), .int (-1), .int (-1)])), (kq28, .inr (3, [.ref kq31, .ref kq32, .ref kq33, .ref kq34, .ref kq35, .int 0, .int 5, .int 0, .int 0])), (kq32, .inl (cy 1, 4, .inl (fun _ => 0))), (kq36, .inr (8, [.ref kq28, .int 0, .ref kq39, .ref kq40, .ref kq41, .ref kq42, .ref kq43, .ref kq44, .ref kq45, .ref kq46, .ref kq47, .ref kq48, .int 0])), (y, .inr (10, [.int 0, .ref m1, .int 0, .int 0, .int 0, .int 0, .int 0, .int 0, .int 0, .int 0, .int 0, .int 0, .long 0, .int 0, .ref m14, .ref m15, .ref m16, .ref m17, .ref m18, .ref m19, .ref m20, .ref m21, .ref m22, .ref m23, .ref m24, .int 0, .ref m26, .int (-1), .ref m28, .int (-1), .int (-1), .ref m31, .ref m32, .int 0, .int 0, .ref m35, .int 0, .ref m37, .int 0, .int 0, .ref m40, .ref m41, .int 0, .int 0, .ref m44, .int 0, .int 0, .int 0, .int 0])), (m14, .inl (cy 1, 414, .inl NW))]) (hS : va_S (fun q : Nat => s.heap.size ≤ q) s.heap H locs) {ls : Array Slot} (hl : lv_has ls 7 [(4, .int 0), (3, .ref o), (2, .ref y), (1, .ref x), (0, .ref b)]) : W p l e room_1 s m #[Value.ref b] below meth c H locs 192 6460 (lw_Z below #[Value.ref b] s) (F0 m 865 ls []) := by
  have hA : ∀ q : Nat, s.heap.size ≤ q → (fun q : Nat => s.heap.size ≤ q) q := fun _ h => h
  have hbA : ¬ (fun q : Nat => s.heap.size ≤ q) b := Nat.not_le.mpr hbl
  refine lv_aload_n hx hb dL_law_865 rfl (lv_at hl 3 rfl) ?_
  refine lv_aload_n hx hb dL_law_866 rfl (lv_at hl 4 rfl) ?_
  refine lv_iload hx hb dL_law_867 (lv_at hl 0 rfl) ?_
  refine lv_iconst (v := 1) hx hb dL_law_869 (by decide) ?_
  refine lv_iadd hx hb dL_law_870 ?_
  refine tI (y := 1) (by decide) ?_
  refine va_sld hx hb hX hbl hbA hS (vp_in_nI (n := 1) (N := 6) (by decide) (by decide)) dL_law_871 ?_
  refine tI (y := xs 1) rfl ?_
  refine lv_aload_n hx hb dL_law_872 rfl (lv_at hl 4 rfl) ?_
  refine lv_iload hx hb dL_law_873 (lv_at hl 0 rfl) ?_
  refine lv_iconst (v := 2) hx hb dL_law_875 (by decide) ?_
  refine lv_iadd hx hb dL_law_876 ?_
  refine tI (y := 2) (by decide) ?_
  refine va_sld hx hb hX hbl hbA hS (vp_in_nI (n := 2) (N := 6) (by decide) (by decide)) dL_law_877 ?_
  refine tI (y := xs 2) rfl ?_
  refine lv_aload_n hx hb dL_law_878 rfl (lv_at hl 4 rfl) ?_
  refine lv_iload hx hb dL_law_879 (lv_at hl 0 rfl) ?_
  refine lv_iconst (v := 3) hx hb dL_law_881 (by decide) ?_
  refine lv_iadd hx hb dL_law_882 ?_
  refine tI (y := 3) (by decide) ?_
  refine va_sld hx hb hX hbl hbA hS (vp_in_nI (n := 3) (N := 6) (by decide) (by decide)) dL_law_883 ?_
  refine tI (y := xs 3) rfl ?_
  refine endi (wr := [(y, .inr (10, [.int 0, .ref m1, .int 0, .int 0, .int 0, .int 0, .int 0, .int 0, .int 0, .int 0, .int 0, .int 0, .long 0, .int 0, .ref m14, .ref m15, .ref m16, .ref m17, .ref m18, .ref m19, .ref m20, .ref m21, .ref m22, .ref m23, .ref m24, .int 0, .ref m26, .int (-1), .ref m28, .int (-1), .int (-1), .ref m31, .ref m32, .int 0, .int 0, .ref m35, .int 0, .ref m37, .int 0, .int 0, .ref m40, .ref m41, .int 0, .int 0, .ref m44, .int 0, .int 0, .int 0, .int 0])), (m14, .inl (cy 1, 414, .inl NW))]) (va_runV (As := [.int (xs 1), .int (xs 2), .int (xs 3)]) (rest := []) ⟨hx, hb, hml, hown, hts⟩ (c_X_sitters l D cy z H.size x kq1 kq7 kq13 kq18 kq23 kq24 kq28 kq31 kq32 kq33 kq34 kq35 kq36 kq39 kq40 kq41 kq42 kq43 kq44 kq45 kq46 kq47 kq48 kq49 kq62 kq78 (xs 1) (xs 2) (xs 3)) (cwV 3 hts (gV tw_729 tw_730 tw_731 tw_1 tw_732) rfl rfl rfl (by decide +kernel) ⟨Nat.le_of_ble_eq_true rfl, Nat.le_of_ble_eq_true rfl⟩) (preV hP hD hK hSD hS hA [0, 1, 2, 3] rfl (by decide) (q := (RX9, TX9, 15)) (ci := 9) (q0 := 0) rfl rfl) rfl rfl hl.1 rfl (lv_room (Nat.le_of_ble_eq_true rfl)) dL_law_884 ⟨Nat.le_of_ble_eq_true rfl, Nat.le_of_ble_eq_true rfl⟩) hP hD hS hA [0, 1, 2, 3] [4, 5] rfl rfl (by decide) (by decide) (fun r_2 u_1 H locs hw_2 hP hD hS => ?_)
  have hP : va_P D classes [(y, .inr (10, [.int 0, .ref m1, .int 0, .int 0, .int 0, .int 0, .int 0, .int 0, .int 0, .int 0, .int 0, .int 0, .long 0, .int 0, .ref m14, .ref m15, .ref m16, .ref m17, .ref m18, .ref m19, .ref m20, .ref m21, .ref m22, .ref m23, .ref m24, .int 0, .ref m26, .int (-1), .ref m28, .int (-1), .int (-1), .ref m31, .ref m32, .int 0, .int 0, .ref m35, .int 0, .ref m37, .int 0, .int 0, .ref m40, .ref m41, .int 0, .int 0, .ref m44, .int 0, .int 0, .int 0, .int 0])), (m14, .inl (cy 1, 414, .inl NW))] H := hP
  have hD : va_D (fun q : Nat => s.heap.size ≤ q) [(y, .inr (10, [.int 0, .ref m1, .int 0, .int 0, .int 0, .int 0, .int 0, .int 0, .int 0, .int 0, .int 0, .int 0, .long 0, .int 0, .ref m14, .ref m15, .ref m16, .ref m17, .ref m18, .ref m19, .ref m20, .ref m21, .ref m22, .ref m23, .ref m24, .int 0, .ref m26, .int (-1), .ref m28, .int (-1), .int (-1), .ref m31, .ref m32, .int 0, .int 0, .ref m35, .int 0, .ref m37, .int 0, .int 0, .ref m40, .ref m41, .int 0, .int 0, .ref m44, .int 0, .int 0, .int 0, .int 0])), (m14, .inl (cy 1, 414, .inl NW))] := hD
  have hw_2 : r_2 = -1 := hw_2
  subst hw_2
  refine lv_aload_n hx hb dL_law_887 rfl (lv_at hl 2 rfl) ?_
  refine lv_aload_n hx hb dL_law_888 rfl (lv_at hl 4 rfl) ?_
  refine lv_iload hx hb dL_law_889 (lv_at hl 0 rfl) ?_
  refine lv_iconst (v := 1) hx hb dL_law_891 (by decide) ?_
  refine lv_iadd hx hb dL_law_892 ?_
  refine tI (y := 1) (by decide) ?_
  refine va_sld hx hb hX hbl hbA hS (vp_in_nI (n := 1) (N := 6) (by decide) (by decide)) dL_law_893 ?_
  refine tI (y := xs 1) rfl ?_
  refine lv_aload_n hx hb dL_law_894 rfl (lv_at hl 4 rfl) ?_
  refine lv_iload hx hb dL_law_895 (lv_at hl 0 rfl) ?_
  refine lv_iconst (v := 2) hx hb dL_law_897 (by decide) ?_
  refine lv_iadd hx hb dL_law_898 ?_
  refine tI (y := 2) (by decide) ?_
  refine va_sld hx hb hX hbl hbA hS (vp_in_nI (n := 2) (N := 6) (by decide) (by decide)) dL_law_899 ?_
  refine tI (y := xs 2) rfl ?_
  refine lv_aload_n hx hb dL_law_900 rfl (lv_at hl 4 rfl) ?_
  refine lv_iload hx hb dL_law_901 (lv_at hl 0 rfl) ?_
  refine lv_iconst (v := 3) hx hb dL_law_903 (by decide) ?_
  refine lv_iadd hx hb dL_law_904 ?_
  refine tI (y := 3) (by decide) ?_
  refine va_sld hx hb hX hbl hbA hS (vp_in_nI (n := 3) (N := 6) (by decide) (by decide)) dL_law_905 ?_
  refine tI (y := xs 3) rfl ?_
  refine endi (wr := []) (va_runV (As := [.int (xs 1), .int (xs 2), .int (xs 3)]) (rest := [.int (-1)]) ⟨hx, hb, hml, hown, hts⟩ (c_M_sitters l D cy z H.size y m1 m14 m15 m16 m17 m18 m19 m20 m21 m22 m23 m24 m26 m28 m31 m32 m35 m37 m40 m41 m44 (xs 1) (xs 2) (xs 3)) (cwV 3 hts (gV tw_1595 tw_1596 tw_1597 tw_15 tw_1598) rfl rfl rfl (by decide +kernel) ⟨Nat.le_of_ble_eq_true rfl, Nat.le_of_ble_eq_true rfl⟩) (preV hP hD hK hSD hS hA [0, 1] rfl (by decide) (q := (RX10, TX10, 49)) (ci := 10) (q0 := 0) rfl rfl) rfl rfl hl.1 rfl (lv_room (Nat.le_of_ble_eq_true rfl)) dL_law_906 ⟨Nat.le_of_ble_eq_true rfl, Nat.le_of_ble_eq_true rfl⟩) hP hD hS hA [0, 1] [] rfl rfl (by decide) (by decide) (fun r_4 u_3 H locs hw_4 hP hD hS => ?_)
  have hP : va_P D classes [] H := hP
  have hD : va_D (fun q : Nat => s.heap.size ≤ q) [] := hD
  have hw_4 : r_4 = -1 := hw_4
  subst hw_4
  refine lv_icmp_eq (tgt := 1391) hx hb dL_law_909 (by decide) (fun _ => ?_) (fun c9 => absurd (by decide) c9)
  refine lv_iinc (v := 6) (lv' := [(4, .int 6), (3, .ref o), (2, .ref y), (1, .ref x), (0, .ref b)]) hx hb dL_law_1391 hl (k := 0) rfl (by decide) (by decide) rfl (fun ls hl => ?_)
  refine lv_goto (tgt := 23) hx hb dL_law_1394 (by decide) ?_
  refine lv_iload hx hb dL_law_23 (lv_at hl 0 rfl) ?_
  refine lv_aload_n hx hb dL_law_25 rfl (lv_at hl 4 rfl) ?_
  refine va_slen hx hb hX hbl hbA hS dL_law_26 ?_
  refine tI (y := 6) rfl ?_
  refine lv_bipush (v := 6) hx hb dL_law_27 (by decide) ?_
  refine lv_isub hx hb dL_law_29 ?_
  refine tI (y := 0) (by decide) ?_
  refine lv_icmp_gt (tgt := 1397) hx hb dL_law_30 (by decide) (fun _ => ?_) (fun c9 => absurd (by decide) c9)
  refine lv_iconst (v := 1) hx hb dL_law_1397 (by decide) ?_
  refine va_forget (fun q hq => hS.2.2 q hq) ?_
  refine W.widen (k := 600002) (n := 7302232) (Nat.le_of_ble_eq_true rfl) (Nat.le_of_ble_eq_true rfl) ?_
  exact lw_ret hx hb hr hlocks dL_law_1398
set_option maxHeartbeats 4000000 in
set_option maxRecDepth 100000 in
theorem op20 {p : Program} {e : Env} {s : State} {m : MethodId} {below : List Frame} {meth : Method} {c : Code} (l : Launch) {b : Nat} {xs : Nat → Int32} (hx : p.tables.exec = Jvm.exec) (hb : c.code = code) (hr : meth.sig.returnType = ret) (hlocks : meth.locks = false) (hml : c.maxLocals = 7) (hown : s.vm.findClass RL = some m.cls) (hts : ∀ w ∈ gT, w.before #[Value.ref b] s = true) (hX : va_X b 6 xs s s.heap) (hbl : b < s.heap.size) (D : va_G) (cy : Nat → ClassId) (z : Nat → Nat) (hK : va_K D classes (TY cy) s) (hSD : SD z (fun q : Nat => s.heap.size ≤ q) s) (x : Nat) (kq1 : Nat) (kq7 : Nat) (kq13 : Nat) (kq18 : Nat) (kq23 : Nat) (kq24 : Nat) (kq36 : Nat) (kq49 : Nat) (kq62 : Nat) (kq78 : Nat) (y : Nat) (m1 : Nat) (m14 : Nat) (m15 : Nat) (m16 : Nat) (m17 : Nat) (m18 : Nat) (m19 : Nat) (m20 : Nat) (m21 : Nat) (m22 : Nat) (m23 : Nat) (m24 : Nat) (m26 : Nat) (m28 : Nat) (m31 : Nat) (m32 : Nat) (m35 : Nat) (m37 : Nat) (m40 : Nat) (m41 : Nat) (m44 : Nat) (o : Nat) {H : Heap} {locs : List Loc} (hP : va_P D classes [(x, .inr (9, [.ref kq1, .ref kq36, .ref kq49, .ref kq62, .ref kq78, .null, .ref kq7, .ref kq13, .ref kq18, .ref kq23, .ref kq24, .int 0, .int (-1), .int (-1), .int (-1)])), (y, .inr (10, [.int 0, .ref m1, .int 0, .int 0, .int 0, .int 0, .int 0, .int 0, .int 0, .int 0, .int 0, .int 0, .long 0, .int 0, .ref m14, .ref m15, .ref m16, .ref m17, .ref m18, .ref m19, .ref m20, .ref m21, .ref m22, .ref m23, .ref m24, .int 0, .ref m26, .int (-1), .ref m28, .int (-1), .int (-1), .ref m31, .ref m32, .int 0, .int 0, .ref m35, .int 0, .ref m37, .int 0, .int 0, .ref m40, .ref m41, .int 0, .int 0, .ref m44, .int 0, .int 0, .int 0, .int 0]))] H) (hD : va_D (fun q : Nat => s.heap.size ≤ q) [(x, .inr (9, [.ref kq1, .ref kq36, .ref kq49, .ref kq62, .ref kq78, .null, .ref kq7, .ref kq13, .ref kq18, .ref kq23, .ref kq24, .int 0, .int (-1), .int (-1), .int (-1)])), (y, .inr (10, [.int 0, .ref m1, .int 0, .int 0, .int 0, .int 0, .int 0, .int 0, .int 0, .int 0, .int 0, .int 0, .long 0, .int 0, .ref m14, .ref m15, .ref m16, .ref m17, .ref m18, .ref m19, .ref m20, .ref m21, .ref m22, .ref m23, .ref m24, .int 0, .ref m26, .int (-1), .ref m28, .int (-1), .int (-1), .ref m31, .ref m32, .int 0, .int 0, .ref m35, .int 0, .ref m37, .int 0, .int 0, .ref m40, .ref m41, .int 0, .int 0, .ref m44, .int 0, .int 0, .int 0, .int 0]))]) (hS : va_S (fun q : Nat => s.heap.size ≤ q) s.heap H locs) {ls : Array Slot} (hl : lv_has ls 7 [(4, .int 0), (3, .ref o), (2, .ref y), (1, .ref x), (0, .ref b)]) : W p l e room_1 s m #[Value.ref b] below meth c H locs 192 6460 (lw_Z below #[Value.ref b] s) (F0 m 914 ls []) := by
  have hA : ∀ q : Nat, s.heap.size ≤ q → (fun q : Nat => s.heap.size ≤ q) q := fun _ h => h
  have hbA : ¬ (fun q : Nat => s.heap.size ≤ q) b := Nat.not_le.mpr hbl
  refine lv_aload_n hx hb dL_law_914 rfl (lv_at hl 3 rfl) ?_
  refine endi (wr := [(y, .inr (10, [.int 0, .ref m1, .int 0, .int 0, .int 0, .int 0, .int 0, .int 0, .int 0, .int 0, .int 0, .int 0, .long 0, .int 0, .ref m14, .ref m15, .ref m16, .ref m17, .ref m18, .ref m19, .ref m20, .ref m21, .ref m22, .ref m23, .ref m24, .int 0, .ref m26, .int (-1), .ref m28, .int (-1), .int (-1), .ref m31, .ref m32, .int 0, .int 0, .ref m35, .int 0, .ref m37, .int 0, .int 0, .ref m40, .ref m41, .int 0, .int 0, .ref m44, .int 0, .int 0, .int 0, .int 0]))]) (va_runV (As := []) (rest := []) ⟨hx, hb, hml, hown, hts⟩ (c_X_sitting l D cy z H.size x kq1 kq7 kq13 kq18 kq23 kq24 kq36 kq49 kq62 kq78) (cwV 0 hts (gV tw_748 tw_749 tw_750 tw_1 tw_751) rfl rfl rfl (by decide +kernel) ⟨Nat.le_of_ble_eq_true rfl, Nat.le_of_ble_eq_true rfl⟩) (preV hP hD hK hSD hS hA [0] rfl (by decide) (q := (RX9, TX9, 15)) (ci := 9) (q0 := 0) rfl rfl) rfl rfl hl.1 rfl (lv_room (Nat.le_of_ble_eq_true rfl)) dL_law_915 ⟨Nat.le_of_ble_eq_true rfl, Nat.le_of_ble_eq_true rfl⟩) hP hD hS hA [0] [1] rfl rfl (by decide) (by decide) (fun r_2 u_1 H locs hw_2 hP hD hS => ?_)
  have hP : va_P D classes [(y, .inr (10, [.int 0, .ref m1, .int 0, .int 0, .int 0, .int 0, .int 0, .int 0, .int 0, .int 0, .int 0, .int 0, .long 0, .int 0, .ref m14, .ref m15, .ref m16, .ref m17, .ref m18, .ref m19, .ref m20, .ref m21, .ref m22, .ref m23, .ref m24, .int 0, .ref m26, .int (-1), .ref m28, .int (-1), .int (-1), .ref m31, .ref m32, .int 0, .int 0, .ref m35, .int 0, .ref m37, .int 0, .int 0, .ref m40, .ref m41, .int 0, .int 0, .ref m44, .int 0, .int 0, .int 0, .int 0]))] H := hP
  have hD : va_D (fun q : Nat => s.heap.size ≤ q) [(y, .inr (10, [.int 0, .ref m1, .int 0, .int 0, .int 0, .int 0, .int 0, .int 0, .int 0, .int 0, .int 0, .int 0, .long 0, .int 0, .ref m14, .ref m15, .ref m16, .ref m17, .ref m18, .ref m19, .ref m20, .ref m21, .ref m22, .ref m23, .ref m24, .int 0, .ref m26, .int (-1), .ref m28, .int (-1), .int (-1), .ref m31, .ref m32, .int 0, .int 0, .ref m35, .int 0, .ref m37, .int 0, .int 0, .ref m40, .ref m41, .int 0, .int 0, .ref m44, .int 0, .int 0, .int 0, .int 0]))] := hD
  have hw_2 : r_2 = -1 := hw_2
  subst hw_2
  refine lv_aload_n hx hb dL_law_918 rfl (lv_at hl 2 rfl) ?_
  refine endi (wr := []) (va_runV (As := []) (rest := [.int (-1)]) ⟨hx, hb, hml, hown, hts⟩ (c_M_sitting l D cy z H.size y m1 m14 m15 m16 m17 m18 m19 m20 m21 m22 m23 m24 m26 m28 m31 m32 m35 m37 m40 m41 m44) (cwV 0 hts (gV tw_1599 tw_1600 tw_1601 tw_15 tw_1602) rfl rfl rfl (by decide +kernel) ⟨Nat.le_of_ble_eq_true rfl, Nat.le_of_ble_eq_true rfl⟩) (preV hP hD hK hSD hS hA [0] rfl (by decide) (q := (RX10, TX10, 49)) (ci := 10) (q0 := 0) rfl rfl) rfl rfl hl.1 rfl (lv_room (Nat.le_of_ble_eq_true rfl)) dL_law_919 ⟨Nat.le_of_ble_eq_true rfl, Nat.le_of_ble_eq_true rfl⟩) hP hD hS hA [0] [] rfl rfl (by decide) (by decide) (fun r_4 u_3 H locs hw_4 hP hD hS => ?_)
  have hP : va_P D classes [] H := hP
  have hD : va_D (fun q : Nat => s.heap.size ≤ q) [] := hD
  have hw_4 : r_4 = -1 := hw_4
  subst hw_4
  refine lv_icmp_eq (tgt := 1391) hx hb dL_law_922 (by decide) (fun _ => ?_) (fun c9 => absurd (by decide) c9)
  refine lv_iinc (v := 6) (lv' := [(4, .int 6), (3, .ref o), (2, .ref y), (1, .ref x), (0, .ref b)]) hx hb dL_law_1391 hl (k := 0) rfl (by decide) (by decide) rfl (fun ls hl => ?_)
  refine lv_goto (tgt := 23) hx hb dL_law_1394 (by decide) ?_
  refine lv_iload hx hb dL_law_23 (lv_at hl 0 rfl) ?_
  refine lv_aload_n hx hb dL_law_25 rfl (lv_at hl 4 rfl) ?_
  refine va_slen hx hb hX hbl hbA hS dL_law_26 ?_
  refine tI (y := 6) rfl ?_
  refine lv_bipush (v := 6) hx hb dL_law_27 (by decide) ?_
  refine lv_isub hx hb dL_law_29 ?_
  refine tI (y := 0) (by decide) ?_
  refine lv_icmp_gt (tgt := 1397) hx hb dL_law_30 (by decide) (fun _ => ?_) (fun c9 => absurd (by decide) c9)
  refine lv_iconst (v := 1) hx hb dL_law_1397 (by decide) ?_
  refine va_forget (fun q hq => hS.2.2 q hq) ?_
  refine W.widen (k := 600002) (n := 7302232) (Nat.le_of_ble_eq_true rfl) (Nat.le_of_ble_eq_true rfl) ?_
  exact lw_ret hx hb hr hlocks dL_law_1398
set_option maxHeartbeats 4000000 in
set_option maxRecDepth 100000 in
theorem op21 {p : Program} {e : Env} {s : State} {m : MethodId} {below : List Frame} {meth : Method} {c : Code} (l : Launch) {b : Nat} {xs : Nat → Int32} (hx : p.tables.exec = Jvm.exec) (hb : c.code = code) (hr : meth.sig.returnType = ret) (hlocks : meth.locks = false) (hml : c.maxLocals = 7) (hown : s.vm.findClass RL = some m.cls) (hts : ∀ w ∈ gT, w.before #[Value.ref b] s = true) (hX : va_X b 6 xs s s.heap) (hbl : b < s.heap.size) (D : va_G) (cy : Nat → ClassId) (z : Nat → Nat) (hK : va_K D classes (TY cy) s) (hSD : SD z (fun q : Nat => s.heap.size ≤ q) s) (x : Nat) (kq1 : Nat) (kq4 : Nat) (kq5 : Nat) (kq7 : Nat) (kq13 : Nat) (kq18 : Nat) (kq23 : Nat) (kq24 : Nat) (kq36 : Nat) (kq49 : Nat) (kq62 : Nat) (kq78 : Nat) (y : Nat) (m1 : Nat) (m14 : Nat) (m15 : Nat) (m16 : Nat) (m17 : Nat) (m18 : Nat) (m19 : Nat) (m20 : Nat) (m21 : Nat) (m22 : Nat) (m23 : Nat) (m24 : Nat) (m26 : Nat) (m28 : Nat) (m31 : Nat) (m32 : Nat) (m35 : Nat) (m37 : Nat) (m40 : Nat) (m41 : Nat) (m44 : Nat) (o : Nat) {H : Heap} {locs : List Loc} (hP : va_P D classes [(x, .inr (9, [.ref kq1, .ref kq36, .ref kq49, .ref kq62, .ref kq78, .null, .ref kq7, .ref kq13, .ref kq18, .ref kq23, .ref kq24, .int 0, .int (-1), .int (-1), .int (-1)])), (kq1, .inr (7, [.ref kq4, .ref kq5, .int 0, .int 0, .int 0, .int 0, .int 0, .int 0, .long 0, .int 0, .int 0, .int 0])), (y, .inr (10, [.int 0, .ref m1, .int 0, .int 0, .int 0, .int 0, .int 0, .int 0, .int 0, .int 0, .int 0, .int 0, .long 0, .int 0, .ref m14, .ref m15, .ref m16, .ref m17, .ref m18, .ref m19, .ref m20, .ref m21, .ref m22, .ref m23, .ref m24, .int 0, .ref m26, .int (-1), .ref m28, .int (-1), .int (-1), .ref m31, .ref m32, .int 0, .int 0, .ref m35, .int 0, .ref m37, .int 0, .int 0, .ref m40, .ref m41, .int 0, .int 0, .ref m44, .int 0, .int 0, .int 0, .int 0]))] H) (hD : va_D (fun q : Nat => s.heap.size ≤ q) [(x, .inr (9, [.ref kq1, .ref kq36, .ref kq49, .ref kq62, .ref kq78, .null, .ref kq7, .ref kq13, .ref kq18, .ref kq23, .ref kq24, .int 0, .int (-1), .int (-1), .int (-1)])), (kq1, .inr (7, [.ref kq4, .ref kq5, .int 0, .int 0, .int 0, .int 0, .int 0, .int 0, .long 0, .int 0, .int 0, .int 0])), (y, .inr (10, [.int 0, .ref m1, .int 0, .int 0, .int 0, .int 0, .int 0, .int 0, .int 0, .int 0, .int 0, .int 0, .long 0, .int 0, .ref m14, .ref m15, .ref m16, .ref m17, .ref m18, .ref m19, .ref m20, .ref m21, .ref m22, .ref m23, .ref m24, .int 0, .ref m26, .int (-1), .ref m28, .int (-1), .int (-1), .ref m31, .ref m32, .int 0, .int 0, .ref m35, .int 0, .ref m37, .int 0, .int 0, .ref m40, .ref m41, .int 0, .int 0, .ref m44, .int 0, .int 0, .int 0, .int 0]))]) (hS : va_S (fun q : Nat => s.heap.size ≤ q) s.heap H locs) {ls : Array Slot} (hl : lv_has ls 7 [(4, .int 0), (3, .ref o), (2, .ref y), (1, .ref x), (0, .ref b)]) : W p l e room_1 s m #[Value.ref b] below meth c H locs 192 6460 (lw_Z below #[Value.ref b] s) (F0 m 927 ls []) := by
  have hA : ∀ q : Nat, s.heap.size ≤ q → (fun q : Nat => s.heap.size ≤ q) q := fun _ h => h
  have hbA : ¬ (fun q : Nat => s.heap.size ≤ q) b := Nat.not_le.mpr hbl
  refine lv_aload_n hx hb dL_law_927 rfl (lv_at hl 3 rfl) ?_
  refine endi (wr := [(y, .inr (10, [.int 0, .ref m1, .int 0, .int 0, .int 0, .int 0, .int 0, .int 0, .int 0, .int 0, .int 0, .int 0, .long 0, .int 0, .ref m14, .ref m15, .ref m16, .ref m17, .ref m18, .ref m19, .ref m20, .ref m21, .ref m22, .ref m23, .ref m24, .int 0, .ref m26, .int (-1), .ref m28, .int (-1), .int (-1), .ref m31, .ref m32, .int 0, .int 0, .ref m35, .int 0, .ref m37, .int 0, .int 0, .ref m40, .ref m41, .int 0, .int 0, .ref m44, .int 0, .int 0, .int 0, .int 0]))]) (va_runV (As := []) (rest := []) ⟨hx, hb, hml, hown, hts⟩ (c_X_sat l D cy z H.size x kq1 kq4 kq5 kq7 kq13 kq18 kq23 kq24 kq36 kq49 kq62 kq78) (cwV 0 hts (gV tw_752 tw_753 tw_754 tw_1 tw_755) rfl rfl rfl (by decide +kernel) ⟨Nat.le_of_ble_eq_true rfl, Nat.le_of_ble_eq_true rfl⟩) (preV hP hD hK hSD hS hA [0, 1] rfl (by decide) (q := (RX9, TX9, 15)) (ci := 9) (q0 := 0) rfl rfl) rfl rfl hl.1 rfl (lv_room (Nat.le_of_ble_eq_true rfl)) dL_law_928 ⟨Nat.le_of_ble_eq_true rfl, Nat.le_of_ble_eq_true rfl⟩) hP hD hS hA [0, 1] [2] rfl rfl (by decide) (by decide) (fun r_2 u_1 H locs hw_2 hP hD hS => ?_)
  have hP : va_P D classes [(y, .inr (10, [.int 0, .ref m1, .int 0, .int 0, .int 0, .int 0, .int 0, .int 0, .int 0, .int 0, .int 0, .int 0, .long 0, .int 0, .ref m14, .ref m15, .ref m16, .ref m17, .ref m18, .ref m19, .ref m20, .ref m21, .ref m22, .ref m23, .ref m24, .int 0, .ref m26, .int (-1), .ref m28, .int (-1), .int (-1), .ref m31, .ref m32, .int 0, .int 0, .ref m35, .int 0, .ref m37, .int 0, .int 0, .ref m40, .ref m41, .int 0, .int 0, .ref m44, .int 0, .int 0, .int 0, .int 0]))] H := hP
  have hD : va_D (fun q : Nat => s.heap.size ≤ q) [(y, .inr (10, [.int 0, .ref m1, .int 0, .int 0, .int 0, .int 0, .int 0, .int 0, .int 0, .int 0, .int 0, .int 0, .long 0, .int 0, .ref m14, .ref m15, .ref m16, .ref m17, .ref m18, .ref m19, .ref m20, .ref m21, .ref m22, .ref m23, .ref m24, .int 0, .ref m26, .int (-1), .ref m28, .int (-1), .int (-1), .ref m31, .ref m32, .int 0, .int 0, .ref m35, .int 0, .ref m37, .int 0, .int 0, .ref m40, .ref m41, .int 0, .int 0, .ref m44, .int 0, .int 0, .int 0, .int 0]))] := hD
  have hw_2 : r_2 = -1 := hw_2
  subst hw_2
  refine lv_aload_n hx hb dL_law_931 rfl (lv_at hl 2 rfl) ?_
  refine endi (wr := []) (va_runV (As := []) (rest := [.int (-1)]) ⟨hx, hb, hml, hown, hts⟩ (c_M_sat l D cy z H.size y m1 m14 m15 m16 m17 m18 m19 m20 m21 m22 m23 m24 m26 m28 m31 m32 m35 m37 m40 m41 m44) (cwV 0 hts (gV tw_1603 tw_1604 tw_1605 tw_15 tw_1606) rfl rfl rfl (by decide +kernel) ⟨Nat.le_of_ble_eq_true rfl, Nat.le_of_ble_eq_true rfl⟩) (preV hP hD hK hSD hS hA [0] rfl (by decide) (q := (RX10, TX10, 49)) (ci := 10) (q0 := 0) rfl rfl) rfl rfl hl.1 rfl (lv_room (Nat.le_of_ble_eq_true rfl)) dL_law_932 ⟨Nat.le_of_ble_eq_true rfl, Nat.le_of_ble_eq_true rfl⟩) hP hD hS hA [0] [] rfl rfl (by decide) (by decide) (fun r_4 u_3 H locs hw_4 hP hD hS => ?_)
  have hP : va_P D classes [] H := hP
  have hD : va_D (fun q : Nat => s.heap.size ≤ q) [] := hD
  have hw_4 : r_4 = -1 := hw_4
  subst hw_4
  refine lv_icmp_eq (tgt := 1391) hx hb dL_law_935 (by decide) (fun _ => ?_) (fun c9 => absurd (by decide) c9)
  refine lv_iinc (v := 6) (lv' := [(4, .int 6), (3, .ref o), (2, .ref y), (1, .ref x), (0, .ref b)]) hx hb dL_law_1391 hl (k := 0) rfl (by decide) (by decide) rfl (fun ls hl => ?_)
  refine lv_goto (tgt := 23) hx hb dL_law_1394 (by decide) ?_
  refine lv_iload hx hb dL_law_23 (lv_at hl 0 rfl) ?_
  refine lv_aload_n hx hb dL_law_25 rfl (lv_at hl 4 rfl) ?_
  refine va_slen hx hb hX hbl hbA hS dL_law_26 ?_
  refine tI (y := 6) rfl ?_
  refine lv_bipush (v := 6) hx hb dL_law_27 (by decide) ?_
  refine lv_isub hx hb dL_law_29 ?_
  refine tI (y := 0) (by decide) ?_
  refine lv_icmp_gt (tgt := 1397) hx hb dL_law_30 (by decide) (fun _ => ?_) (fun c9 => absurd (by decide) c9)
  refine lv_iconst (v := 1) hx hb dL_law_1397 (by decide) ?_
  refine va_forget (fun q hq => hS.2.2 q hq) ?_
  refine W.widen (k := 600002) (n := 7302232) (Nat.le_of_ble_eq_true rfl) (Nat.le_of_ble_eq_true rfl) ?_
  exact lw_ret hx hb hr hlocks dL_law_1398
set_option maxHeartbeats 4000000 in
set_option maxRecDepth 100000 in
theorem op22 {p : Program} {e : Env} {s : State} {m : MethodId} {below : List Frame} {meth : Method} {c : Code} (l : Launch) {b : Nat} {xs : Nat → Int32} (hx : p.tables.exec = Jvm.exec) (hb : c.code = code) (hr : meth.sig.returnType = ret) (hlocks : meth.locks = false) (hml : c.maxLocals = 7) (hown : s.vm.findClass RL = some m.cls) (hts : ∀ w ∈ gT, w.before #[Value.ref b] s = true) (hX : va_X b 6 xs s s.heap) (hbl : b < s.heap.size) (D : va_G) (cy : Nat → ClassId) (z : Nat → Nat) (hK : va_K D classes (TY cy) s) (hSD : SD z (fun q : Nat => s.heap.size ≤ q) s) (x : Nat) (kq1 : Nat) (kq7 : Nat) (kq13 : Nat) (kq18 : Nat) (kq23 : Nat) (kq24 : Nat) (kq36 : Nat) (kq49 : Nat) (kq62 : Nat) (kq78 : Nat) (y : Nat) (m1 : Nat) (m14 : Nat) (m15 : Nat) (m16 : Nat) (m17 : Nat) (m18 : Nat) (m19 : Nat) (m20 : Nat) (m21 : Nat) (m22 : Nat) (m23 : Nat) (m24 : Nat) (m26 : Nat) (m28 : Nat) (m31 : Nat) (m32 : Nat) (m35 : Nat) (m37 : Nat) (m40 : Nat) (m41 : Nat) (m44 : Nat) (o : Nat) {H : Heap} {locs : List Loc} (hP : va_P D classes [(x, .inr (9, [.ref kq1, .ref kq36, .ref kq49, .ref kq62, .ref kq78, .null, .ref kq7, .ref kq13, .ref kq18, .ref kq23, .ref kq24, .int 0, .int (-1), .int (-1), .int (-1)])), (y, .inr (10, [.int 0, .ref m1, .int 0, .int 0, .int 0, .int 0, .int 0, .int 0, .int 0, .int 0, .int 0, .int 0, .long 0, .int 0, .ref m14, .ref m15, .ref m16, .ref m17, .ref m18, .ref m19, .ref m20, .ref m21, .ref m22, .ref m23, .ref m24, .int 0, .ref m26, .int (-1), .ref m28, .int (-1), .int (-1), .ref m31, .ref m32, .int 0, .int 0, .ref m35, .int 0, .ref m37, .int 0, .int 0, .ref m40, .ref m41, .int 0, .int 0, .ref m44, .int 0, .int 0, .int 0, .int 0]))] H) (hD : va_D (fun q : Nat => s.heap.size ≤ q) [(x, .inr (9, [.ref kq1, .ref kq36, .ref kq49, .ref kq62, .ref kq78, .null, .ref kq7, .ref kq13, .ref kq18, .ref kq23, .ref kq24, .int 0, .int (-1), .int (-1), .int (-1)])), (y, .inr (10, [.int 0, .ref m1, .int 0, .int 0, .int 0, .int 0, .int 0, .int 0, .int 0, .int 0, .int 0, .int 0, .long 0, .int 0, .ref m14, .ref m15, .ref m16, .ref m17, .ref m18, .ref m19, .ref m20, .ref m21, .ref m22, .ref m23, .ref m24, .int 0, .ref m26, .int (-1), .ref m28, .int (-1), .int (-1), .ref m31, .ref m32, .int 0, .int 0, .ref m35, .int 0, .ref m37, .int 0, .int 0, .ref m40, .ref m41, .int 0, .int 0, .ref m44, .int 0, .int 0, .int 0, .int 0]))]) (hS : va_S (fun q : Nat => s.heap.size ≤ q) s.heap H locs) {ls : Array Slot} (hl : lv_has ls 7 [(4, .int 0), (3, .ref o), (2, .ref y), (1, .ref x), (0, .ref b)]) : W p l e room_1 s m #[Value.ref b] below meth c H locs 192 6460 (lw_Z below #[Value.ref b] s) (F0 m 940 ls []) := by
  have hA : ∀ q : Nat, s.heap.size ≤ q → (fun q : Nat => s.heap.size ≤ q) q := fun _ h => h
  have hbA : ¬ (fun q : Nat => s.heap.size ≤ q) b := Nat.not_le.mpr hbl
  refine lv_aload_n hx hb dL_law_940 rfl (lv_at hl 3 rfl) ?_
  refine endi (wr := [(y, .inr (10, [.int 0, .ref m1, .int 0, .int 0, .int 0, .int 0, .int 0, .int 0, .int 0, .int 0, .int 0, .int 0, .long 0, .int 0, .ref m14, .ref m15, .ref m16, .ref m17, .ref m18, .ref m19, .ref m20, .ref m21, .ref m22, .ref m23, .ref m24, .int 0, .ref m26, .int (-1), .ref m28, .int (-1), .int (-1), .ref m31, .ref m32, .int 0, .int 0, .ref m35, .int 0, .ref m37, .int 0, .int 0, .ref m40, .ref m41, .int 0, .int 0, .ref m44, .int 0, .int 0, .int 0, .int 0]))]) (va_runV (As := []) (rest := []) ⟨hx, hb, hml, hown, hts⟩ (c_X_surely l D cy z H.size x kq1 kq7 kq13 kq18 kq23 kq24 kq36 kq49 kq62 kq78) (cwV 0 hts (gV tw_771 tw_772 tw_773 tw_1 tw_774) rfl rfl rfl (by decide +kernel) ⟨Nat.le_of_ble_eq_true rfl, Nat.le_of_ble_eq_true rfl⟩) (preV hP hD hK hSD hS hA [0] rfl (by decide) (q := (RX9, TX9, 15)) (ci := 9) (q0 := 0) rfl rfl) rfl rfl hl.1 rfl (lv_room (Nat.le_of_ble_eq_true rfl)) dL_law_941 ⟨Nat.le_of_ble_eq_true rfl, Nat.le_of_ble_eq_true rfl⟩) hP hD hS hA [0] [1] rfl rfl (by decide) (by decide) (fun r_2 u_1 H locs hw_2 hP hD hS => ?_)
  have hP : va_P D classes [(y, .inr (10, [.int 0, .ref m1, .int 0, .int 0, .int 0, .int 0, .int 0, .int 0, .int 0, .int 0, .int 0, .int 0, .long 0, .int 0, .ref m14, .ref m15, .ref m16, .ref m17, .ref m18, .ref m19, .ref m20, .ref m21, .ref m22, .ref m23, .ref m24, .int 0, .ref m26, .int (-1), .ref m28, .int (-1), .int (-1), .ref m31, .ref m32, .int 0, .int 0, .ref m35, .int 0, .ref m37, .int 0, .int 0, .ref m40, .ref m41, .int 0, .int 0, .ref m44, .int 0, .int 0, .int 0, .int 0]))] H := hP
  have hD : va_D (fun q : Nat => s.heap.size ≤ q) [(y, .inr (10, [.int 0, .ref m1, .int 0, .int 0, .int 0, .int 0, .int 0, .int 0, .int 0, .int 0, .int 0, .int 0, .long 0, .int 0, .ref m14, .ref m15, .ref m16, .ref m17, .ref m18, .ref m19, .ref m20, .ref m21, .ref m22, .ref m23, .ref m24, .int 0, .ref m26, .int (-1), .ref m28, .int (-1), .int (-1), .ref m31, .ref m32, .int 0, .int 0, .ref m35, .int 0, .ref m37, .int 0, .int 0, .ref m40, .ref m41, .int 0, .int 0, .ref m44, .int 0, .int 0, .int 0, .int 0]))] := hD
  have hw_2 : r_2 = -1 := hw_2
  subst hw_2
  refine lv_aload_n hx hb dL_law_944 rfl (lv_at hl 2 rfl) ?_
  refine endi (wr := []) (va_runV (As := []) (rest := [.int (-1)]) ⟨hx, hb, hml, hown, hts⟩ (c_M_surely l D cy z H.size y m1 m14 m15 m16 m17 m18 m19 m20 m21 m22 m23 m24 m26 m28 m31 m32 m35 m37 m40 m41 m44) (cwV 0 hts (gV tw_1622 tw_1623 tw_1624 tw_15 tw_1625) rfl rfl rfl (by decide +kernel) ⟨Nat.le_of_ble_eq_true rfl, Nat.le_of_ble_eq_true rfl⟩) (preV hP hD hK hSD hS hA [0] rfl (by decide) (q := (RX10, TX10, 49)) (ci := 10) (q0 := 0) rfl rfl) rfl rfl hl.1 rfl (lv_room (Nat.le_of_ble_eq_true rfl)) dL_law_945 ⟨Nat.le_of_ble_eq_true rfl, Nat.le_of_ble_eq_true rfl⟩) hP hD hS hA [0] [] rfl rfl (by decide) (by decide) (fun r_4 u_3 H locs hw_4 hP hD hS => ?_)
  have hP : va_P D classes [] H := hP
  have hD : va_D (fun q : Nat => s.heap.size ≤ q) [] := hD
  have hw_4 : r_4 = -1 := hw_4
  subst hw_4
  refine lv_icmp_eq (tgt := 1391) hx hb dL_law_948 (by decide) (fun _ => ?_) (fun c9 => absurd (by decide) c9)
  refine lv_iinc (v := 6) (lv' := [(4, .int 6), (3, .ref o), (2, .ref y), (1, .ref x), (0, .ref b)]) hx hb dL_law_1391 hl (k := 0) rfl (by decide) (by decide) rfl (fun ls hl => ?_)
  refine lv_goto (tgt := 23) hx hb dL_law_1394 (by decide) ?_
  refine lv_iload hx hb dL_law_23 (lv_at hl 0 rfl) ?_
  refine lv_aload_n hx hb dL_law_25 rfl (lv_at hl 4 rfl) ?_
  refine va_slen hx hb hX hbl hbA hS dL_law_26 ?_
  refine tI (y := 6) rfl ?_
  refine lv_bipush (v := 6) hx hb dL_law_27 (by decide) ?_
  refine lv_isub hx hb dL_law_29 ?_
  refine tI (y := 0) (by decide) ?_
  refine lv_icmp_gt (tgt := 1397) hx hb dL_law_30 (by decide) (fun _ => ?_) (fun c9 => absurd (by decide) c9)
  refine lv_iconst (v := 1) hx hb dL_law_1397 (by decide) ?_
  refine va_forget (fun q hq => hS.2.2 q hq) ?_
  refine W.widen (k := 600002) (n := 7302232) (Nat.le_of_ble_eq_true rfl) (Nat.le_of_ble_eq_true rfl) ?_
  exact lw_ret hx hb hr hlocks dL_law_1398
set_option maxHeartbeats 4000000 in
set_option maxRecDepth 100000 in
theorem op23 {p : Program} {e : Env} {s : State} {m : MethodId} {below : List Frame} {meth : Method} {c : Code} (l : Launch) {b : Nat} {xs : Nat → Int32} (hx : p.tables.exec = Jvm.exec) (hb : c.code = code) (hr : meth.sig.returnType = ret) (hlocks : meth.locks = false) (hml : c.maxLocals = 7) (hown : s.vm.findClass RL = some m.cls) (hts : ∀ w ∈ gT, w.before #[Value.ref b] s = true) (hX : va_X b 6 xs s s.heap) (hbl : b < s.heap.size) (D : va_G) (cy : Nat → ClassId) (z : Nat → Nat) (hK : va_K D classes (TY cy) s) (hSD : SD z (fun q : Nat => s.heap.size ≤ q) s) (x : Nat) (kq1 : Nat) (kq7 : Nat) (kq13 : Nat) (kq18 : Nat) (kq23 : Nat) (kq24 : Nat) (kq36 : Nat) (kq49 : Nat) (kq62 : Nat) (kq78 : Nat) (y : Nat) (m1 : Nat) (m14 : Nat) (m15 : Nat) (m16 : Nat) (m17 : Nat) (m18 : Nat) (m19 : Nat) (m20 : Nat) (m21 : Nat) (m22 : Nat) (m23 : Nat) (m24 : Nat) (m26 : Nat) (m28 : Nat) (m31 : Nat) (m32 : Nat) (m35 : Nat) (m37 : Nat) (m40 : Nat) (m41 : Nat) (m44 : Nat) (o : Nat) {H : Heap} {locs : List Loc} (hP : va_P D classes [(x, .inr (9, [.ref kq1, .ref kq36, .ref kq49, .ref kq62, .ref kq78, .null, .ref kq7, .ref kq13, .ref kq18, .ref kq23, .ref kq24, .int 0, .int (-1), .int (-1), .int (-1)])), (y, .inr (10, [.int 0, .ref m1, .int 0, .int 0, .int 0, .int 0, .int 0, .int 0, .int 0, .int 0, .int 0, .int 0, .long 0, .int 0, .ref m14, .ref m15, .ref m16, .ref m17, .ref m18, .ref m19, .ref m20, .ref m21, .ref m22, .ref m23, .ref m24, .int 0, .ref m26, .int (-1), .ref m28, .int (-1), .int (-1), .ref m31, .ref m32, .int 0, .int 0, .ref m35, .int 0, .ref m37, .int 0, .int 0, .ref m40, .ref m41, .int 0, .int 0, .ref m44, .int 0, .int 0, .int 0, .int 0]))] H) (hD : va_D (fun q : Nat => s.heap.size ≤ q) [(x, .inr (9, [.ref kq1, .ref kq36, .ref kq49, .ref kq62, .ref kq78, .null, .ref kq7, .ref kq13, .ref kq18, .ref kq23, .ref kq24, .int 0, .int (-1), .int (-1), .int (-1)])), (y, .inr (10, [.int 0, .ref m1, .int 0, .int 0, .int 0, .int 0, .int 0, .int 0, .int 0, .int 0, .int 0, .int 0, .long 0, .int 0, .ref m14, .ref m15, .ref m16, .ref m17, .ref m18, .ref m19, .ref m20, .ref m21, .ref m22, .ref m23, .ref m24, .int 0, .ref m26, .int (-1), .ref m28, .int (-1), .int (-1), .ref m31, .ref m32, .int 0, .int 0, .ref m35, .int 0, .ref m37, .int 0, .int 0, .ref m40, .ref m41, .int 0, .int 0, .ref m44, .int 0, .int 0, .int 0, .int 0]))]) (hS : va_S (fun q : Nat => s.heap.size ≤ q) s.heap H locs) {ls : Array Slot} (hl : lv_has ls 7 [(4, .int 0), (3, .ref o), (2, .ref y), (1, .ref x), (0, .ref b)]) : W p l e room_1 s m #[Value.ref b] below meth c H locs 192 6460 (lw_Z below #[Value.ref b] s) (F0 m 953 ls []) := by
  have hA : ∀ q : Nat, s.heap.size ≤ q → (fun q : Nat => s.heap.size ≤ q) q := fun _ h => h
  have hbA : ¬ (fun q : Nat => s.heap.size ≤ q) b := Nat.not_le.mpr hbl
  refine lv_aload_n hx hb dL_law_953 rfl (lv_at hl 3 rfl) ?_
  refine endi (wr := [(y, .inr (10, [.int 0, .ref m1, .int 0, .int 0, .int 0, .int 0, .int 0, .int 0, .int 0, .int 0, .int 0, .int 0, .long 0, .int 0, .ref m14, .ref m15, .ref m16, .ref m17, .ref m18, .ref m19, .ref m20, .ref m21, .ref m22, .ref m23, .ref m24, .int 0, .ref m26, .int (-1), .ref m28, .int (-1), .int (-1), .ref m31, .ref m32, .int 0, .int 0, .ref m35, .int 0, .ref m37, .int 0, .int 0, .ref m40, .ref m41, .int 0, .int 0, .ref m44, .int 0, .int 0, .int 0, .int 0]))]) (va_runV (As := []) (rest := []) ⟨hx, hb, hml, hown, hts⟩ (c_X_ask l D cy z H.size x kq1 kq7 kq13 kq18 kq23 kq24 kq36 kq49 kq62 kq78) (cwV 0 hts (gV tw_775 tw_776 tw_777 tw_1 tw_778) rfl rfl rfl (by decide +kernel) ⟨Nat.le_of_ble_eq_true rfl, Nat.le_of_ble_eq_true rfl⟩) (preV hP hD hK hSD hS hA [0] rfl (by decide) (q := (RX9, TX9, 15)) (ci := 9) (q0 := 0) rfl rfl) rfl rfl hl.1 rfl (lv_room (Nat.le_of_ble_eq_true rfl)) dL_law_954 ⟨Nat.le_of_ble_eq_true rfl, Nat.le_of_ble_eq_true rfl⟩) hP hD hS hA [0] [1] rfl rfl (by decide) (by decide) (fun r_2 u_1 H locs hw_2 hP hD hS => ?_)
  have hP : va_P D classes [(y, .inr (10, [.int 0, .ref m1, .int 0, .int 0, .int 0, .int 0, .int 0, .int 0, .int 0, .int 0, .int 0, .int 0, .long 0, .int 0, .ref m14, .ref m15, .ref m16, .ref m17, .ref m18, .ref m19, .ref m20, .ref m21, .ref m22, .ref m23, .ref m24, .int 0, .ref m26, .int (-1), .ref m28, .int (-1), .int (-1), .ref m31, .ref m32, .int 0, .int 0, .ref m35, .int 0, .ref m37, .int 0, .int 0, .ref m40, .ref m41, .int 0, .int 0, .ref m44, .int 0, .int 0, .int 0, .int 0]))] H := hP
  have hD : va_D (fun q : Nat => s.heap.size ≤ q) [(y, .inr (10, [.int 0, .ref m1, .int 0, .int 0, .int 0, .int 0, .int 0, .int 0, .int 0, .int 0, .int 0, .int 0, .long 0, .int 0, .ref m14, .ref m15, .ref m16, .ref m17, .ref m18, .ref m19, .ref m20, .ref m21, .ref m22, .ref m23, .ref m24, .int 0, .ref m26, .int (-1), .ref m28, .int (-1), .int (-1), .ref m31, .ref m32, .int 0, .int 0, .ref m35, .int 0, .ref m37, .int 0, .int 0, .ref m40, .ref m41, .int 0, .int 0, .ref m44, .int 0, .int 0, .int 0, .int 0]))] := hD
  have hw_2 : r_2 = -1 := hw_2
  subst hw_2
  refine lv_aload_n hx hb dL_law_957 rfl (lv_at hl 2 rfl) ?_
  refine endi (wr := []) (va_runV (As := []) (rest := [.int (-1)]) ⟨hx, hb, hml, hown, hts⟩ (c_M_ask l D cy z H.size y m1 m14 m15 m16 m17 m18 m19 m20 m21 m22 m23 m24 m26 m28 m31 m32 m35 m37 m40 m41 m44) (cwV 0 hts (gV tw_1626 tw_1627 tw_1628 tw_15 tw_1629) rfl rfl rfl (by decide +kernel) ⟨Nat.le_of_ble_eq_true rfl, Nat.le_of_ble_eq_true rfl⟩) (preV hP hD hK hSD hS hA [0] rfl (by decide) (q := (RX10, TX10, 49)) (ci := 10) (q0 := 0) rfl rfl) rfl rfl hl.1 rfl (lv_room (Nat.le_of_ble_eq_true rfl)) dL_law_958 ⟨Nat.le_of_ble_eq_true rfl, Nat.le_of_ble_eq_true rfl⟩) hP hD hS hA [0] [] rfl rfl (by decide) (by decide) (fun r_4 u_3 H locs hw_4 hP hD hS => ?_)
  have hP : va_P D classes [] H := hP
  have hD : va_D (fun q : Nat => s.heap.size ≤ q) [] := hD
  have hw_4 : r_4 = -1 := hw_4
  subst hw_4
  refine lv_icmp_eq (tgt := 1391) hx hb dL_law_961 (by decide) (fun _ => ?_) (fun c9 => absurd (by decide) c9)
  refine lv_iinc (v := 6) (lv' := [(4, .int 6), (3, .ref o), (2, .ref y), (1, .ref x), (0, .ref b)]) hx hb dL_law_1391 hl (k := 0) rfl (by decide) (by decide) rfl (fun ls hl => ?_)
  refine lv_goto (tgt := 23) hx hb dL_law_1394 (by decide) ?_
  refine lv_iload hx hb dL_law_23 (lv_at hl 0 rfl) ?_
  refine lv_aload_n hx hb dL_law_25 rfl (lv_at hl 4 rfl) ?_
  refine va_slen hx hb hX hbl hbA hS dL_law_26 ?_
  refine tI (y := 6) rfl ?_
  refine lv_bipush (v := 6) hx hb dL_law_27 (by decide) ?_
  refine lv_isub hx hb dL_law_29 ?_
  refine tI (y := 0) (by decide) ?_
  refine lv_icmp_gt (tgt := 1397) hx hb dL_law_30 (by decide) (fun _ => ?_) (fun c9 => absurd (by decide) c9)
  refine lv_iconst (v := 1) hx hb dL_law_1397 (by decide) ?_
  refine va_forget (fun q hq => hS.2.2 q hq) ?_
  refine W.widen (k := 600002) (n := 7302232) (Nat.le_of_ble_eq_true rfl) (Nat.le_of_ble_eq_true rfl) ?_
  exact lw_ret hx hb hr hlocks dL_law_1398
set_option maxHeartbeats 4000000 in
set_option maxRecDepth 100000 in
theorem op24 {p : Program} {e : Env} {s : State} {m : MethodId} {below : List Frame} {meth : Method} {c : Code} (l : Launch) {b : Nat} {xs : Nat → Int32} (hx : p.tables.exec = Jvm.exec) (hb : c.code = code) (hr : meth.sig.returnType = ret) (hlocks : meth.locks = false) (hml : c.maxLocals = 7) (hown : s.vm.findClass RL = some m.cls) (hts : ∀ w ∈ gT, w.before #[Value.ref b] s = true) (hX : va_X b 6 xs s s.heap) (hbl : b < s.heap.size) (D : va_G) (cy : Nat → ClassId) (z : Nat → Nat) (hK : va_K D classes (TY cy) s) (hSD : SD z (fun q : Nat => s.heap.size ≤ q) s) (x : Nat) (kq1 : Nat) (kq7 : Nat) (kq13 : Nat) (kq18 : Nat) (kq23 : Nat) (kq24 : Nat) (kq28 : Nat) (kq31 : Nat) (kq32 : Nat) (kq33 : Nat) (kq34 : Nat) (kq35 : Nat) (kq36 : Nat) (kq39 : Nat) (kq40 : Nat) (kq41 : Nat) (kq42 : Nat) (kq43 : Nat) (kq44 : Nat) (kq45 : Nat) (kq46 : Nat) (kq47 : Nat) (kq48 : Nat) (kq49 : Nat) (kq62 : Nat) (kq78 : Nat) (y : Nat) (m1 : Nat) (m14 : Nat) (m15 : Nat) (m16 : Nat) (m17 : Nat) (m18 : Nat) (m19 : Nat) (m20 : Nat) (m21 : Nat) (m22 : Nat) (m23 : Nat) (m24 : Nat) (m26 : Nat) (m28 : Nat) (m31 : Nat) (m32 : Nat) (m35 : Nat) (m37 : Nat) (m40 : Nat) (m41 : Nat) (m44 : Nat) (o : Nat) {H : Heap} {locs : List Loc} (hP : va_P D classes [(x, .inr (9, [.ref kq1, .ref kq36, .ref kq49, .ref kq62, .ref kq78, .null, .ref kq7, .ref kq13, .ref kq18, .ref kq23, .ref kq24, .int 0, .int (-1), .int (-1), .int (-1)])), (kq28, .inr (3, [.ref kq31, .ref kq32, .ref kq33, .ref kq34, .ref kq35, .int 0, .int 5, .int 0, .int 0])), (kq32, .inl (cy 1, 4, .inl (fun _ => 0))), (kq36, .inr (8, [.ref kq28, .int 0, .ref kq39, .ref kq40, .ref kq41, .ref kq42, .ref kq43, .ref kq44, .ref kq45, .ref kq46, .ref kq47, .ref kq48, .int 0])), (y, .inr (10, [.int 0, .ref m1, .int 0, .int 0, .int 0, .int 0, .int 0, .int 0, .int 0, .int 0, .int 0, .int 0, .long 0, .int 0, .ref m14, .ref m15, .ref m16, .ref m17, .ref m18, .ref m19, .ref m20, .ref m21, .ref m22, .ref m23, .ref m24, .int 0, .ref m26, .int (-1), .ref m28, .int (-1), .int (-1), .ref m31, .ref m32, .int 0, .int 0, .ref m35, .int 0, .ref m37, .int 0, .int 0, .ref m40, .ref m41, .int 0, .int 0, .ref m44, .int 0, .int 0, .int 0, .int 0])), (m14, .inl (cy 1, 414, .inl NW))] H) (hD : va_D (fun q : Nat => s.heap.size ≤ q) [(x, .inr (9, [.ref kq1, .ref kq36, .ref kq49, .ref kq62, .ref kq78, .null, .ref kq7, .ref kq13, .ref kq18, .ref kq23, .ref kq24, .int 0, .int (-1), .int (-1), .int (-1)])), (kq28, .inr (3, [.ref kq31, .ref kq32, .ref kq33, .ref kq34, .ref kq35, .int 0, .int 5, .int 0, .int 0])), (kq32, .inl (cy 1, 4, .inl (fun _ => 0))), (kq36, .inr (8, [.ref kq28, .int 0, .ref kq39, .ref kq40, .ref kq41, .ref kq42, .ref kq43, .ref kq44, .ref kq45, .ref kq46, .ref kq47, .ref kq48, .int 0])), (y, .inr (10, [.int 0, .ref m1, .int 0, .int 0, .int 0, .int 0, .int 0, .int 0, .int 0, .int 0, .int 0, .int 0, .long 0, .int 0, .ref m14, .ref m15, .ref m16, .ref m17, .ref m18, .ref m19, .ref m20, .ref m21, .ref m22, .ref m23, .ref m24, .int 0, .ref m26, .int (-1), .ref m28, .int (-1), .int (-1), .ref m31, .ref m32, .int 0, .int 0, .ref m35, .int 0, .ref m37, .int 0, .int 0, .ref m40, .ref m41, .int 0, .int 0, .ref m44, .int 0, .int 0, .int 0, .int 0])), (m14, .inl (cy 1, 414, .inl NW))]) (hS : va_S (fun q : Nat => s.heap.size ≤ q) s.heap H locs) {ls : Array Slot} (hl : lv_has ls 7 [(4, .int 0), (3, .ref o), (2, .ref y), (1, .ref x), (0, .ref b)]) : W p l e room_1 s m #[Value.ref b] below meth c H locs 192 6460 (lw_Z below #[Value.ref b] s) (F0 m 966 ls []) := by
  have hA : ∀ q : Nat, s.heap.size ≤ q → (fun q : Nat => s.heap.size ≤ q) q := fun _ h => h
  have hbA : ¬ (fun q : Nat => s.heap.size ≤ q) b := Nat.not_le.mpr hbl
  refine lv_aload_n hx hb dL_law_966 rfl (lv_at hl 3 rfl) ?_
  refine lv_aload_n hx hb dL_law_967 rfl (lv_at hl 4 rfl) ?_
  refine lv_iload hx hb dL_law_968 (lv_at hl 0 rfl) ?_
  refine lv_iconst (v := 1) hx hb dL_law_970 (by decide) ?_
  refine lv_iadd hx hb dL_law_971 ?_
  refine tI (y := 1) (by decide) ?_
  refine va_sld hx hb hX hbl hbA hS (vp_in_nI (n := 1) (N := 6) (by decide) (by decide)) dL_law_972 ?_
  refine tI (y := xs 1) rfl ?_
  refine endi (wr := [(y, .inr (10, [.int 0, .ref m1, .int 0, .int 0, .int 0, .int 0, .int 0, .int 0, .int 0, .int 0, .int 0, .int 0, .long 0, .int 0, .ref m14, .ref m15, .ref m16, .ref m17, .ref m18, .ref m19, .ref m20, .ref m21, .ref m22, .ref m23, .ref m24, .int 0, .ref m26, .int (-1), .ref m28, .int (-1), .int (-1), .ref m31, .ref m32, .int 0, .int 0, .ref m35, .int 0, .ref m37, .int 0, .int 0, .ref m40, .ref m41, .int 0, .int 0, .ref m44, .int 0, .int 0, .int 0, .int 0])), (m14, .inl (cy 1, 414, .inl NW))]) (va_runV (As := [.int (xs 1)]) (rest := []) ⟨hx, hb, hml, hown, hts⟩ (c_X_let l D cy z H.size x kq1 kq7 kq13 kq18 kq23 kq24 kq28 kq31 kq32 kq33 kq34 kq35 kq36 kq39 kq40 kq41 kq42 kq43 kq44 kq45 kq46 kq47 kq48 kq49 kq62 kq78 (xs 1)) (cwV 1 hts (gV tw_779 tw_780 tw_781 tw_1 tw_782) rfl rfl rfl (by decide +kernel) ⟨Nat.le_of_ble_eq_true rfl, Nat.le_of_ble_eq_true rfl⟩) (preV hP hD hK hSD hS hA [0, 1, 2, 3] rfl (by decide) (q := (RX9, TX9, 15)) (ci := 9) (q0 := 0) rfl rfl) rfl rfl hl.1 rfl (lv_room (Nat.le_of_ble_eq_true rfl)) dL_law_973 ⟨Nat.le_of_ble_eq_true rfl, Nat.le_of_ble_eq_true rfl⟩) hP hD hS hA [0, 1, 2, 3] [4, 5] rfl rfl (by decide) (by decide) (fun r_2 u_1 H locs hw_2 hP hD hS => ?_)
  have hP : va_P D classes [(y, .inr (10, [.int 0, .ref m1, .int 0, .int 0, .int 0, .int 0, .int 0, .int 0, .int 0, .int 0, .int 0, .int 0, .long 0, .int 0, .ref m14, .ref m15, .ref m16, .ref m17, .ref m18, .ref m19, .ref m20, .ref m21, .ref m22, .ref m23, .ref m24, .int 0, .ref m26, .int (-1), .ref m28, .int (-1), .int (-1), .ref m31, .ref m32, .int 0, .int 0, .ref m35, .int 0, .ref m37, .int 0, .int 0, .ref m40, .ref m41, .int 0, .int 0, .ref m44, .int 0, .int 0, .int 0, .int 0])), (m14, .inl (cy 1, 414, .inl NW))] H := hP
  have hD : va_D (fun q : Nat => s.heap.size ≤ q) [(y, .inr (10, [.int 0, .ref m1, .int 0, .int 0, .int 0, .int 0, .int 0, .int 0, .int 0, .int 0, .int 0, .int 0, .long 0, .int 0, .ref m14, .ref m15, .ref m16, .ref m17, .ref m18, .ref m19, .ref m20, .ref m21, .ref m22, .ref m23, .ref m24, .int 0, .ref m26, .int (-1), .ref m28, .int (-1), .int (-1), .ref m31, .ref m32, .int 0, .int 0, .ref m35, .int 0, .ref m37, .int 0, .int 0, .ref m40, .ref m41, .int 0, .int 0, .ref m44, .int 0, .int 0, .int 0, .int 0])), (m14, .inl (cy 1, 414, .inl NW))] := hD
  have hw_2 : r_2 = -1 := hw_2
  subst hw_2
  refine lv_aload_n hx hb dL_law_976 rfl (lv_at hl 2 rfl) ?_
  refine lv_aload_n hx hb dL_law_977 rfl (lv_at hl 4 rfl) ?_
  refine lv_iload hx hb dL_law_978 (lv_at hl 0 rfl) ?_
  refine lv_iconst (v := 1) hx hb dL_law_980 (by decide) ?_
  refine lv_iadd hx hb dL_law_981 ?_
  refine tI (y := 1) (by decide) ?_
  refine va_sld hx hb hX hbl hbA hS (vp_in_nI (n := 1) (N := 6) (by decide) (by decide)) dL_law_982 ?_
  refine tI (y := xs 1) rfl ?_
  refine endi (wr := []) (va_runV (As := [.int (xs 1)]) (rest := [.int (-1)]) ⟨hx, hb, hml, hown, hts⟩ (c_M_let l D cy z H.size y m1 m14 m15 m16 m17 m18 m19 m20 m21 m22 m23 m24 m26 m28 m31 m32 m35 m37 m40 m41 m44 (xs 1)) (cwV 1 hts (gV tw_1630 tw_1631 tw_1632 tw_15 tw_1633) rfl rfl rfl (by decide +kernel) ⟨Nat.le_of_ble_eq_true rfl, Nat.le_of_ble_eq_true rfl⟩) (preV hP hD hK hSD hS hA [0, 1] rfl (by decide) (q := (RX10, TX10, 49)) (ci := 10) (q0 := 0) rfl rfl) rfl rfl hl.1 rfl (lv_room (Nat.le_of_ble_eq_true rfl)) dL_law_983 ⟨Nat.le_of_ble_eq_true rfl, Nat.le_of_ble_eq_true rfl⟩) hP hD hS hA [0, 1] [] rfl rfl (by decide) (by decide) (fun r_4 u_3 H locs hw_4 hP hD hS => ?_)
  have hP : va_P D classes [] H := hP
  have hD : va_D (fun q : Nat => s.heap.size ≤ q) [] := hD
  have hw_4 : r_4 = -1 := hw_4
  subst hw_4
  refine lv_icmp_eq (tgt := 1391) hx hb dL_law_986 (by decide) (fun _ => ?_) (fun c9 => absurd (by decide) c9)
  refine lv_iinc (v := 6) (lv' := [(4, .int 6), (3, .ref o), (2, .ref y), (1, .ref x), (0, .ref b)]) hx hb dL_law_1391 hl (k := 0) rfl (by decide) (by decide) rfl (fun ls hl => ?_)
  refine lv_goto (tgt := 23) hx hb dL_law_1394 (by decide) ?_
  refine lv_iload hx hb dL_law_23 (lv_at hl 0 rfl) ?_
  refine lv_aload_n hx hb dL_law_25 rfl (lv_at hl 4 rfl) ?_
  refine va_slen hx hb hX hbl hbA hS dL_law_26 ?_
  refine tI (y := 6) rfl ?_
  refine lv_bipush (v := 6) hx hb dL_law_27 (by decide) ?_
  refine lv_isub hx hb dL_law_29 ?_
  refine tI (y := 0) (by decide) ?_
  refine lv_icmp_gt (tgt := 1397) hx hb dL_law_30 (by decide) (fun _ => ?_) (fun c9 => absurd (by decide) c9)
  refine lv_iconst (v := 1) hx hb dL_law_1397 (by decide) ?_
  refine va_forget (fun q hq => hS.2.2 q hq) ?_
  refine W.widen (k := 600002) (n := 7302232) (Nat.le_of_ble_eq_true rfl) (Nat.le_of_ble_eq_true rfl) ?_
  exact lw_ret hx hb hr hlocks dL_law_1398
set_option maxHeartbeats 4000000 in
set_option maxRecDepth 100000 in
theorem op25 {p : Program} {e : Env} {s : State} {m : MethodId} {below : List Frame} {meth : Method} {c : Code} (l : Launch) {b : Nat} {xs : Nat → Int32} (hx : p.tables.exec = Jvm.exec) (hb : c.code = code) (hr : meth.sig.returnType = ret) (hlocks : meth.locks = false) (hml : c.maxLocals = 7) (hown : s.vm.findClass RL = some m.cls) (hts : ∀ w ∈ gT, w.before #[Value.ref b] s = true) (hX : va_X b 6 xs s s.heap) (hbl : b < s.heap.size) (D : va_G) (cy : Nat → ClassId) (z : Nat → Nat) (hK : va_K D classes (TY cy) s) (hSD : SD z (fun q : Nat => s.heap.size ≤ q) s) (x : Nat) (kq1 : Nat) (kq7 : Nat) (kq13 : Nat) (kq18 : Nat) (kq21 : Nat) (kq22 : Nat) (kq23 : Nat) (kq24 : Nat) (kq28 : Nat) (kq31 : Nat) (kq32 : Nat) (kq33 : Nat) (kq34 : Nat) (kq35 : Nat) (kq36 : Nat) (kq39 : Nat) (kq40 : Nat) (kq41 : Nat) (kq42 : Nat) (kq43 : Nat) (kq44 : Nat) (kq45 : Nat) (kq46 : Nat) (kq47 : Nat) (kq48 : Nat) (kq49 : Nat) (kq62 : Nat) (kq78 : Nat) (y : Nat) (m1 : Nat) (m14 : Nat) (m15 : Nat) (m16 : Nat) (m17 : Nat) (m18 : Nat) (m19 : Nat) (m20 : Nat) (m21 : Nat) (m22 : Nat) (m23 : Nat) (m24 : Nat) (m26 : Nat) (m28 : Nat) (m31 : Nat) (m32 : Nat) (m35 : Nat) (m37 : Nat) (m40 : Nat) (m41 : Nat) (m44 : Nat) (o : Nat) {H : Heap} {locs : List Loc} (hP : va_P D classes [(x, .inr (9, [.ref kq1, .ref kq36, .ref kq49, .ref kq62, .ref kq78, .null, .ref kq7, .ref kq13, .ref kq18, .ref kq23, .ref kq24, .int 0, .int (-1), .int (-1), .int (-1)])), (kq18, .inr (4, [.ref kq21, .ref kq22])), (kq22, .inl (cy 1, 6, .inl (fun _ => (-1)))), (kq28, .inr (3, [.ref kq31, .ref kq32, .ref kq33, .ref kq34, .ref kq35, .int 0, .int 5, .int 0, .int 0])), (kq32, .inl (cy 1, 4, .inl (fun _ => 0))), (kq36, .inr (8, [.ref kq28, .int 0, .ref kq39, .ref kq40, .ref kq41, .ref kq42, .ref kq43, .ref kq44, .ref kq45, .ref kq46, .ref kq47, .ref kq48, .int 0])), (y, .inr (10, [.int 0, .ref m1, .int 0, .int 0, .int 0, .int 0, .int 0, .int 0, .int 0, .int 0, .int 0, .int 0, .long 0, .int 0, .ref m14, .ref m15, .ref m16, .ref m17, .ref m18, .ref m19, .ref m20, .ref m21, .ref m22, .ref m23, .ref m24, .int 0, .ref m26, .int (-1), .ref m28, .int (-1), .int (-1), .ref m31, .ref m32, .int 0, .int 0, .ref m35, .int 0, .ref m37, .int 0, .int 0, .ref m40, .ref m41, .int 0, .int 0, .ref m44, .int 0, .int 0, .int 0, .int 0])), (m1, .inl (cy 1, 940, .inl (fun _ => 0))), (m14, .inl (cy 1, 414, .inl NW)), (m15, .inl (cy 1, 84, .inl (fun _ => 0))), (m16, .inl (cy 1, 828, .inl (fun _ => 0))), (m17, .inl (cy 1, 704, .inl (fun _ => 0))), (m18, .inl (cy 1, 88, .inl (fun _ => 0))), (m19, .inl (cy 1, 88, .inl (fun _ => 0))), (m20, .inl (cy 2, 24, .inr (.inl (fun _ => 0)))), (m21, .inl (cy 2, 24, .inr (.inl (fun _ => 0)))), (m22, .inl (cy 2, 48, .inr (.inl (fun _ => 0)))), (m23, .inl (cy 3, 2, .inl (fun _ => 0))), (m24, .inl (cy 3, 2, .inl (fun _ => 0))), (m26, .inl (cy 1, 6, .inl (fun _ => 0))), (m28, .inl (cy 1, 8, .inl (fun _ => 0))), (m31, .inl (cy 1, 6, .inl (fun _ => 0))), (m32, .inl (cy 1, 6, .inl (fun _ => 0))), (m35, .inl (cy 1, 8, .inl (fun _ => 0))), (m37, .inl (cy 1, 64, .inl (fun _ => 0))), (m40, .inl (cy 1, 120, .inl (fun _ => 0))), (m41, .inl (cy 1, 4, .inl (fun _ => 0))), (m44, .inl (cy 1, 240, .inl (fun _ => 0)))] H) (hD : va_D (fun q : Nat => s.heap.size ≤ q) [(x, .inr (9, [.ref kq1, .ref kq36, .ref kq49, .ref kq62, .ref kq78, .null, .ref kq7, .ref kq13, .ref kq18, .ref kq23, .ref kq24, .int 0, .int (-1), .int (-1), .int (-1)])), (kq18, .inr (4, [.ref kq21, .ref kq22])), (kq22, .inl (cy 1, 6, .inl (fun _ => (-1)))), (kq28, .inr (3, [.ref kq31, .ref kq32, .ref kq33, .ref kq34, .ref kq35, .int 0, .int 5, .int 0, .int 0])), (kq32, .inl (cy 1, 4, .inl (fun _ => 0))), (kq36, .inr (8, [.ref kq28, .int 0, .ref kq39, .ref kq40, .ref kq41, .ref kq42, .ref kq43, .ref kq44, .ref kq45, .ref kq46, .ref kq47, .ref kq48, .int 0])), (y, .inr (10, [.int 0, .ref m1, .int 0, .int 0, .int 0, .int 0, .int 0, .int 0, .int 0, .int 0, .int 0, .int 0, .long 0, .int 0, .ref m14, .ref m15, .ref m16, .ref m17, .ref m18, .ref m19, .ref m20, .ref m21, .ref m22, .ref m23, .ref m24, .int 0, .ref m26, .int (-1), .ref m28, .int (-1), .int (-1), .ref m31, .ref m32, .int 0, .int 0, .ref m35, .int 0, .ref m37, .int 0, .int 0, .ref m40, .ref m41, .int 0, .int 0, .ref m44, .int 0, .int 0, .int 0, .int 0])), (m1, .inl (cy 1, 940, .inl (fun _ => 0))), (m14, .inl (cy 1, 414, .inl NW)), (m15, .inl (cy 1, 84, .inl (fun _ => 0))), (m16, .inl (cy 1, 828, .inl (fun _ => 0))), (m17, .inl (cy 1, 704, .inl (fun _ => 0))), (m18, .inl (cy 1, 88, .inl (fun _ => 0))), (m19, .inl (cy 1, 88, .inl (fun _ => 0))), (m20, .inl (cy 2, 24, .inr (.inl (fun _ => 0)))), (m21, .inl (cy 2, 24, .inr (.inl (fun _ => 0)))), (m22, .inl (cy 2, 48, .inr (.inl (fun _ => 0)))), (m23, .inl (cy 3, 2, .inl (fun _ => 0))), (m24, .inl (cy 3, 2, .inl (fun _ => 0))), (m26, .inl (cy 1, 6, .inl (fun _ => 0))), (m28, .inl (cy 1, 8, .inl (fun _ => 0))), (m31, .inl (cy 1, 6, .inl (fun _ => 0))), (m32, .inl (cy 1, 6, .inl (fun _ => 0))), (m35, .inl (cy 1, 8, .inl (fun _ => 0))), (m37, .inl (cy 1, 64, .inl (fun _ => 0))), (m40, .inl (cy 1, 120, .inl (fun _ => 0))), (m41, .inl (cy 1, 4, .inl (fun _ => 0))), (m44, .inl (cy 1, 240, .inl (fun _ => 0)))]) (hS : va_S (fun q : Nat => s.heap.size ≤ q) s.heap H locs) {ls : Array Slot} (hl : lv_has ls 7 [(4, .int 0), (3, .ref o), (2, .ref y), (1, .ref x), (0, .ref b)]) : W p l e room_1 s m #[Value.ref b] below meth c H locs 192 6460 (lw_Z below #[Value.ref b] s) (F0 m 991 ls []) := by
  have hA : ∀ q : Nat, s.heap.size ≤ q → (fun q : Nat => s.heap.size ≤ q) q := fun _ h => h
  have hbA : ¬ (fun q : Nat => s.heap.size ≤ q) b := Nat.not_le.mpr hbl
  refine lv_aload_n hx hb dL_law_991 rfl (lv_at hl 3 rfl) ?_
  refine endi (wr := [(y, .inr (10, [.int 0, .ref m1, .int 0, .int 0, .int 0, .int 0, .int 0, .int 0, .int 0, .int 0, .int 0, .int 0, .long 0, .int 0, .ref m14, .ref m15, .ref m16, .ref m17, .ref m18, .ref m19, .ref m20, .ref m21, .ref m22, .ref m23, .ref m24, .int 0, .ref m26, .int (-1), .ref m28, .int (-1), .int (-1), .ref m31, .ref m32, .int 0, .int 0, .ref m35, .int 0, .ref m37, .int 0, .int 0, .ref m40, .ref m41, .int 0, .int 0, .ref m44, .int 0, .int 0, .int 0, .int 0])), (m1, .inl (cy 1, 940, .inl (fun _ => 0))), (m14, .inl (cy 1, 414, .inl NW)), (m15, .inl (cy 1, 84, .inl (fun _ => 0))), (m16, .inl (cy 1, 828, .inl (fun _ => 0))), (m17, .inl (cy 1, 704, .inl (fun _ => 0))), (m18, .inl (cy 1, 88, .inl (fun _ => 0))), (m19, .inl (cy 1, 88, .inl (fun _ => 0))), (m20, .inl (cy 2, 24, .inr (.inl (fun _ => 0)))), (m21, .inl (cy 2, 24, .inr (.inl (fun _ => 0)))), (m22, .inl (cy 2, 48, .inr (.inl (fun _ => 0)))), (m23, .inl (cy 3, 2, .inl (fun _ => 0))), (m24, .inl (cy 3, 2, .inl (fun _ => 0))), (m26, .inl (cy 1, 6, .inl (fun _ => 0))), (m28, .inl (cy 1, 8, .inl (fun _ => 0))), (m31, .inl (cy 1, 6, .inl (fun _ => 0))), (m32, .inl (cy 1, 6, .inl (fun _ => 0))), (m35, .inl (cy 1, 8, .inl (fun _ => 0))), (m37, .inl (cy 1, 64, .inl (fun _ => 0))), (m40, .inl (cy 1, 120, .inl (fun _ => 0))), (m41, .inl (cy 1, 4, .inl (fun _ => 0))), (m44, .inl (cy 1, 240, .inl (fun _ => 0)))]) (va_runV (As := []) (rest := []) ⟨hx, hb, hml, hown, hts⟩ (c_X_rooms l D cy z H.size x kq1 kq7 kq13 kq18 kq21 kq22 kq23 kq24 kq28 kq31 kq32 kq33 kq34 kq35 kq36 kq39 kq40 kq41 kq42 kq43 kq44 kq45 kq46 kq47 kq48 kq49 kq62 kq78) (cwV 0 hts (gV tw_785 tw_786 tw_787 tw_1 tw_788) rfl rfl rfl (by decide +kernel) ⟨Nat.le_of_ble_eq_true rfl, Nat.le_of_ble_eq_true rfl⟩) (preV hP hD hK hSD hS hA [0, 1, 2, 3, 4, 5] rfl (by decide) (q := (RX9, TX9, 15)) (ci := 9) (q0 := 0) rfl rfl) rfl rfl hl.1 rfl (lv_room (Nat.le_of_ble_eq_true rfl)) dL_law_992 ⟨Nat.le_of_ble_eq_true rfl, Nat.le_of_ble_eq_true rfl⟩) hP hD hS hA [0, 1, 2, 3, 4, 5] [6, 7, 8, 9, 10, 11, 12, 13, 14, 15, 16, 17, 18, 19, 20, 21, 22, 23, 24, 25, 26, 27] rfl rfl (by decide) (by decide) (fun r_2 u_1 H locs hw_2 hP hD hS => ?_)
  have hP : va_P D classes [(y, .inr (10, [.int 0, .ref m1, .int 0, .int 0, .int 0, .int 0, .int 0, .int 0, .int 0, .int 0, .int 0, .int 0, .long 0, .int 0, .ref m14, .ref m15, .ref m16, .ref m17, .ref m18, .ref m19, .ref m20, .ref m21, .ref m22, .ref m23, .ref m24, .int 0, .ref m26, .int (-1), .ref m28, .int (-1), .int (-1), .ref m31, .ref m32, .int 0, .int 0, .ref m35, .int 0, .ref m37, .int 0, .int 0, .ref m40, .ref m41, .int 0, .int 0, .ref m44, .int 0, .int 0, .int 0, .int 0])), (m1, .inl (cy 1, 940, .inl (fun _ => 0))), (m14, .inl (cy 1, 414, .inl NW)), (m15, .inl (cy 1, 84, .inl (fun _ => 0))), (m16, .inl (cy 1, 828, .inl (fun _ => 0))), (m17, .inl (cy 1, 704, .inl (fun _ => 0))), (m18, .inl (cy 1, 88, .inl (fun _ => 0))), (m19, .inl (cy 1, 88, .inl (fun _ => 0))), (m20, .inl (cy 2, 24, .inr (.inl (fun _ => 0)))), (m21, .inl (cy 2, 24, .inr (.inl (fun _ => 0)))), (m22, .inl (cy 2, 48, .inr (.inl (fun _ => 0)))), (m23, .inl (cy 3, 2, .inl (fun _ => 0))), (m24, .inl (cy 3, 2, .inl (fun _ => 0))), (m26, .inl (cy 1, 6, .inl (fun _ => 0))), (m28, .inl (cy 1, 8, .inl (fun _ => 0))), (m31, .inl (cy 1, 6, .inl (fun _ => 0))), (m32, .inl (cy 1, 6, .inl (fun _ => 0))), (m35, .inl (cy 1, 8, .inl (fun _ => 0))), (m37, .inl (cy 1, 64, .inl (fun _ => 0))), (m40, .inl (cy 1, 120, .inl (fun _ => 0))), (m41, .inl (cy 1, 4, .inl (fun _ => 0))), (m44, .inl (cy 1, 240, .inl (fun _ => 0)))] H := hP
  have hD : va_D (fun q : Nat => s.heap.size ≤ q) [(y, .inr (10, [.int 0, .ref m1, .int 0, .int 0, .int 0, .int 0, .int 0, .int 0, .int 0, .int 0, .int 0, .int 0, .long 0, .int 0, .ref m14, .ref m15, .ref m16, .ref m17, .ref m18, .ref m19, .ref m20, .ref m21, .ref m22, .ref m23, .ref m24, .int 0, .ref m26, .int (-1), .ref m28, .int (-1), .int (-1), .ref m31, .ref m32, .int 0, .int 0, .ref m35, .int 0, .ref m37, .int 0, .int 0, .ref m40, .ref m41, .int 0, .int 0, .ref m44, .int 0, .int 0, .int 0, .int 0])), (m1, .inl (cy 1, 940, .inl (fun _ => 0))), (m14, .inl (cy 1, 414, .inl NW)), (m15, .inl (cy 1, 84, .inl (fun _ => 0))), (m16, .inl (cy 1, 828, .inl (fun _ => 0))), (m17, .inl (cy 1, 704, .inl (fun _ => 0))), (m18, .inl (cy 1, 88, .inl (fun _ => 0))), (m19, .inl (cy 1, 88, .inl (fun _ => 0))), (m20, .inl (cy 2, 24, .inr (.inl (fun _ => 0)))), (m21, .inl (cy 2, 24, .inr (.inl (fun _ => 0)))), (m22, .inl (cy 2, 48, .inr (.inl (fun _ => 0)))), (m23, .inl (cy 3, 2, .inl (fun _ => 0))), (m24, .inl (cy 3, 2, .inl (fun _ => 0))), (m26, .inl (cy 1, 6, .inl (fun _ => 0))), (m28, .inl (cy 1, 8, .inl (fun _ => 0))), (m31, .inl (cy 1, 6, .inl (fun _ => 0))), (m32, .inl (cy 1, 6, .inl (fun _ => 0))), (m35, .inl (cy 1, 8, .inl (fun _ => 0))), (m37, .inl (cy 1, 64, .inl (fun _ => 0))), (m40, .inl (cy 1, 120, .inl (fun _ => 0))), (m41, .inl (cy 1, 4, .inl (fun _ => 0))), (m44, .inl (cy 1, 240, .inl (fun _ => 0)))] := hD
  have hw_2 : r_2 = 0 := hw_2
  subst hw_2
  refine lv_aload_n hx hb dL_law_995 rfl (lv_at hl 2 rfl) ?_
  refine endi (wr := []) (va_runV (As := []) (rest := [.int 0]) ⟨hx, hb, hml, hown, hts⟩ (c_M_rooms l D cy z H.size y m1 m14 m15 m16 m17 m18 m19 m20 m21 m22 m23 m24 m26 m28 m31 m32 m35 m37 m40 m41 m44) (cwV 0 hts (gV tw_1634 tw_1635 tw_1636 tw_15 tw_1637) rfl rfl rfl (by decide +kernel) ⟨Nat.le_of_ble_eq_true rfl, Nat.le_of_ble_eq_true rfl⟩) (preV hP hD hK hSD hS hA [0, 1, 2, 3, 4, 5, 6, 7, 8, 9, 10, 11, 12, 13, 14, 15, 16, 17, 18, 19, 20, 21] rfl (by decide) (q := (RX10, TX10, 49)) (ci := 10) (q0 := 0) rfl rfl) rfl rfl hl.1 rfl (lv_room (Nat.le_of_ble_eq_true rfl)) dL_law_996 ⟨Nat.le_of_ble_eq_true rfl, Nat.le_of_ble_eq_true rfl⟩) hP hD hS hA [0, 1, 2, 3, 4, 5, 6, 7, 8, 9, 10, 11, 12, 13, 14, 15, 16, 17, 18, 19, 20, 21] [] rfl rfl (by decide) (by decide) (fun r_4 u_3 H locs hw_4 hP hD hS => ?_)
  have hP : va_P D classes [] H := hP
  have hD : va_D (fun q : Nat => s.heap.size ≤ q) [] := hD
  have hw_4 : r_4 = 0 := hw_4
  subst hw_4
  refine lv_icmp_eq (tgt := 1391) hx hb dL_law_999 (by decide) (fun _ => ?_) (fun c9 => absurd (by decide) c9)
  refine lv_iinc (v := 6) (lv' := [(4, .int 6), (3, .ref o), (2, .ref y), (1, .ref x), (0, .ref b)]) hx hb dL_law_1391 hl (k := 0) rfl (by decide) (by decide) rfl (fun ls hl => ?_)
  refine lv_goto (tgt := 23) hx hb dL_law_1394 (by decide) ?_
  refine lv_iload hx hb dL_law_23 (lv_at hl 0 rfl) ?_
  refine lv_aload_n hx hb dL_law_25 rfl (lv_at hl 4 rfl) ?_
  refine va_slen hx hb hX hbl hbA hS dL_law_26 ?_
  refine tI (y := 6) rfl ?_
  refine lv_bipush (v := 6) hx hb dL_law_27 (by decide) ?_
  refine lv_isub hx hb dL_law_29 ?_
  refine tI (y := 0) (by decide) ?_
  refine lv_icmp_gt (tgt := 1397) hx hb dL_law_30 (by decide) (fun _ => ?_) (fun c9 => absurd (by decide) c9)
  refine lv_iconst (v := 1) hx hb dL_law_1397 (by decide) ?_
  refine va_forget (fun q hq => hS.2.2 q hq) ?_
  refine W.widen (k := 600002) (n := 7302232) (Nat.le_of_ble_eq_true rfl) (Nat.le_of_ble_eq_true rfl) ?_
  exact lw_ret hx hb hr hlocks dL_law_1398
set_option maxHeartbeats 4000000 in
set_option maxRecDepth 100000 in
theorem op26 {p : Program} {e : Env} {s : State} {m : MethodId} {below : List Frame} {meth : Method} {c : Code} (l : Launch) {b : Nat} {xs : Nat → Int32} (hx : p.tables.exec = Jvm.exec) (hb : c.code = code) (hr : meth.sig.returnType = ret) (hlocks : meth.locks = false) (hml : c.maxLocals = 7) (hown : s.vm.findClass RL = some m.cls) (hts : ∀ w ∈ gT, w.before #[Value.ref b] s = true) (hX : va_X b 6 xs s s.heap) (hbl : b < s.heap.size) (D : va_G) (cy : Nat → ClassId) (z : Nat → Nat) (hK : va_K D classes (TY cy) s) (hSD : SD z (fun q : Nat => s.heap.size ≤ q) s) (x : Nat) (kq1 : Nat) (kq7 : Nat) (kq13 : Nat) (kq18 : Nat) (kq21 : Nat) (kq22 : Nat) (kq23 : Nat) (kq24 : Nat) (kq36 : Nat) (kq49 : Nat) (kq62 : Nat) (kq78 : Nat) (y : Nat) (m1 : Nat) (m14 : Nat) (m15 : Nat) (m16 : Nat) (m17 : Nat) (m18 : Nat) (m19 : Nat) (m20 : Nat) (m21 : Nat) (m22 : Nat) (m23 : Nat) (m24 : Nat) (m26 : Nat) (m28 : Nat) (m31 : Nat) (m32 : Nat) (m35 : Nat) (m37 : Nat) (m40 : Nat) (m41 : Nat) (m44 : Nat) (o : Nat) {H : Heap} {locs : List Loc} (hP : va_P D classes [(x, .inr (9, [.ref kq1, .ref kq36, .ref kq49, .ref kq62, .ref kq78, .null, .ref kq7, .ref kq13, .ref kq18, .ref kq23, .ref kq24, .int 0, .int (-1), .int (-1), .int (-1)])), (kq18, .inr (4, [.ref kq21, .ref kq22])), (kq22, .inl (cy 1, 6, .inl (fun _ => (-1)))), (y, .inr (10, [.int 0, .ref m1, .int 0, .int 0, .int 0, .int 0, .int 0, .int 0, .int 0, .int 0, .int 0, .int 0, .long 0, .int 0, .ref m14, .ref m15, .ref m16, .ref m17, .ref m18, .ref m19, .ref m20, .ref m21, .ref m22, .ref m23, .ref m24, .int 0, .ref m26, .int (-1), .ref m28, .int (-1), .int (-1), .ref m31, .ref m32, .int 0, .int 0, .ref m35, .int 0, .ref m37, .int 0, .int 0, .ref m40, .ref m41, .int 0, .int 0, .ref m44, .int 0, .int 0, .int 0, .int 0]))] H) (hD : va_D (fun q : Nat => s.heap.size ≤ q) [(x, .inr (9, [.ref kq1, .ref kq36, .ref kq49, .ref kq62, .ref kq78, .null, .ref kq7, .ref kq13, .ref kq18, .ref kq23, .ref kq24, .int 0, .int (-1), .int (-1), .int (-1)])), (kq18, .inr (4, [.ref kq21, .ref kq22])), (kq22, .inl (cy 1, 6, .inl (fun _ => (-1)))), (y, .inr (10, [.int 0, .ref m1, .int 0, .int 0, .int 0, .int 0, .int 0, .int 0, .int 0, .int 0, .int 0, .int 0, .long 0, .int 0, .ref m14, .ref m15, .ref m16, .ref m17, .ref m18, .ref m19, .ref m20, .ref m21, .ref m22, .ref m23, .ref m24, .int 0, .ref m26, .int (-1), .ref m28, .int (-1), .int (-1), .ref m31, .ref m32, .int 0, .int 0, .ref m35, .int 0, .ref m37, .int 0, .int 0, .ref m40, .ref m41, .int 0, .int 0, .ref m44, .int 0, .int 0, .int 0, .int 0]))]) (hS : va_S (fun q : Nat => s.heap.size ≤ q) s.heap H locs) {ls : Array Slot} (hl : lv_has ls 7 [(4, .int 0), (3, .ref o), (2, .ref y), (1, .ref x), (0, .ref b)]) : W p l e room_1 s m #[Value.ref b] below meth c H locs 192 6460 (lw_Z below #[Value.ref b] s) (F0 m 1004 ls []) := by
  have hA : ∀ q : Nat, s.heap.size ≤ q → (fun q : Nat => s.heap.size ≤ q) q := fun _ h => h
  have hbA : ¬ (fun q : Nat => s.heap.size ≤ q) b := Nat.not_le.mpr hbl
  refine lv_aload_n hx hb dL_law_1004 rfl (lv_at hl 3 rfl) ?_
  refine lv_aload_n hx hb dL_law_1005 rfl (lv_at hl 4 rfl) ?_
  refine lv_iload hx hb dL_law_1006 (lv_at hl 0 rfl) ?_
  refine lv_iconst (v := 1) hx hb dL_law_1008 (by decide) ?_
  refine lv_iadd hx hb dL_law_1009 ?_
  refine tI (y := 1) (by decide) ?_
  refine va_sld hx hb hX hbl hbA hS (vp_in_nI (n := 1) (N := 6) (by decide) (by decide)) dL_law_1010 ?_
  refine tI (y := xs 1) rfl ?_
  refine endi (wr := [(y, .inr (10, [.int 0, .ref m1, .int 0, .int 0, .int 0, .int 0, .int 0, .int 0, .int 0, .int 0, .int 0, .int 0, .long 0, .int 0, .ref m14, .ref m15, .ref m16, .ref m17, .ref m18, .ref m19, .ref m20, .ref m21, .ref m22, .ref m23, .ref m24, .int 0, .ref m26, .int (-1), .ref m28, .int (-1), .int (-1), .ref m31, .ref m32, .int 0, .int 0, .ref m35, .int 0, .ref m37, .int 0, .int 0, .ref m40, .ref m41, .int 0, .int 0, .ref m44, .int 0, .int 0, .int 0, .int 0]))]) (va_runV (As := [.int (xs 1)]) (rest := []) ⟨hx, hb, hml, hown, hts⟩ (c_X_roomOf l D cy z H.size x kq1 kq7 kq13 kq18 kq21 kq22 kq23 kq24 kq36 kq49 kq62 kq78 (xs 1)) (cwV 1 hts (gV tw_803 tw_804 tw_805 tw_1 tw_806) rfl rfl rfl (by decide +kernel) ⟨Nat.le_of_ble_eq_true rfl, Nat.le_of_ble_eq_true rfl⟩) (preV hP hD hK hSD hS hA [0, 1, 2] rfl (by decide) (q := (RX9, TX9, 15)) (ci := 9) (q0 := 0) rfl rfl) rfl rfl hl.1 rfl (lv_room (Nat.le_of_ble_eq_true rfl)) dL_law_1011 ⟨Nat.le_of_ble_eq_true rfl, Nat.le_of_ble_eq_true rfl⟩) hP hD hS hA [0, 1, 2] [3] rfl rfl (by decide) (by decide) (fun r_2 u_1 H locs hw_2 hP hD hS => ?_)
  have hP : va_P D classes [(y, .inr (10, [.int 0, .ref m1, .int 0, .int 0, .int 0, .int 0, .int 0, .int 0, .int 0, .int 0, .int 0, .int 0, .long 0, .int 0, .ref m14, .ref m15, .ref m16, .ref m17, .ref m18, .ref m19, .ref m20, .ref m21, .ref m22, .ref m23, .ref m24, .int 0, .ref m26, .int (-1), .ref m28, .int (-1), .int (-1), .ref m31, .ref m32, .int 0, .int 0, .ref m35, .int 0, .ref m37, .int 0, .int 0, .ref m40, .ref m41, .int 0, .int 0, .ref m44, .int 0, .int 0, .int 0, .int 0]))] H := hP
  have hD : va_D (fun q : Nat => s.heap.size ≤ q) [(y, .inr (10, [.int 0, .ref m1, .int 0, .int 0, .int 0, .int 0, .int 0, .int 0, .int 0, .int 0, .int 0, .int 0, .long 0, .int 0, .ref m14, .ref m15, .ref m16, .ref m17, .ref m18, .ref m19, .ref m20, .ref m21, .ref m22, .ref m23, .ref m24, .int 0, .ref m26, .int (-1), .ref m28, .int (-1), .int (-1), .ref m31, .ref m32, .int 0, .int 0, .ref m35, .int 0, .ref m37, .int 0, .int 0, .ref m40, .ref m41, .int 0, .int 0, .ref m44, .int 0, .int 0, .int 0, .int 0]))] := hD
  have hw_2 : r_2 = -1 := hw_2
  subst hw_2
  refine lv_aload_n hx hb dL_law_1014 rfl (lv_at hl 2 rfl) ?_
  refine lv_aload_n hx hb dL_law_1015 rfl (lv_at hl 4 rfl) ?_
  refine lv_iload hx hb dL_law_1016 (lv_at hl 0 rfl) ?_
  refine lv_iconst (v := 1) hx hb dL_law_1018 (by decide) ?_
  refine lv_iadd hx hb dL_law_1019 ?_
  refine tI (y := 1) (by decide) ?_
  refine va_sld hx hb hX hbl hbA hS (vp_in_nI (n := 1) (N := 6) (by decide) (by decide)) dL_law_1020 ?_
  refine tI (y := xs 1) rfl ?_
  refine endi (wr := []) (va_runV (As := [.int (xs 1)]) (rest := [.int (-1)]) ⟨hx, hb, hml, hown, hts⟩ (c_M_roomOf l D cy z H.size y m1 m14 m15 m16 m17 m18 m19 m20 m21 m22 m23 m24 m26 m28 m31 m32 m35 m37 m40 m41 m44 (xs 1)) (cwV 1 hts (gV tw_1646 tw_1647 tw_1648 tw_15 tw_1649) rfl rfl rfl (by decide +kernel) ⟨Nat.le_of_ble_eq_true rfl, Nat.le_of_ble_eq_true rfl⟩) (preV hP hD hK hSD hS hA [0] rfl (by decide) (q := (RX10, TX10, 49)) (ci := 10) (q0 := 0) rfl rfl) rfl rfl hl.1 rfl (lv_room (Nat.le_of_ble_eq_true rfl)) dL_law_1021 ⟨Nat.le_of_ble_eq_true rfl, Nat.le_of_ble_eq_true rfl⟩) hP hD hS hA [0] [] rfl rfl (by decide) (by decide) (fun r_4 u_3 H locs hw_4 hP hD hS => ?_)
  have hP : va_P D classes [] H := hP
  have hD : va_D (fun q : Nat => s.heap.size ≤ q) [] := hD
  have hw_4 : r_4 = -1 := hw_4
  subst hw_4
  refine lv_icmp_eq (tgt := 1391) hx hb dL_law_1024 (by decide) (fun _ => ?_) (fun c9 => absurd (by decide) c9)
  refine lv_iinc (v := 6) (lv' := [(4, .int 6), (3, .ref o), (2, .ref y), (1, .ref x), (0, .ref b)]) hx hb dL_law_1391 hl (k := 0) rfl (by decide) (by decide) rfl (fun ls hl => ?_)
  refine lv_goto (tgt := 23) hx hb dL_law_1394 (by decide) ?_
  refine lv_iload hx hb dL_law_23 (lv_at hl 0 rfl) ?_
  refine lv_aload_n hx hb dL_law_25 rfl (lv_at hl 4 rfl) ?_
  refine va_slen hx hb hX hbl hbA hS dL_law_26 ?_
  refine tI (y := 6) rfl ?_
  refine lv_bipush (v := 6) hx hb dL_law_27 (by decide) ?_
  refine lv_isub hx hb dL_law_29 ?_
  refine tI (y := 0) (by decide) ?_
  refine lv_icmp_gt (tgt := 1397) hx hb dL_law_30 (by decide) (fun _ => ?_) (fun c9 => absurd (by decide) c9)
  refine lv_iconst (v := 1) hx hb dL_law_1397 (by decide) ?_
  refine va_forget (fun q hq => hS.2.2 q hq) ?_
  refine W.widen (k := 600002) (n := 7302232) (Nat.le_of_ble_eq_true rfl) (Nat.le_of_ble_eq_true rfl) ?_
  exact lw_ret hx hb hr hlocks dL_law_1398
set_option maxHeartbeats 4000000 in
set_option maxRecDepth 100000 in
theorem op27 {p : Program} {e : Env} {s : State} {m : MethodId} {below : List Frame} {meth : Method} {c : Code} (l : Launch) {b : Nat} {xs : Nat → Int32} (hx : p.tables.exec = Jvm.exec) (hb : c.code = code) (hr : meth.sig.returnType = ret) (hlocks : meth.locks = false) (hml : c.maxLocals = 7) (hown : s.vm.findClass RL = some m.cls) (hts : ∀ w ∈ gT, w.before #[Value.ref b] s = true) (hX : va_X b 6 xs s s.heap) (hbl : b < s.heap.size) (D : va_G) (cy : Nat → ClassId) (z : Nat → Nat) (hK : va_K D classes (TY cy) s) (hSD : SD z (fun q : Nat => s.heap.size ≤ q) s) (x : Nat) (kq1 : Nat) (kq7 : Nat) (kq13 : Nat) (kq18 : Nat) (kq23 : Nat) (kq24 : Nat) (kq28 : Nat) (kq31 : Nat) (kq32 : Nat) (kq33 : Nat) (kq34 : Nat) (kq35 : Nat) (kq36 : Nat) (kq39 : Nat) (kq40 : Nat) (kq41 : Nat) (kq42 : Nat) (kq43 : Nat) (kq44 : Nat) (kq45 : Nat) (kq46 : Nat) (kq47 : Nat) (kq48 : Nat) (kq49 : Nat) (kq52 : Nat) (kq53 : Nat) (kq54 : Nat) (kq55 : Nat) (kq56 : Nat) (kq57 : Nat) (kq58 : Nat) (kq59 : Nat) (kq60 : Nat) (kq61 : Nat) (kq62 : Nat) (kq78 : Nat) (y : Nat) (m1 : Nat) (m14 : Nat) (m15 : Nat) (m16 : Nat) (m17 : Nat) (m18 : Nat) (m19 : Nat) (m20 : Nat) (m21 : Nat) (m22 : Nat) (m23 : Nat) (m24 : Nat) (m26 : Nat) (m28 : Nat) (m31 : Nat) (m32 : Nat) (m35 : Nat) (m37 : Nat) (m40 : Nat) (m41 : Nat) (m44 : Nat) (o : Nat) {H : Heap} {locs : List Loc} (hP : va_P D classes [(x, .inr (9, [.ref kq1, .ref kq36, .ref kq49, .ref kq62, .ref kq78, .null, .ref kq7, .ref kq13, .ref kq18, .ref kq23, .ref kq24, .int 0, .int (-1), .int (-1), .int (-1)])), (kq28, .inr (3, [.ref kq31, .ref kq32, .ref kq33, .ref kq34, .ref kq35, .int 0, .int 5, .int 0, .int 0])), (kq32, .inl (cy 1, 4, .inl (fun _ => 0))), (kq36, .inr (8, [.ref kq28, .int 0, .ref kq39, .ref kq40, .ref kq41, .ref kq42, .ref kq43, .ref kq44, .ref kq45, .ref kq46, .ref kq47, .ref kq48, .int 0])), (kq39, .inl (cy 1, 36, .inl (fun _ => 0))), (kq40, .inl (cy 1, 6, .inl (fun _ => 0))), (kq41, .inl (cy 1, 6, .inl (fun _ => 0))), (kq42, .inl (cy 1, 6, .inl (fun _ => 0))), (kq43, .inl (cy 1, 6, .inl (fun _ => 0))), (kq44, .inl (cy 1, 8, .inl (fun _ => 0))), (kq46, .inl (cy 1, 8, .inl (fun _ => 0))), (kq47, .inl (cy 1, 8, .inl (fun _ => 0))), (kq45, .inl (cy 1, 8, .inl (fun _ => (-1)))), (kq49, .inr (8, [.ref kq28, .int 0, .ref kq52, .ref kq53, .ref kq54, .ref kq55, .ref kq56, .ref kq57, .ref kq58, .ref kq59, .ref kq60, .ref kq61, .int 0])), (kq52, .inl (cy 1, 36, .inl (fun _ => 0))), (kq53, .inl (cy 1, 6, .inl (fun _ => 0))), (kq54, .inl (cy 1, 6, .inl (fun _ => 0))), (kq55, .inl (cy 1, 6, .inl (fun _ => 0))), (kq56, .inl (cy 1, 6, .inl (fun _ => 0))), (kq57, .inl (cy 1, 8, .inl (fun _ => 0))), (kq59, .inl (cy 1, 8, .inl (fun _ => 0))), (kq60, .inl (cy 1, 8, .inl (fun _ => 0))), (kq58, .inl (cy 1, 8, .inl (fun _ => (-1)))), (kq23, .inl (cy 1, 8, .inl (fun _ => (-1)))), (y, .inr (10, [.int 0, .ref m1, .int 0, .int 0, .int 0, .int 0, .int 0, .int 0, .int 0, .int 0, .int 0, .int 0, .long 0, .int 0, .ref m14, .ref m15, .ref m16, .ref m17, .ref m18, .ref m19, .ref m20, .ref m21, .ref m22, .ref m23, .ref m24, .int 0, .ref m26, .int (-1), .ref m28, .int (-1), .int (-1), .ref m31, .ref m32, .int 0, .int 0, .ref m35, .int 0, .ref m37, .int 0, .int 0, .ref m40, .ref m41, .int 0, .int 0, .ref m44, .int 0, .int 0, .int 0, .int 0])), (m1, .inl (cy 1, 940, .inl (fun _ => 0))), (m14, .inl (cy 1, 414, .inl NW)), (m15, .inl (cy 1, 84, .inl (fun _ => 0))), (m16, .inl (cy 1, 828, .inl (fun _ => 0))), (m17, .inl (cy 1, 704, .inl (fun _ => 0))), (m18, .inl (cy 1, 88, .inl (fun _ => 0))), (m19, .inl (cy 1, 88, .inl (fun _ => 0))), (m20, .inl (cy 2, 24, .inr (.inl (fun _ => 0)))), (m21, .inl (cy 2, 24, .inr (.inl (fun _ => 0)))), (m22, .inl (cy 2, 48, .inr (.inl (fun _ => 0)))), (m23, .inl (cy 3, 2, .inl (fun _ => 0))), (m24, .inl (cy 3, 2, .inl (fun _ => 0))), (m26, .inl (cy 1, 6, .inl (fun _ => 0))), (m28, .inl (cy 1, 8, .inl (fun _ => 0))), (m31, .inl (cy 1, 6, .inl (fun _ => 0))), (m32, .inl (cy 1, 6, .inl (fun _ => 0))), (m35, .inl (cy 1, 8, .inl (fun _ => 0))), (m37, .inl (cy 1, 64, .inl (fun _ => 0))), (m40, .inl (cy 1, 120, .inl (fun _ => 0))), (m41, .inl (cy 1, 4, .inl (fun _ => 0))), (m44, .inl (cy 1, 240, .inl (fun _ => 0)))] H) (hD : va_D (fun q : Nat => s.heap.size ≤ q) [(x, .inr (9, [.ref kq1, .ref kq36, .ref kq49, .ref kq62, .ref kq78, .null, .ref kq7, .ref kq13, .ref kq18, .ref kq23, .ref kq24, .int 0, .int (-1), .int (-1), .int (-1)])), (kq28, .inr (3, [.ref kq31, .ref kq32, .ref kq33, .ref kq34, .ref kq35, .int 0, .int 5, .int 0, .int 0])), (kq32, .inl (cy 1, 4, .inl (fun _ => 0))), (kq36, .inr (8, [.ref kq28, .int 0, .ref kq39, .ref kq40, .ref kq41, .ref kq42, .ref kq43, .ref kq44, .ref kq45, .ref kq46, .ref kq47, .ref kq48, .int 0])), (kq39, .inl (cy 1, 36, .inl (fun _ => 0))), (kq40, .inl (cy 1, 6, .inl (fun _ => 0))), (kq41, .inl (cy 1, 6, .inl (fun _ => 0))), (kq42, .inl (cy 1, 6, .inl (fun _ => 0))), (kq43, .inl (cy 1, 6, .inl (fun _ => 0))), (kq44, .inl (cy 1, 8, .inl (fun _ => 0))), (kq46, .inl (cy 1, 8, .inl (fun _ => 0))), (kq47, .inl (cy 1, 8, .inl (fun _ => 0))), (kq45, .inl (cy 1, 8, .inl (fun _ => (-1)))), (kq49, .inr (8, [.ref kq28, .int 0, .ref kq52, .ref kq53, .ref kq54, .ref kq55, .ref kq56, .ref kq57, .ref kq58, .ref kq59, .ref kq60, .ref kq61, .int 0])), (kq52, .inl (cy 1, 36, .inl (fun _ => 0))), (kq53, .inl (cy 1, 6, .inl (fun _ => 0))), (kq54, .inl (cy 1, 6, .inl (fun _ => 0))), (kq55, .inl (cy 1, 6, .inl (fun _ => 0))), (kq56, .inl (cy 1, 6, .inl (fun _ => 0))), (kq57, .inl (cy 1, 8, .inl (fun _ => 0))), (kq59, .inl (cy 1, 8, .inl (fun _ => 0))), (kq60, .inl (cy 1, 8, .inl (fun _ => 0))), (kq58, .inl (cy 1, 8, .inl (fun _ => (-1)))), (kq23, .inl (cy 1, 8, .inl (fun _ => (-1)))), (y, .inr (10, [.int 0, .ref m1, .int 0, .int 0, .int 0, .int 0, .int 0, .int 0, .int 0, .int 0, .int 0, .int 0, .long 0, .int 0, .ref m14, .ref m15, .ref m16, .ref m17, .ref m18, .ref m19, .ref m20, .ref m21, .ref m22, .ref m23, .ref m24, .int 0, .ref m26, .int (-1), .ref m28, .int (-1), .int (-1), .ref m31, .ref m32, .int 0, .int 0, .ref m35, .int 0, .ref m37, .int 0, .int 0, .ref m40, .ref m41, .int 0, .int 0, .ref m44, .int 0, .int 0, .int 0, .int 0])), (m1, .inl (cy 1, 940, .inl (fun _ => 0))), (m14, .inl (cy 1, 414, .inl NW)), (m15, .inl (cy 1, 84, .inl (fun _ => 0))), (m16, .inl (cy 1, 828, .inl (fun _ => 0))), (m17, .inl (cy 1, 704, .inl (fun _ => 0))), (m18, .inl (cy 1, 88, .inl (fun _ => 0))), (m19, .inl (cy 1, 88, .inl (fun _ => 0))), (m20, .inl (cy 2, 24, .inr (.inl (fun _ => 0)))), (m21, .inl (cy 2, 24, .inr (.inl (fun _ => 0)))), (m22, .inl (cy 2, 48, .inr (.inl (fun _ => 0)))), (m23, .inl (cy 3, 2, .inl (fun _ => 0))), (m24, .inl (cy 3, 2, .inl (fun _ => 0))), (m26, .inl (cy 1, 6, .inl (fun _ => 0))), (m28, .inl (cy 1, 8, .inl (fun _ => 0))), (m31, .inl (cy 1, 6, .inl (fun _ => 0))), (m32, .inl (cy 1, 6, .inl (fun _ => 0))), (m35, .inl (cy 1, 8, .inl (fun _ => 0))), (m37, .inl (cy 1, 64, .inl (fun _ => 0))), (m40, .inl (cy 1, 120, .inl (fun _ => 0))), (m41, .inl (cy 1, 4, .inl (fun _ => 0))), (m44, .inl (cy 1, 240, .inl (fun _ => 0)))]) (hS : va_S (fun q : Nat => s.heap.size ≤ q) s.heap H locs) {ls : Array Slot} (hl : lv_has ls 7 [(4, .int 0), (3, .ref o), (2, .ref y), (1, .ref x), (0, .ref b)]) : W p l e room_1 s m #[Value.ref b] below meth c H locs 192 6460 (lw_Z below #[Value.ref b] s) (F0 m 1029 ls []) := by
  have hA : ∀ q : Nat, s.heap.size ≤ q → (fun q : Nat => s.heap.size ≤ q) q := fun _ h => h
  have hbA : ¬ (fun q : Nat => s.heap.size ≤ q) b := Nat.not_le.mpr hbl
  refine lv_aload_n hx hb dL_law_1029 rfl (lv_at hl 3 rfl) ?_
  refine endi (wr := [(y, .inr (10, [.int 0, .ref m1, .int 0, .int 0, .int 0, .int 0, .int 0, .int 0, .int 0, .int 0, .int 0, .int 0, .long 0, .int 0, .ref m14, .ref m15, .ref m16, .ref m17, .ref m18, .ref m19, .ref m20, .ref m21, .ref m22, .ref m23, .ref m24, .int 0, .ref m26, .int (-1), .ref m28, .int (-1), .int (-1), .ref m31, .ref m32, .int 0, .int 0, .ref m35, .int 0, .ref m37, .int 0, .int 0, .ref m40, .ref m41, .int 0, .int 0, .ref m44, .int 0, .int 0, .int 0, .int 0])), (m1, .inl (cy 1, 940, .inl (fun _ => 0))), (m14, .inl (cy 1, 414, .inl NW)), (m15, .inl (cy 1, 84, .inl (fun _ => 0))), (m16, .inl (cy 1, 828, .inl (fun _ => 0))), (m17, .inl (cy 1, 704, .inl (fun _ => 0))), (m18, .inl (cy 1, 88, .inl (fun _ => 0))), (m19, .inl (cy 1, 88, .inl (fun _ => 0))), (m20, .inl (cy 2, 24, .inr (.inl (fun _ => 0)))), (m21, .inl (cy 2, 24, .inr (.inl (fun _ => 0)))), (m22, .inl (cy 2, 48, .inr (.inl (fun _ => 0)))), (m23, .inl (cy 3, 2, .inl (fun _ => 0))), (m24, .inl (cy 3, 2, .inl (fun _ => 0))), (m26, .inl (cy 1, 6, .inl (fun _ => 0))), (m28, .inl (cy 1, 8, .inl (fun _ => 0))), (m31, .inl (cy 1, 6, .inl (fun _ => 0))), (m32, .inl (cy 1, 6, .inl (fun _ => 0))), (m35, .inl (cy 1, 8, .inl (fun _ => 0))), (m37, .inl (cy 1, 64, .inl (fun _ => 0))), (m40, .inl (cy 1, 120, .inl (fun _ => 0))), (m41, .inl (cy 1, 4, .inl (fun _ => 0))), (m44, .inl (cy 1, 240, .inl (fun _ => 0)))]) (va_runV (As := []) (rest := []) ⟨hx, hb, hml, hown, hts⟩ (c_X_rest l D cy z H.size x kq1 kq7 kq13 kq18 kq23 kq24 kq28 kq31 kq32 kq33 kq34 kq35 kq36 kq39 kq40 kq41 kq42 kq43 kq44 kq45 kq46 kq47 kq48 kq49 kq52 kq53 kq54 kq55 kq56 kq57 kq58 kq59 kq60 kq61 kq62 kq78) (cwV 0 hts (gV tw_807 tw_808 tw_809 tw_1 tw_810) rfl rfl rfl (by decide +kernel) ⟨Nat.le_of_ble_eq_true rfl, Nat.le_of_ble_eq_true rfl⟩) (preV hP hD hK hSD hS hA [0, 1, 2, 3, 4, 5, 6, 7, 8, 9, 10, 11, 12, 13, 14, 15, 16, 17, 18, 19, 20, 21, 22, 23] rfl (by decide) (q := (RX9, TX9, 15)) (ci := 9) (q0 := 0) rfl rfl) rfl rfl hl.1 rfl (lv_room (Nat.le_of_ble_eq_true rfl)) dL_law_1030 ⟨Nat.le_of_ble_eq_true rfl, Nat.le_of_ble_eq_true rfl⟩) hP hD hS hA [0, 1, 2, 3, 4, 5, 6, 7, 8, 9, 10, 11, 12, 13, 14, 15, 16, 17, 18, 19, 20, 21, 22, 23] [24, 25, 26, 27, 28, 29, 30, 31, 32, 33, 34, 35, 36, 37, 38, 39, 40, 41, 42, 43, 44, 45] rfl rfl (by decide) (by decide) (fun r_2 u_1 H locs hw_2 hP hD hS => ?_)
  have hP : va_P D classes [(y, .inr (10, [.int 0, .ref m1, .int 0, .int 0, .int 0, .int 0, .int 0, .int 0, .int 0, .int 0, .int 0, .int 0, .long 0, .int 0, .ref m14, .ref m15, .ref m16, .ref m17, .ref m18, .ref m19, .ref m20, .ref m21, .ref m22, .ref m23, .ref m24, .int 0, .ref m26, .int (-1), .ref m28, .int (-1), .int (-1), .ref m31, .ref m32, .int 0, .int 0, .ref m35, .int 0, .ref m37, .int 0, .int 0, .ref m40, .ref m41, .int 0, .int 0, .ref m44, .int 0, .int 0, .int 0, .int 0])), (m1, .inl (cy 1, 940, .inl (fun _ => 0))), (m14, .inl (cy 1, 414, .inl NW)), (m15, .inl (cy 1, 84, .inl (fun _ => 0))), (m16, .inl (cy 1, 828, .inl (fun _ => 0))), (m17, .inl (cy 1, 704, .inl (fun _ => 0))), (m18, .inl (cy 1, 88, .inl (fun _ => 0))), (m19, .inl (cy 1, 88, .inl (fun _ => 0))), (m20, .inl (cy 2, 24, .inr (.inl (fun _ => 0)))), (m21, .inl (cy 2, 24, .inr (.inl (fun _ => 0)))), (m22, .inl (cy 2, 48, .inr (.inl (fun _ => 0)))), (m23, .inl (cy 3, 2, .inl (fun _ => 0))), (m24, .inl (cy 3, 2, .inl (fun _ => 0))), (m26, .inl (cy 1, 6, .inl (fun _ => 0))), (m28, .inl (cy 1, 8, .inl (fun _ => 0))), (m31, .inl (cy 1, 6, .inl (fun _ => 0))), (m32, .inl (cy 1, 6, .inl (fun _ => 0))), (m35, .inl (cy 1, 8, .inl (fun _ => 0))), (m37, .inl (cy 1, 64, .inl (fun _ => 0))), (m40, .inl (cy 1, 120, .inl (fun _ => 0))), (m41, .inl (cy 1, 4, .inl (fun _ => 0))), (m44, .inl (cy 1, 240, .inl (fun _ => 0)))] H := hP
  have hD : va_D (fun q : Nat => s.heap.size ≤ q) [(y, .inr (10, [.int 0, .ref m1, .int 0, .int 0, .int 0, .int 0, .int 0, .int 0, .int 0, .int 0, .int 0, .int 0, .long 0, .int 0, .ref m14, .ref m15, .ref m16, .ref m17, .ref m18, .ref m19, .ref m20, .ref m21, .ref m22, .ref m23, .ref m24, .int 0, .ref m26, .int (-1), .ref m28, .int (-1), .int (-1), .ref m31, .ref m32, .int 0, .int 0, .ref m35, .int 0, .ref m37, .int 0, .int 0, .ref m40, .ref m41, .int 0, .int 0, .ref m44, .int 0, .int 0, .int 0, .int 0])), (m1, .inl (cy 1, 940, .inl (fun _ => 0))), (m14, .inl (cy 1, 414, .inl NW)), (m15, .inl (cy 1, 84, .inl (fun _ => 0))), (m16, .inl (cy 1, 828, .inl (fun _ => 0))), (m17, .inl (cy 1, 704, .inl (fun _ => 0))), (m18, .inl (cy 1, 88, .inl (fun _ => 0))), (m19, .inl (cy 1, 88, .inl (fun _ => 0))), (m20, .inl (cy 2, 24, .inr (.inl (fun _ => 0)))), (m21, .inl (cy 2, 24, .inr (.inl (fun _ => 0)))), (m22, .inl (cy 2, 48, .inr (.inl (fun _ => 0)))), (m23, .inl (cy 3, 2, .inl (fun _ => 0))), (m24, .inl (cy 3, 2, .inl (fun _ => 0))), (m26, .inl (cy 1, 6, .inl (fun _ => 0))), (m28, .inl (cy 1, 8, .inl (fun _ => 0))), (m31, .inl (cy 1, 6, .inl (fun _ => 0))), (m32, .inl (cy 1, 6, .inl (fun _ => 0))), (m35, .inl (cy 1, 8, .inl (fun _ => 0))), (m37, .inl (cy 1, 64, .inl (fun _ => 0))), (m40, .inl (cy 1, 120, .inl (fun _ => 0))), (m41, .inl (cy 1, 4, .inl (fun _ => 0))), (m44, .inl (cy 1, 240, .inl (fun _ => 0)))] := hD
  have hw_2 : r_2 = 1 := hw_2
  subst hw_2
  refine lv_aload_n hx hb dL_law_1033 rfl (lv_at hl 2 rfl) ?_
  refine endi (wr := []) (va_runV (As := []) (rest := [.int 1]) ⟨hx, hb, hml, hown, hts⟩ (c_M_rest l D cy z H.size y m1 m14 m15 m16 m17 m18 m19 m20 m21 m22 m23 m24 m26 m28 m31 m32 m35 m37 m40 m41 m44) (cwV 0 hts (gV tw_1650 tw_1651 tw_1652 tw_15 tw_1653) rfl rfl rfl (by decide +kernel) ⟨Nat.le_of_ble_eq_true rfl, Nat.le_of_ble_eq_true rfl⟩) (preV hP hD hK hSD hS hA [0, 1, 2, 3, 4, 5, 6, 7, 8, 9, 10, 11, 12, 13, 14, 15, 16, 17, 18, 19, 20, 21] rfl (by decide) (q := (RX10, TX10, 49)) (ci := 10) (q0 := 0) rfl rfl) rfl rfl hl.1 rfl (lv_room (Nat.le_of_ble_eq_true rfl)) dL_law_1034 ⟨Nat.le_of_ble_eq_true rfl, Nat.le_of_ble_eq_true rfl⟩) hP hD hS hA [0, 1, 2, 3, 4, 5, 6, 7, 8, 9, 10, 11, 12, 13, 14, 15, 16, 17, 18, 19, 20, 21] [] rfl rfl (by decide) (by decide) (fun r_4 u_3 H locs hw_4 hP hD hS => ?_)
  have hP : va_P D classes [] H := hP
  have hD : va_D (fun q : Nat => s.heap.size ≤ q) [] := hD
  have hw_4 : r_4 = 1 := hw_4
  subst hw_4
  refine lv_icmp_eq (tgt := 1391) hx hb dL_law_1037 (by decide) (fun _ => ?_) (fun c9 => absurd (by decide) c9)
  refine lv_iinc (v := 6) (lv' := [(4, .int 6), (3, .ref o), (2, .ref y), (1, .ref x), (0, .ref b)]) hx hb dL_law_1391 hl (k := 0) rfl (by decide) (by decide) rfl (fun ls hl => ?_)
  refine lv_goto (tgt := 23) hx hb dL_law_1394 (by decide) ?_
  refine lv_iload hx hb dL_law_23 (lv_at hl 0 rfl) ?_
  refine lv_aload_n hx hb dL_law_25 rfl (lv_at hl 4 rfl) ?_
  refine va_slen hx hb hX hbl hbA hS dL_law_26 ?_
  refine tI (y := 6) rfl ?_
  refine lv_bipush (v := 6) hx hb dL_law_27 (by decide) ?_
  refine lv_isub hx hb dL_law_29 ?_
  refine tI (y := 0) (by decide) ?_
  refine lv_icmp_gt (tgt := 1397) hx hb dL_law_30 (by decide) (fun _ => ?_) (fun c9 => absurd (by decide) c9)
  refine lv_iconst (v := 1) hx hb dL_law_1397 (by decide) ?_
  refine va_forget (fun q hq => hS.2.2 q hq) ?_
  refine W.widen (k := 600002) (n := 7302232) (Nat.le_of_ble_eq_true rfl) (Nat.le_of_ble_eq_true rfl) ?_
  exact lw_ret hx hb hr hlocks dL_law_1398
set_option maxHeartbeats 4000000 in
set_option maxRecDepth 100000 in
theorem op28 {p : Program} {e : Env} {s : State} {m : MethodId} {below : List Frame} {meth : Method} {c : Code} (l : Launch) {b : Nat} {xs : Nat → Int32} (hx : p.tables.exec = Jvm.exec) (hb : c.code = code) (hr : meth.sig.returnType = ret) (hlocks : meth.locks = false) (hml : c.maxLocals = 7) (hown : s.vm.findClass RL = some m.cls) (hts : ∀ w ∈ gT, w.before #[Value.ref b] s = true) (hX : va_X b 6 xs s s.heap) (hbl : b < s.heap.size) (D : va_G) (cy : Nat → ClassId) (z : Nat → Nat) (hK : va_K D classes (TY cy) s) (hSD : SD z (fun q : Nat => s.heap.size ≤ q) s) (x : Nat) (kq1 : Nat) (kq7 : Nat) (kq13 : Nat) (kq18 : Nat) (kq23 : Nat) (kq24 : Nat) (kq36 : Nat) (kq49 : Nat) (kq62 : Nat) (kq78 : Nat) (y : Nat) (m1 : Nat) (m14 : Nat) (m15 : Nat) (m16 : Nat) (m17 : Nat) (m18 : Nat) (m19 : Nat) (m20 : Nat) (m21 : Nat) (m22 : Nat) (m23 : Nat) (m24 : Nat) (m26 : Nat) (m28 : Nat) (m31 : Nat) (m32 : Nat) (m35 : Nat) (m37 : Nat) (m40 : Nat) (m41 : Nat) (m44 : Nat) (o : Nat) {H : Heap} {locs : List Loc} (hP : va_P D classes [(x, .inr (9, [.ref kq1, .ref kq36, .ref kq49, .ref kq62, .ref kq78, .null, .ref kq7, .ref kq13, .ref kq18, .ref kq23, .ref kq24, .int 0, .int (-1), .int (-1), .int (-1)])), (kq23, .inl (cy 1, 8, .inl (fun _ => (-1)))), (y, .inr (10, [.int 0, .ref m1, .int 0, .int 0, .int 0, .int 0, .int 0, .int 0, .int 0, .int 0, .int 0, .int 0, .long 0, .int 0, .ref m14, .ref m15, .ref m16, .ref m17, .ref m18, .ref m19, .ref m20, .ref m21, .ref m22, .ref m23, .ref m24, .int 0, .ref m26, .int (-1), .ref m28, .int (-1), .int (-1), .ref m31, .ref m32, .int 0, .int 0, .ref m35, .int 0, .ref m37, .int 0, .int 0, .ref m40, .ref m41, .int 0, .int 0, .ref m44, .int 0, .int 0, .int 0, .int 0]))] H) (hD : va_D (fun q : Nat => s.heap.size ≤ q) [(x, .inr (9, [.ref kq1, .ref kq36, .ref kq49, .ref kq62, .ref kq78, .null, .ref kq7, .ref kq13, .ref kq18, .ref kq23, .ref kq24, .int 0, .int (-1), .int (-1), .int (-1)])), (kq23, .inl (cy 1, 8, .inl (fun _ => (-1)))), (y, .inr (10, [.int 0, .ref m1, .int 0, .int 0, .int 0, .int 0, .int 0, .int 0, .int 0, .int 0, .int 0, .int 0, .long 0, .int 0, .ref m14, .ref m15, .ref m16, .ref m17, .ref m18, .ref m19, .ref m20, .ref m21, .ref m22, .ref m23, .ref m24, .int 0, .ref m26, .int (-1), .ref m28, .int (-1), .int (-1), .ref m31, .ref m32, .int 0, .int 0, .ref m35, .int 0, .ref m37, .int 0, .int 0, .ref m40, .ref m41, .int 0, .int 0, .ref m44, .int 0, .int 0, .int 0, .int 0]))]) (hS : va_S (fun q : Nat => s.heap.size ≤ q) s.heap H locs) {ls : Array Slot} (hl : lv_has ls 7 [(4, .int 0), (3, .ref o), (2, .ref y), (1, .ref x), (0, .ref b)]) : W p l e room_1 s m #[Value.ref b] below meth c H locs 192 6460 (lw_Z below #[Value.ref b] s) (F0 m 1042 ls []) := by
  have hA : ∀ q : Nat, s.heap.size ≤ q → (fun q : Nat => s.heap.size ≤ q) q := fun _ h => h
  have hbA : ¬ (fun q : Nat => s.heap.size ≤ q) b := Nat.not_le.mpr hbl
  refine lv_aload_n hx hb dL_law_1042 rfl (lv_at hl 3 rfl) ?_
  refine lv_aload_n hx hb dL_law_1043 rfl (lv_at hl 4 rfl) ?_
  refine lv_iload hx hb dL_law_1044 (lv_at hl 0 rfl) ?_
  refine lv_iconst (v := 1) hx hb dL_law_1046 (by decide) ?_
  refine lv_iadd hx hb dL_law_1047 ?_
  refine tI (y := 1) (by decide) ?_
  refine va_sld hx hb hX hbl hbA hS (vp_in_nI (n := 1) (N := 6) (by decide) (by decide)) dL_law_1048 ?_
  refine tI (y := xs 1) rfl ?_
  refine endi (wr := [(y, .inr (10, [.int 0, .ref m1, .int 0, .int 0, .int 0, .int 0, .int 0, .int 0, .int 0, .int 0, .int 0, .int 0, .long 0, .int 0, .ref m14, .ref m15, .ref m16, .ref m17, .ref m18, .ref m19, .ref m20, .ref m21, .ref m22, .ref m23, .ref m24, .int 0, .ref m26, .int (-1), .ref m28, .int (-1), .int (-1), .ref m31, .ref m32, .int 0, .int 0, .ref m35, .int 0, .ref m37, .int 0, .int 0, .ref m40, .ref m41, .int 0, .int 0, .ref m44, .int 0, .int 0, .int 0, .int 0]))]) (va_runV (As := [.int (xs 1)]) (rest := []) ⟨hx, hb, hml, hown, hts⟩ (c_X_rested l D cy z H.size x kq1 kq7 kq13 kq18 kq23 kq24 kq36 kq49 kq62 kq78 (xs 1)) (cwV 1 hts (gV tw_820 tw_821 tw_822 tw_1 tw_823) rfl rfl rfl (by decide +kernel) ⟨Nat.le_of_ble_eq_true rfl, Nat.le_of_ble_eq_true rfl⟩) (preV hP hD hK hSD hS hA [0, 1] rfl (by decide) (q := (RX9, TX9, 15)) (ci := 9) (q0 := 0) rfl rfl) rfl rfl hl.1 rfl (lv_room (Nat.le_of_ble_eq_true rfl)) dL_law_1049 ⟨Nat.le_of_ble_eq_true rfl, Nat.le_of_ble_eq_true rfl⟩) hP hD hS hA [0, 1] [2] rfl rfl (by decide) (by decide) (fun r_2 u_1 H locs hw_2 hP hD hS => ?_)
  have hP : va_P D classes [(y, .inr (10, [.int 0, .ref m1, .int 0, .int 0, .int 0, .int 0, .int 0, .int 0, .int 0, .int 0, .int 0, .int 0, .long 0, .int 0, .ref m14, .ref m15, .ref m16, .ref m17, .ref m18, .ref m19, .ref m20, .ref m21, .ref m22, .ref m23, .ref m24, .int 0, .ref m26, .int (-1), .ref m28, .int (-1), .int (-1), .ref m31, .ref m32, .int 0, .int 0, .ref m35, .int 0, .ref m37, .int 0, .int 0, .ref m40, .ref m41, .int 0, .int 0, .ref m44, .int 0, .int 0, .int 0, .int 0]))] H := hP
  have hD : va_D (fun q : Nat => s.heap.size ≤ q) [(y, .inr (10, [.int 0, .ref m1, .int 0, .int 0, .int 0, .int 0, .int 0, .int 0, .int 0, .int 0, .int 0, .int 0, .long 0, .int 0, .ref m14, .ref m15, .ref m16, .ref m17, .ref m18, .ref m19, .ref m20, .ref m21, .ref m22, .ref m23, .ref m24, .int 0, .ref m26, .int (-1), .ref m28, .int (-1), .int (-1), .ref m31, .ref m32, .int 0, .int 0, .ref m35, .int 0, .ref m37, .int 0, .int 0, .ref m40, .ref m41, .int 0, .int 0, .ref m44, .int 0, .int 0, .int 0, .int 0]))] := hD
  have hw_2 : r_2 = -1 := hw_2
  subst hw_2
  refine lv_aload_n hx hb dL_law_1052 rfl (lv_at hl 2 rfl) ?_
  refine lv_aload_n hx hb dL_law_1053 rfl (lv_at hl 4 rfl) ?_
  refine lv_iload hx hb dL_law_1054 (lv_at hl 0 rfl) ?_
  refine lv_iconst (v := 1) hx hb dL_law_1056 (by decide) ?_
  refine lv_iadd hx hb dL_law_1057 ?_
  refine tI (y := 1) (by decide) ?_
  refine va_sld hx hb hX hbl hbA hS (vp_in_nI (n := 1) (N := 6) (by decide) (by decide)) dL_law_1058 ?_
  refine tI (y := xs 1) rfl ?_
  refine endi (wr := []) (va_runV (As := [.int (xs 1)]) (rest := [.int (-1)]) ⟨hx, hb, hml, hown, hts⟩ (c_M_rested l D cy z H.size y m1 m14 m15 m16 m17 m18 m19 m20 m21 m22 m23 m24 m26 m28 m31 m32 m35 m37 m40 m41 m44 (xs 1)) (cwV 1 hts (gV tw_1662 tw_1663 tw_1664 tw_15 tw_1665) rfl rfl rfl (by decide +kernel) ⟨Nat.le_of_ble_eq_true rfl, Nat.le_of_ble_eq_true rfl⟩) (preV hP hD hK hSD hS hA [0] rfl (by decide) (q := (RX10, TX10, 49)) (ci := 10) (q0 := 0) rfl rfl) rfl rfl hl.1 rfl (lv_room (Nat.le_of_ble_eq_true rfl)) dL_law_1059 ⟨Nat.le_of_ble_eq_true rfl, Nat.le_of_ble_eq_true rfl⟩) hP hD hS hA [0] [] rfl rfl (by decide) (by decide) (fun r_4 u_3 H locs hw_4 hP hD hS => ?_)
  have hP : va_P D classes [] H := hP
  have hD : va_D (fun q : Nat => s.heap.size ≤ q) [] := hD
  have hw_4 : r_4 = -1 := hw_4
  subst hw_4
  refine lv_icmp_eq (tgt := 1391) hx hb dL_law_1062 (by decide) (fun _ => ?_) (fun c9 => absurd (by decide) c9)
  refine lv_iinc (v := 6) (lv' := [(4, .int 6), (3, .ref o), (2, .ref y), (1, .ref x), (0, .ref b)]) hx hb dL_law_1391 hl (k := 0) rfl (by decide) (by decide) rfl (fun ls hl => ?_)
  refine lv_goto (tgt := 23) hx hb dL_law_1394 (by decide) ?_
  refine lv_iload hx hb dL_law_23 (lv_at hl 0 rfl) ?_
  refine lv_aload_n hx hb dL_law_25 rfl (lv_at hl 4 rfl) ?_
  refine va_slen hx hb hX hbl hbA hS dL_law_26 ?_
  refine tI (y := 6) rfl ?_
  refine lv_bipush (v := 6) hx hb dL_law_27 (by decide) ?_
  refine lv_isub hx hb dL_law_29 ?_
  refine tI (y := 0) (by decide) ?_
  refine lv_icmp_gt (tgt := 1397) hx hb dL_law_30 (by decide) (fun _ => ?_) (fun c9 => absurd (by decide) c9)
  refine lv_iconst (v := 1) hx hb dL_law_1397 (by decide) ?_
  refine va_forget (fun q hq => hS.2.2 q hq) ?_
  refine W.widen (k := 600002) (n := 7302232) (Nat.le_of_ble_eq_true rfl) (Nat.le_of_ble_eq_true rfl) ?_
  exact lw_ret hx hb hr hlocks dL_law_1398
set_option maxHeartbeats 4000000 in
set_option maxRecDepth 100000 in
theorem op29 {p : Program} {e : Env} {s : State} {m : MethodId} {below : List Frame} {meth : Method} {c : Code} (l : Launch) {b : Nat} {xs : Nat → Int32} (hx : p.tables.exec = Jvm.exec) (hb : c.code = code) (hr : meth.sig.returnType = ret) (hlocks : meth.locks = false) (hml : c.maxLocals = 7) (hown : s.vm.findClass RL = some m.cls) (hts : ∀ w ∈ gT, w.before #[Value.ref b] s = true) (hX : va_X b 6 xs s s.heap) (hbl : b < s.heap.size) (D : va_G) (cy : Nat → ClassId) (z : Nat → Nat) (hK : va_K D classes (TY cy) s) (hSD : SD z (fun q : Nat => s.heap.size ≤ q) s) (x : Nat) (kq1 : Nat) (kq7 : Nat) (kq13 : Nat) (kq18 : Nat) (kq23 : Nat) (kq24 : Nat) (kq28 : Nat) (kq31 : Nat) (kq32 : Nat) (kq33 : Nat) (kq34 : Nat) (kq35 : Nat) (kq36 : Nat) (kq39 : Nat) (kq40 : Nat) (kq41 : Nat) (kq42 : Nat) (kq43 : Nat) (kq44 : Nat) (kq45 : Nat) (kq46 : Nat) (kq47 : Nat) (kq48 : Nat) (kq49 : Nat) (kq62 : Nat) (kq78 : Nat) (y : Nat) (m1 : Nat) (m14 : Nat) (m15 : Nat) (m16 : Nat) (m17 : Nat) (m18 : Nat) (m19 : Nat) (m20 : Nat) (m21 : Nat) (m22 : Nat) (m23 : Nat) (m24 : Nat) (m26 : Nat) (m28 : Nat) (m31 : Nat) (m32 : Nat) (m35 : Nat) (m37 : Nat) (m40 : Nat) (m41 : Nat) (m44 : Nat) (o : Nat) {H : Heap} {locs : List Loc} (hP : va_P D classes [(x, .inr (9, [.ref kq1, .ref kq36, .ref kq49, .ref kq62, .ref kq78, .null, .ref kq7, .ref kq13, .ref kq18, .ref kq23, .ref kq24, .int 0, .int (-1), .int (-1), .int (-1)])), (kq28, .inr (3, [.ref kq31, .ref kq32, .ref kq33, .ref kq34, .ref kq35, .int 0, .int 5, .int 0, .int 0])), (kq32, .inl (cy 1, 4, .inl (fun _ => 0))), (kq36, .inr (8, [.ref kq28, .int 0, .ref kq39, .ref kq40, .ref kq41, .ref kq42, .ref kq43, .ref kq44, .ref kq45, .ref kq46, .ref kq47, .ref kq48, .int 0])), (y, .inr (10, [.int 0, .ref m1, .int 0, .int 0, .int 0, .int 0, .int 0, .int 0, .int 0, .int 0, .int 0, .int 0, .long 0, .int 0, .ref m14, .ref m15, .ref m16, .ref m17, .ref m18, .ref m19, .ref m20, .ref m21, .ref m22, .ref m23, .ref m24, .int 0, .ref m26, .int (-1), .ref m28, .int (-1), .int (-1), .ref m31, .ref m32, .int 0, .int 0, .ref m35, .int 0, .ref m37, .int 0, .int 0, .ref m40, .ref m41, .int 0, .int 0, .ref m44, .int 0, .int 0, .int 0, .int 0])), (m14, .inl (cy 1, 414, .inl NW))] H) (hD : va_D (fun q : Nat => s.heap.size ≤ q) [(x, .inr (9, [.ref kq1, .ref kq36, .ref kq49, .ref kq62, .ref kq78, .null, .ref kq7, .ref kq13, .ref kq18, .ref kq23, .ref kq24, .int 0, .int (-1), .int (-1), .int (-1)])), (kq28, .inr (3, [.ref kq31, .ref kq32, .ref kq33, .ref kq34, .ref kq35, .int 0, .int 5, .int 0, .int 0])), (kq32, .inl (cy 1, 4, .inl (fun _ => 0))), (kq36, .inr (8, [.ref kq28, .int 0, .ref kq39, .ref kq40, .ref kq41, .ref kq42, .ref kq43, .ref kq44, .ref kq45, .ref kq46, .ref kq47, .ref kq48, .int 0])), (y, .inr (10, [.int 0, .ref m1, .int 0, .int 0, .int 0, .int 0, .int 0, .int 0, .int 0, .int 0, .int 0, .int 0, .long 0, .int 0, .ref m14, .ref m15, .ref m16, .ref m17, .ref m18, .ref m19, .ref m20, .ref m21, .ref m22, .ref m23, .ref m24, .int 0, .ref m26, .int (-1), .ref m28, .int (-1), .int (-1), .ref m31, .ref m32, .int 0, .int 0, .ref m35, .int 0, .ref m37, .int 0, .int 0, .ref m40, .ref m41, .int 0, .int 0, .ref m44, .int 0, .int 0, .int 0, .int 0])), (m14, .inl (cy 1, 414, .inl NW))]) (hS : va_S (fun q : Nat => s.heap.size ≤ q) s.heap H locs) {ls : Array Slot} (hl : lv_has ls 7 [(4, .int 0), (3, .ref o), (2, .ref y), (1, .ref x), (0, .ref b)]) : W p l e room_1 s m #[Value.ref b] below meth c H locs 192 6460 (lw_Z below #[Value.ref b] s) (F0 m 1067 ls []) := by
  have hA : ∀ q : Nat, s.heap.size ≤ q → (fun q : Nat => s.heap.size ≤ q) q := fun _ h => h
  have hbA : ¬ (fun q : Nat => s.heap.size ≤ q) b := Nat.not_le.mpr hbl
  refine lv_aload_n hx hb dL_law_1067 rfl (lv_at hl 3 rfl) ?_
  refine endi (wr := [(y, .inr (10, [.int 0, .ref m1, .int 0, .int 0, .int 0, .int 0, .int 0, .int 0, .int 0, .int 0, .int 0, .int 0, .long 0, .int 0, .ref m14, .ref m15, .ref m16, .ref m17, .ref m18, .ref m19, .ref m20, .ref m21, .ref m22, .ref m23, .ref m24, .int 0, .ref m26, .int (-1), .ref m28, .int (-1), .int (-1), .ref m31, .ref m32, .int 0, .int 0, .ref m35, .int 0, .ref m37, .int 0, .int 0, .ref m40, .ref m41, .int 0, .int 0, .ref m44, .int 0, .int 0, .int 0, .int 0])), (m14, .inl (cy 1, 414, .inl NW))]) (va_runV (As := []) (rest := []) ⟨hx, hb, hml, hown, hts⟩ (c_X_greatest l D cy z H.size x kq1 kq7 kq13 kq18 kq23 kq24 kq28 kq31 kq32 kq33 kq34 kq35 kq36 kq39 kq40 kq41 kq42 kq43 kq44 kq45 kq46 kq47 kq48 kq49 kq62 kq78) (cwV 0 hts (gV tw_824 tw_825 tw_826 tw_1 tw_827) rfl rfl rfl (by decide +kernel) ⟨Nat.le_of_ble_eq_true rfl, Nat.le_of_ble_eq_true rfl⟩) (preV hP hD hK hSD hS hA [0, 1, 2, 3] rfl (by decide) (q := (RX9, TX9, 15)) (ci := 9) (q0 := 0) rfl rfl) rfl rfl hl.1 rfl (lv_room (Nat.le_of_ble_eq_true rfl)) dL_law_1068 ⟨Nat.le_of_ble_eq_true rfl, Nat.le_of_ble_eq_true rfl⟩) hP hD hS hA [0, 1, 2, 3] [4, 5] rfl rfl (by decide) (by decide) (fun r_2 u_1 H locs hw_2 hP hD hS => ?_)
  have hP : va_P D classes [(y, .inr (10, [.int 0, .ref m1, .int 0, .int 0, .int 0, .int 0, .int 0, .int 0, .int 0, .int 0, .int 0, .int 0, .long 0, .int 0, .ref m14, .ref m15, .ref m16, .ref m17, .ref m18, .ref m19, .ref m20, .ref m21, .ref m22, .ref m23, .ref m24, .int 0, .ref m26, .int (-1), .ref m28, .int (-1), .int (-1), .ref m31, .ref m32, .int 0, .int 0, .ref m35, .int 0, .ref m37, .int 0, .int 0, .ref m40, .ref m41, .int 0, .int 0, .ref m44, .int 0, .int 0, .int 0, .int 0])), (m14, .inl (cy 1, 414, .inl NW))] H := hP
  have hD : va_D (fun q : Nat => s.heap.size ≤ q) [(y, .inr (10, [.int 0, .ref m1, .int 0, .int 0, .int 0, .int 0, .int 0, .int 0, .int 0, .int 0, .int 0, .int 0, .long 0, .int 0, .ref m14, .ref m15, .ref m16, .ref m17, .ref m18, .ref m19, .ref m20, .ref m21, .ref m22, .ref m23, .ref m24, .int 0, .ref m26, .int (-1), .ref m28, .int (-1), .int (-1), .ref m31, .ref m32, .int 0, .int 0, .ref m35, .int 0, .ref m37, .int 0, .int 0, .ref m40, .ref m41, .int 0, .int 0, .ref m44, .int 0, .int 0, .int 0, .int 0])), (m14, .inl (cy 1, 414, .inl NW))] := hD
  have hw_2 : r_2 = -1 := hw_2
  subst hw_2
  refine lv_aload_n hx hb dL_law_1071 rfl (lv_at hl 2 rfl) ?_
  refine endi (wr := []) (va_runV (As := []) (rest := [.int (-1)]) ⟨hx, hb, hml, hown, hts⟩ (c_M_greatest l D cy z H.size y m1 m14 m15 m16 m17 m18 m19 m20 m21 m22 m23 m24 m26 m28 m31 m32 m35 m37 m40 m41 m44) (cwV 0 hts (gV tw_1666 tw_1667 tw_1668 tw_15 tw_1669) rfl rfl rfl (by decide +kernel) ⟨Nat.le_of_ble_eq_true rfl, Nat.le_of_ble_eq_true rfl⟩) (preV hP hD hK hSD hS hA [0, 1] rfl (by decide) (q := (RX10, TX10, 49)) (ci := 10) (q0 := 0) rfl rfl) rfl rfl hl.1 rfl (lv_room (Nat.le_of_ble_eq_true rfl)) dL_law_1072 ⟨Nat.le_of_ble_eq_true rfl, Nat.le_of_ble_eq_true rfl⟩) hP hD hS hA [0, 1] [] rfl rfl (by decide) (by decide) (fun r_4 u_3 H locs hw_4 hP hD hS => ?_)
  have hP : va_P D classes [] H := hP
  have hD : va_D (fun q : Nat => s.heap.size ≤ q) [] := hD
  have hw_4 : r_4 = -1 := hw_4
  subst hw_4
  refine lv_icmp_eq (tgt := 1391) hx hb dL_law_1075 (by decide) (fun _ => ?_) (fun c9 => absurd (by decide) c9)
  refine lv_iinc (v := 6) (lv' := [(4, .int 6), (3, .ref o), (2, .ref y), (1, .ref x), (0, .ref b)]) hx hb dL_law_1391 hl (k := 0) rfl (by decide) (by decide) rfl (fun ls hl => ?_)
  refine lv_goto (tgt := 23) hx hb dL_law_1394 (by decide) ?_
  refine lv_iload hx hb dL_law_23 (lv_at hl 0 rfl) ?_
  refine lv_aload_n hx hb dL_law_25 rfl (lv_at hl 4 rfl) ?_
  refine va_slen hx hb hX hbl hbA hS dL_law_26 ?_
  refine tI (y := 6) rfl ?_
  refine lv_bipush (v := 6) hx hb dL_law_27 (by decide) ?_
  refine lv_isub hx hb dL_law_29 ?_
  refine tI (y := 0) (by decide) ?_
  refine lv_icmp_gt (tgt := 1397) hx hb dL_law_30 (by decide) (fun _ => ?_) (fun c9 => absurd (by decide) c9)
  refine lv_iconst (v := 1) hx hb dL_law_1397 (by decide) ?_
  refine va_forget (fun q hq => hS.2.2 q hq) ?_
  refine W.widen (k := 600002) (n := 7302232) (Nat.le_of_ble_eq_true rfl) (Nat.le_of_ble_eq_true rfl) ?_
  exact lw_ret hx hb hr hlocks dL_law_1398
set_option maxHeartbeats 4000000 in
set_option maxRecDepth 100000 in
theorem op30 {p : Program} {e : Env} {s : State} {m : MethodId} {below : List Frame} {meth : Method} {c : Code} (l : Launch) {b : Nat} {xs : Nat → Int32} (hx : p.tables.exec = Jvm.exec) (hb : c.code = code) (hr : meth.sig.returnType = ret) (hlocks : meth.locks = false) (hml : c.maxLocals = 7) (hown : s.vm.findClass RL = some m.cls) (hts : ∀ w ∈ gT, w.before #[Value.ref b] s = true) (hX : va_X b 6 xs s s.heap) (hbl : b < s.heap.size) (D : va_G) (cy : Nat → ClassId) (z : Nat → Nat) (hK : va_K D classes (TY cy) s) (hSD : SD z (fun q : Nat => s.heap.size ≤ q) s) (x : Nat) (kq1 : Nat) (kq7 : Nat) (kq13 : Nat) (kq18 : Nat) (kq23 : Nat) (kq24 : Nat) (kq28 : Nat) (kq31 : Nat) (kq32 : Nat) (kq33 : Nat) (kq34 : Nat) (kq35 : Nat) (kq36 : Nat) (kq39 : Nat) (kq40 : Nat) (kq41 : Nat) (kq42 : Nat) (kq43 : Nat) (kq44 : Nat) (kq45 : Nat) (kq46 : Nat) (kq47 : Nat) (kq48 : Nat) (kq49 : Nat) (kq62 : Nat) (kq78 : Nat) (y : Nat) (m1 : Nat) (m14 : Nat) (m15 : Nat) (m16 : Nat) (m17 : Nat) (m18 : Nat) (m19 : Nat) (m20 : Nat) (m21 : Nat) (m22 : Nat) (m23 : Nat) (m24 : Nat) (m26 : Nat) (m28 : Nat) (m31 : Nat) (m32 : Nat) (m35 : Nat) (m37 : Nat) (m40 : Nat) (m41 : Nat) (m44 : Nat) (o : Nat) {H : Heap} {locs : List Loc} (hP : va_P D classes [(x, .inr (9, [.ref kq1, .ref kq36, .ref kq49, .ref kq62, .ref kq78, .null, .ref kq7, .ref kq13, .ref kq18, .ref kq23, .ref kq24, .int 0, .int (-1), .int (-1), .int (-1)])), (kq28, .inr (3, [.ref kq31, .ref kq32, .ref kq33, .ref kq34, .ref kq35, .int 0, .int 5, .int 0, .int 0])), (kq32, .inl (cy 1, 4, .inl (fun _ => 0))), (kq36, .inr (8, [.ref kq28, .int 0, .ref kq39, .ref kq40, .ref kq41, .ref kq42, .ref kq43, .ref kq44, .ref kq45, .ref kq46, .ref kq47, .ref kq48, .int 0])), (y, .inr (10, [.int 0, .ref m1, .int 0, .int 0, .int 0, .int 0, .int 0, .int 0, .int 0, .int 0, .int 0, .int 0, .long 0, .int 0, .ref m14, .ref m15, .ref m16, .ref m17, .ref m18, .ref m19, .ref m20, .ref m21, .ref m22, .ref m23, .ref m24, .int 0, .ref m26, .int (-1), .ref m28, .int (-1), .int (-1), .ref m31, .ref m32, .int 0, .int 0, .ref m35, .int 0, .ref m37, .int 0, .int 0, .ref m40, .ref m41, .int 0, .int 0, .ref m44, .int 0, .int 0, .int 0, .int 0])), (m14, .inl (cy 1, 414, .inl NW))] H) (hD : va_D (fun q : Nat => s.heap.size ≤ q) [(x, .inr (9, [.ref kq1, .ref kq36, .ref kq49, .ref kq62, .ref kq78, .null, .ref kq7, .ref kq13, .ref kq18, .ref kq23, .ref kq24, .int 0, .int (-1), .int (-1), .int (-1)])), (kq28, .inr (3, [.ref kq31, .ref kq32, .ref kq33, .ref kq34, .ref kq35, .int 0, .int 5, .int 0, .int 0])), (kq32, .inl (cy 1, 4, .inl (fun _ => 0))), (kq36, .inr (8, [.ref kq28, .int 0, .ref kq39, .ref kq40, .ref kq41, .ref kq42, .ref kq43, .ref kq44, .ref kq45, .ref kq46, .ref kq47, .ref kq48, .int 0])), (y, .inr (10, [.int 0, .ref m1, .int 0, .int 0, .int 0, .int 0, .int 0, .int 0, .int 0, .int 0, .int 0, .int 0, .long 0, .int 0, .ref m14, .ref m15, .ref m16, .ref m17, .ref m18, .ref m19, .ref m20, .ref m21, .ref m22, .ref m23, .ref m24, .int 0, .ref m26, .int (-1), .ref m28, .int (-1), .int (-1), .ref m31, .ref m32, .int 0, .int 0, .ref m35, .int 0, .ref m37, .int 0, .int 0, .ref m40, .ref m41, .int 0, .int 0, .ref m44, .int 0, .int 0, .int 0, .int 0])), (m14, .inl (cy 1, 414, .inl NW))]) (hS : va_S (fun q : Nat => s.heap.size ≤ q) s.heap H locs) {ls : Array Slot} (hl : lv_has ls 7 [(4, .int 0), (3, .ref o), (2, .ref y), (1, .ref x), (0, .ref b)]) : W p l e room_1 s m #[Value.ref b] below meth c H locs 192 6460 (lw_Z below #[Value.ref b] s) (F0 m 1080 ls []) := by
  have hA : ∀ q : Nat, s.heap.size ≤ q → (fun q : Nat => s.heap.size ≤ q) q := fun _ h => h
  have hbA : ¬ (fun q : Nat => s.heap.size ≤ q) b := Nat.not_le.mpr hbl
  refine lv_aload_n hx hb dL_law_1080 rfl (lv_at hl 3 rfl) ?_
  refine lv_aload_n hx hb dL_law_1081 rfl (lv_at hl 4 rfl) ?_
  refine lv_iload hx hb dL_law_1082 (lv_at hl 0 rfl) ?_
  refine lv_iconst (v := 1) hx hb dL_law_1084 (by decide) ?_
  refine lv_iadd hx hb dL_law_1085 ?_
  refine tI (y := 1) (by decide) ?_
  refine va_sld hx hb hX hbl hbA hS (vp_in_nI (n := 1) (N := 6) (by decide) (by decide)) dL_law_1086 ?_
  refine tI (y := xs 1) rfl ?_
  refine endi (wr := [(y, .inr (10, [.int 0, .ref m1, .int 0, .int 0, .int 0, .int 0, .int 0, .int 0, .int 0, .int 0, .int 0, .int 0, .long 0, .int 0, .ref m14, .ref m15, .ref m16, .ref m17, .ref m18, .ref m19, .ref m20, .ref m21, .ref m22, .ref m23, .ref m24, .int 0, .ref m26, .int (-1), .ref m28, .int (-1), .int (-1), .ref m31, .ref m32, .int 0, .int 0, .ref m35, .int 0, .ref m37, .int 0, .int 0, .ref m40, .ref m41, .int 0, .int 0, .ref m44, .int 0, .int 0, .int 0, .int 0])), (m14, .inl (cy 1, 414, .inl NW))]) (va_runV (As := [.int (xs 1)]) (rest := []) ⟨hx, hb, hml, hown, hts⟩ (c_X_tag l D cy z H.size x kq1 kq7 kq13 kq18 kq23 kq24 kq28 kq31 kq32 kq33 kq34 kq35 kq36 kq39 kq40 kq41 kq42 kq43 kq44 kq45 kq46 kq47 kq48 kq49 kq62 kq78 (xs 1)) (cwV 1 hts (gV tw_829 tw_830 tw_831 tw_1 tw_832) rfl rfl rfl (by decide +kernel) ⟨Nat.le_of_ble_eq_true rfl, Nat.le_of_ble_eq_true rfl⟩) (preV hP hD hK hSD hS hA [0, 1, 2, 3] rfl (by decide) (q := (RX9, TX9, 15)) (ci := 9) (q0 := 0) rfl rfl) rfl rfl hl.1 rfl (lv_room (Nat.le_of_ble_eq_true rfl)) dL_law_1087 ⟨Nat.le_of_ble_eq_true rfl, Nat.le_of_ble_eq_true rfl⟩) hP hD hS hA [0, 1, 2, 3] [4, 5] rfl rfl (by decide) (by decide) (fun r_2 u_1 H locs hw_2 hP hD hS => ?_)
  have hP : va_P D classes [(y, .inr (10, [.int 0, .ref m1, .int 0, .int 0, .int 0, .int 0, .int 0, .int 0, .int 0, .int 0, .int 0, .int 0, .long 0, .int 0, .ref m14, .ref m15, .ref m16, .ref m17, .ref m18, .ref m19, .ref m20, .ref m21, .ref m22, .ref m23, .ref m24, .int 0, .ref m26, .int (-1), .ref m28, .int (-1), .int (-1), .ref m31, .ref m32, .int 0, .int 0, .ref m35, .int 0, .ref m37, .int 0, .int 0, .ref m40, .ref m41, .int 0, .int 0, .ref m44, .int 0, .int 0, .int 0, .int 0])), (m14, .inl (cy 1, 414, .inl NW))] H := hP
  have hD : va_D (fun q : Nat => s.heap.size ≤ q) [(y, .inr (10, [.int 0, .ref m1, .int 0, .int 0, .int 0, .int 0, .int 0, .int 0, .int 0, .int 0, .int 0, .int 0, .long 0, .int 0, .ref m14, .ref m15, .ref m16, .ref m17, .ref m18, .ref m19, .ref m20, .ref m21, .ref m22, .ref m23, .ref m24, .int 0, .ref m26, .int (-1), .ref m28, .int (-1), .int (-1), .ref m31, .ref m32, .int 0, .int 0, .ref m35, .int 0, .ref m37, .int 0, .int 0, .ref m40, .ref m41, .int 0, .int 0, .ref m44, .int 0, .int 0, .int 0, .int 0])), (m14, .inl (cy 1, 414, .inl NW))] := hD
  have hw_2 : r_2 = -1 := hw_2
  subst hw_2
  refine lv_aload_n hx hb dL_law_1090 rfl (lv_at hl 2 rfl) ?_
  refine lv_aload_n hx hb dL_law_1091 rfl (lv_at hl 4 rfl) ?_
  refine lv_iload hx hb dL_law_1092 (lv_at hl 0 rfl) ?_
  refine lv_iconst (v := 1) hx hb dL_law_1094 (by decide) ?_
  refine lv_iadd hx hb dL_law_1095 ?_
  refine tI (y := 1) (by decide) ?_
  refine va_sld hx hb hX hbl hbA hS (vp_in_nI (n := 1) (N := 6) (by decide) (by decide)) dL_law_1096 ?_
  refine tI (y := xs 1) rfl ?_
  refine endi (wr := []) (va_runV (As := [.int (xs 1)]) (rest := [.int (-1)]) ⟨hx, hb, hml, hown, hts⟩ (c_M_tag l D cy z H.size y m1 m14 m15 m16 m17 m18 m19 m20 m21 m22 m23 m24 m26 m28 m31 m32 m35 m37 m40 m41 m44 (xs 1)) (cwV 1 hts (gV tw_1670 tw_1671 tw_1672 tw_15 tw_1673) rfl rfl rfl (by decide +kernel) ⟨Nat.le_of_ble_eq_true rfl, Nat.le_of_ble_eq_true rfl⟩) (preV hP hD hK hSD hS hA [0, 1] rfl (by decide) (q := (RX10, TX10, 49)) (ci := 10) (q0 := 0) rfl rfl) rfl rfl hl.1 rfl (lv_room (Nat.le_of_ble_eq_true rfl)) dL_law_1097 ⟨Nat.le_of_ble_eq_true rfl, Nat.le_of_ble_eq_true rfl⟩) hP hD hS hA [0, 1] [] rfl rfl (by decide) (by decide) (fun r_4 u_3 H locs hw_4 hP hD hS => ?_)
  have hP : va_P D classes [] H := hP
  have hD : va_D (fun q : Nat => s.heap.size ≤ q) [] := hD
  have hw_4 : r_4 = -1 := hw_4
  subst hw_4
  refine lv_icmp_eq (tgt := 1391) hx hb dL_law_1100 (by decide) (fun _ => ?_) (fun c9 => absurd (by decide) c9)
  refine lv_iinc (v := 6) (lv' := [(4, .int 6), (3, .ref o), (2, .ref y), (1, .ref x), (0, .ref b)]) hx hb dL_law_1391 hl (k := 0) rfl (by decide) (by decide) rfl (fun ls hl => ?_)
  refine lv_goto (tgt := 23) hx hb dL_law_1394 (by decide) ?_
  refine lv_iload hx hb dL_law_23 (lv_at hl 0 rfl) ?_
  refine lv_aload_n hx hb dL_law_25 rfl (lv_at hl 4 rfl) ?_
  refine va_slen hx hb hX hbl hbA hS dL_law_26 ?_
  refine tI (y := 6) rfl ?_
  refine lv_bipush (v := 6) hx hb dL_law_27 (by decide) ?_
  refine lv_isub hx hb dL_law_29 ?_
  refine tI (y := 0) (by decide) ?_
  refine lv_icmp_gt (tgt := 1397) hx hb dL_law_30 (by decide) (fun _ => ?_) (fun c9 => absurd (by decide) c9)
  refine lv_iconst (v := 1) hx hb dL_law_1397 (by decide) ?_
  refine va_forget (fun q hq => hS.2.2 q hq) ?_
  refine W.widen (k := 600002) (n := 7302232) (Nat.le_of_ble_eq_true rfl) (Nat.le_of_ble_eq_true rfl) ?_
  exact lw_ret hx hb hr hlocks dL_law_1398
set_option maxHeartbeats 4000000 in
set_option maxRecDepth 100000 in
theorem op31 {p : Program} {e : Env} {s : State} {m : MethodId} {below : List Frame} {meth : Method} {c : Code} (l : Launch) {b : Nat} {xs : Nat → Int32} (hx : p.tables.exec = Jvm.exec) (hb : c.code = code) (hr : meth.sig.returnType = ret) (hlocks : meth.locks = false) (hml : c.maxLocals = 7) (hown : s.vm.findClass RL = some m.cls) (hts : ∀ w ∈ gT, w.before #[Value.ref b] s = true) (hX : va_X b 6 xs s s.heap) (hbl : b < s.heap.size) (D : va_G) (cy : Nat → ClassId) (z : Nat → Nat) (hK : va_K D classes (TY cy) s) (hSD : SD z (fun q : Nat => s.heap.size ≤ q) s) (x : Nat) (kq1 : Nat) (kq7 : Nat) (kq13 : Nat) (kq18 : Nat) (kq23 : Nat) (kq24 : Nat) (kq27 : Nat) (kq36 : Nat) (kq49 : Nat) (kq62 : Nat) (kq78 : Nat) (y : Nat) (m1 : Nat) (m14 : Nat) (m15 : Nat) (m16 : Nat) (m17 : Nat) (m18 : Nat) (m19 : Nat) (m20 : Nat) (m21 : Nat) (m22 : Nat) (m23 : Nat) (m24 : Nat) (m26 : Nat) (m28 : Nat) (m31 : Nat) (m32 : Nat) (m35 : Nat) (m37 : Nat) (m40 : Nat) (m41 : Nat) (m44 : Nat) (o : Nat) {H : Heap} {locs : List Loc} (hP : va_P D classes [(x, .inr (9, [.ref kq1, .ref kq36, .ref kq49, .ref kq62, .ref kq78, .null, .ref kq7, .ref kq13, .ref kq18, .ref kq23, .ref kq24, .int 0, .int (-1), .int (-1), .int (-1)])), (kq24, .inr (6, [.ref kq27, .int 0])), (y, .inr (10, [.int 0, .ref m1, .int 0, .int 0, .int 0, .int 0, .int 0, .int 0, .int 0, .int 0, .int 0, .int 0, .long 0, .int 0, .ref m14, .ref m15, .ref m16, .ref m17, .ref m18, .ref m19, .ref m20, .ref m21, .ref m22, .ref m23, .ref m24, .int 0, .ref m26, .int (-1), .ref m28, .int (-1), .int (-1), .ref m31, .ref m32, .int 0, .int 0, .ref m35, .int 0, .ref m37, .int 0, .int 0, .ref m40, .ref m41, .int 0, .int 0, .ref m44, .int 0, .int 0, .int 0, .int 0]))] H) (hD : va_D (fun q : Nat => s.heap.size ≤ q) [(x, .inr (9, [.ref kq1, .ref kq36, .ref kq49, .ref kq62, .ref kq78, .null, .ref kq7, .ref kq13, .ref kq18, .ref kq23, .ref kq24, .int 0, .int (-1), .int (-1), .int (-1)])), (kq24, .inr (6, [.ref kq27, .int 0])), (y, .inr (10, [.int 0, .ref m1, .int 0, .int 0, .int 0, .int 0, .int 0, .int 0, .int 0, .int 0, .int 0, .int 0, .long 0, .int 0, .ref m14, .ref m15, .ref m16, .ref m17, .ref m18, .ref m19, .ref m20, .ref m21, .ref m22, .ref m23, .ref m24, .int 0, .ref m26, .int (-1), .ref m28, .int (-1), .int (-1), .ref m31, .ref m32, .int 0, .int 0, .ref m35, .int 0, .ref m37, .int 0, .int 0, .ref m40, .ref m41, .int 0, .int 0, .ref m44, .int 0, .int 0, .int 0, .int 0]))]) (hS : va_S (fun q : Nat => s.heap.size ≤ q) s.heap H locs) {ls : Array Slot} (hl : lv_has ls 7 [(4, .int 0), (3, .ref o), (2, .ref y), (1, .ref x), (0, .ref b)]) : W p l e room_1 s m #[Value.ref b] below meth c H locs 192 6460 (lw_Z below #[Value.ref b] s) (F0 m 1105 ls []) := by
  have hA : ∀ q : Nat, s.heap.size ≤ q → (fun q : Nat => s.heap.size ≤ q) q := fun _ h => h
  have hbA : ¬ (fun q : Nat => s.heap.size ≤ q) b := Nat.not_le.mpr hbl
  refine lv_aload_n hx hb dL_law_1105 rfl (lv_at hl 3 rfl) ?_
  refine lv_aload_n hx hb dL_law_1106 rfl (lv_at hl 4 rfl) ?_
  refine lv_iload hx hb dL_law_1107 (lv_at hl 0 rfl) ?_
  refine lv_iconst (v := 1) hx hb dL_law_1109 (by decide) ?_
  refine lv_iadd hx hb dL_law_1110 ?_
  refine tI (y := 1) (by decide) ?_
  refine va_sld hx hb hX hbl hbA hS (vp_in_nI (n := 1) (N := 6) (by decide) (by decide)) dL_law_1111 ?_
  refine tI (y := xs 1) rfl ?_
  refine endi (wr := [(y, .inr (10, [.int 0, .ref m1, .int 0, .int 0, .int 0, .int 0, .int 0, .int 0, .int 0, .int 0, .int 0, .int 0, .long 0, .int 0, .ref m14, .ref m15, .ref m16, .ref m17, .ref m18, .ref m19, .ref m20, .ref m21, .ref m22, .ref m23, .ref m24, .int 0, .ref m26, .int (-1), .ref m28, .int (-1), .int (-1), .ref m31, .ref m32, .int 0, .int 0, .ref m35, .int 0, .ref m37, .int 0, .int 0, .ref m40, .ref m41, .int 0, .int 0, .ref m44, .int 0, .int 0, .int 0, .int 0]))]) (va_runV (As := [.int (xs 1)]) (rest := []) ⟨hx, hb, hml, hown, hts⟩ (c_X_byteAt l D cy z H.size x kq1 kq7 kq13 kq18 kq23 kq24 kq27 kq36 kq49 kq62 kq78 (xs 1)) (cwV 1 hts (gV tw_854 tw_855 tw_856 tw_1 tw_857) rfl rfl rfl (by decide +kernel) ⟨Nat.le_of_ble_eq_true rfl, Nat.le_of_ble_eq_true rfl⟩) (preV hP hD hK hSD hS hA [0, 1] rfl (by decide) (q := (RX9, TX9, 15)) (ci := 9) (q0 := 0) rfl rfl) rfl rfl hl.1 rfl (lv_room (Nat.le_of_ble_eq_true rfl)) dL_law_1112 ⟨Nat.le_of_ble_eq_true rfl, Nat.le_of_ble_eq_true rfl⟩) hP hD hS hA [0, 1] [2] rfl rfl (by decide) (by decide) (fun r_2 u_1 H locs hw_2 hP hD hS => ?_)
  have hP : va_P D classes [(y, .inr (10, [.int 0, .ref m1, .int 0, .int 0, .int 0, .int 0, .int 0, .int 0, .int 0, .int 0, .int 0, .int 0, .long 0, .int 0, .ref m14, .ref m15, .ref m16, .ref m17, .ref m18, .ref m19, .ref m20, .ref m21, .ref m22, .ref m23, .ref m24, .int 0, .ref m26, .int (-1), .ref m28, .int (-1), .int (-1), .ref m31, .ref m32, .int 0, .int 0, .ref m35, .int 0, .ref m37, .int 0, .int 0, .ref m40, .ref m41, .int 0, .int 0, .ref m44, .int 0, .int 0, .int 0, .int 0]))] H := hP
  have hD : va_D (fun q : Nat => s.heap.size ≤ q) [(y, .inr (10, [.int 0, .ref m1, .int 0, .int 0, .int 0, .int 0, .int 0, .int 0, .int 0, .int 0, .int 0, .int 0, .long 0, .int 0, .ref m14, .ref m15, .ref m16, .ref m17, .ref m18, .ref m19, .ref m20, .ref m21, .ref m22, .ref m23, .ref m24, .int 0, .ref m26, .int (-1), .ref m28, .int (-1), .int (-1), .ref m31, .ref m32, .int 0, .int 0, .ref m35, .int 0, .ref m37, .int 0, .int 0, .ref m40, .ref m41, .int 0, .int 0, .ref m44, .int 0, .int 0, .int 0, .int 0]))] := hD
  have hw_2 : r_2 = -1 := hw_2
  subst hw_2
  refine lv_aload_n hx hb dL_law_1115 rfl (lv_at hl 2 rfl) ?_
  refine lv_aload_n hx hb dL_law_1116 rfl (lv_at hl 4 rfl) ?_
  refine lv_iload hx hb dL_law_1117 (lv_at hl 0 rfl) ?_
  refine lv_iconst (v := 1) hx hb dL_law_1119 (by decide) ?_
  refine lv_iadd hx hb dL_law_1120 ?_
  refine tI (y := 1) (by decide) ?_
  refine va_sld hx hb hX hbl hbA hS (vp_in_nI (n := 1) (N := 6) (by decide) (by decide)) dL_law_1121 ?_
  refine tI (y := xs 1) rfl ?_
  refine endi (wr := []) (va_runV (As := [.int (xs 1)]) (rest := [.int (-1)]) ⟨hx, hb, hml, hown, hts⟩ (c_M_byteAt l D cy z H.size y m1 m14 m15 m16 m17 m18 m19 m20 m21 m22 m23 m24 m26 m28 m31 m32 m35 m37 m40 m41 m44 (xs 1)) (cwV 1 hts (gV tw_1686 tw_1687 tw_1688 tw_15 tw_1689) rfl rfl rfl (by decide +kernel) ⟨Nat.le_of_ble_eq_true rfl, Nat.le_of_ble_eq_true rfl⟩) (preV hP hD hK hSD hS hA [0] rfl (by decide) (q := (RX10, TX10, 49)) (ci := 10) (q0 := 0) rfl rfl) rfl rfl hl.1 rfl (lv_room (Nat.le_of_ble_eq_true rfl)) dL_law_1122 ⟨Nat.le_of_ble_eq_true rfl, Nat.le_of_ble_eq_true rfl⟩) hP hD hS hA [0] [] rfl rfl (by decide) (by decide) (fun r_4 u_3 H locs hw_4 hP hD hS => ?_)
  have hP : va_P D classes [] H := hP
  have hD : va_D (fun q : Nat => s.heap.size ≤ q) [] := hD
  have hw_4 : r_4 = -1 := hw_4
  subst hw_4
  refine lv_icmp_eq (tgt := 1391) hx hb dL_law_1125 (by decide) (fun _ => ?_) (fun c9 => absurd (by decide) c9)
  refine lv_iinc (v := 6) (lv' := [(4, .int 6), (3, .ref o), (2, .ref y), (1, .ref x), (0, .ref b)]) hx hb dL_law_1391 hl (k := 0) rfl (by decide) (by decide) rfl (fun ls hl => ?_)
  refine lv_goto (tgt := 23) hx hb dL_law_1394 (by decide) ?_
  refine lv_iload hx hb dL_law_23 (lv_at hl 0 rfl) ?_
  refine lv_aload_n hx hb dL_law_25 rfl (lv_at hl 4 rfl) ?_
  refine va_slen hx hb hX hbl hbA hS dL_law_26 ?_
  refine tI (y := 6) rfl ?_
  refine lv_bipush (v := 6) hx hb dL_law_27 (by decide) ?_
  refine lv_isub hx hb dL_law_29 ?_
  refine tI (y := 0) (by decide) ?_
  refine lv_icmp_gt (tgt := 1397) hx hb dL_law_30 (by decide) (fun _ => ?_) (fun c9 => absurd (by decide) c9)
  refine lv_iconst (v := 1) hx hb dL_law_1397 (by decide) ?_
  refine va_forget (fun q hq => hS.2.2 q hq) ?_
  refine W.widen (k := 600002) (n := 7302232) (Nat.le_of_ble_eq_true rfl) (Nat.le_of_ble_eq_true rfl) ?_
  exact lw_ret hx hb hr hlocks dL_law_1398
set_option maxHeartbeats 4000000 in
set_option maxRecDepth 100000 in
theorem op32 {p : Program} {e : Env} {s : State} {m : MethodId} {below : List Frame} {meth : Method} {c : Code} (l : Launch) {b : Nat} {xs : Nat → Int32} (hx : p.tables.exec = Jvm.exec) (hb : c.code = code) (hr : meth.sig.returnType = ret) (hlocks : meth.locks = false) (hml : c.maxLocals = 7) (hown : s.vm.findClass RL = some m.cls) (hts : ∀ w ∈ gT, w.before #[Value.ref b] s = true) (hX : va_X b 6 xs s s.heap) (hbl : b < s.heap.size) (D : va_G) (cy : Nat → ClassId) (z : Nat → Nat) (hK : va_K D classes (TY cy) s) (hSD : SD z (fun q : Nat => s.heap.size ≤ q) s) (x : Nat) (kq1 : Nat) (kq7 : Nat) (kq13 : Nat) (kq18 : Nat) (kq23 : Nat) (kq24 : Nat) (kq28 : Nat) (kq31 : Nat) (kq32 : Nat) (kq33 : Nat) (kq34 : Nat) (kq35 : Nat) (kq36 : Nat) (kq39 : Nat) (kq40 : Nat) (kq41 : Nat) (kq42 : Nat) (kq43 : Nat) (kq44 : Nat) (kq45 : Nat) (kq46 : Nat) (kq47 : Nat) (kq48 : Nat) (kq49 : Nat) (kq62 : Nat) (kq78 : Nat) (y : Nat) (m1 : Nat) (m14 : Nat) (m15 : Nat) (m16 : Nat) (m17 : Nat) (m18 : Nat) (m19 : Nat) (m20 : Nat) (m21 : Nat) (m22 : Nat) (m23 : Nat) (m24 : Nat) (m26 : Nat) (m28 : Nat) (m31 : Nat) (m32 : Nat) (m35 : Nat) (m37 : Nat) (m40 : Nat) (m41 : Nat) (m44 : Nat) (o : Nat) {H : Heap} {locs : List Loc} (hP : va_P D classes [(x, .inr (9, [.ref kq1, .ref kq36, .ref kq49, .ref kq62, .ref kq78, .null, .ref kq7, .ref kq13, .ref kq18, .ref kq23, .ref kq24, .int 0, .int (-1), .int (-1), .int (-1)])), (kq28, .inr (3, [.ref kq31, .ref kq32, .ref kq33, .ref kq34, .ref kq35, .int 0, .int 5, .int 0, .int 0])), (kq32, .inl (cy 1, 4, .inl (fun _ => 0))), (kq36, .inr (8, [.ref kq28, .int 0, .ref kq39, .ref kq40, .ref kq41, .ref kq42, .ref kq43, .ref kq44, .ref kq45, .ref kq46, .ref kq47, .ref kq48, .int 0])), (y, .inr (10, [.int 0, .ref m1, .int 0, .int 0, .int 0, .int 0, .int 0, .int 0, .int 0, .int 0, .int 0, .int 0, .long 0, .int 0, .ref m14, .ref m15, .ref m16, .ref m17, .ref m18, .ref m19, .ref m20, .ref m21, .ref m22, .ref m23, .ref m24, .int 0, .ref m26, .int (-1), .ref m28, .int (-1), .int (-1), .ref m31, .ref m32, .int 0, .int 0, .ref m35, .int 0, .ref m37, .int 0, .int 0, .ref m40, .ref m41, .int 0, .int 0, .ref m44, .int 0, .int 0, .int 0, .int 0])), (m14, .inl (cy 1, 414, .inl NW))] H) (hD : va_D (fun q : Nat => s.heap.size ≤ q) [(x, .inr (9, [.ref kq1, .ref kq36, .ref kq49, .ref kq62, .ref kq78, .null, .ref kq7, .ref kq13, .ref kq18, .ref kq23, .ref kq24, .int 0, .int (-1), .int (-1), .int (-1)])), (kq28, .inr (3, [.ref kq31, .ref kq32, .ref kq33, .ref kq34, .ref kq35, .int 0, .int 5, .int 0, .int 0])), (kq32, .inl (cy 1, 4, .inl (fun _ => 0))), (kq36, .inr (8, [.ref kq28, .int 0, .ref kq39, .ref kq40, .ref kq41, .ref kq42, .ref kq43, .ref kq44, .ref kq45, .ref kq46, .ref kq47, .ref kq48, .int 0])), (y, .inr (10, [.int 0, .ref m1, .int 0, .int 0, .int 0, .int 0, .int 0, .int 0, .int 0, .int 0, .int 0, .int 0, .long 0, .int 0, .ref m14, .ref m15, .ref m16, .ref m17, .ref m18, .ref m19, .ref m20, .ref m21, .ref m22, .ref m23, .ref m24, .int 0, .ref m26, .int (-1), .ref m28, .int (-1), .int (-1), .ref m31, .ref m32, .int 0, .int 0, .ref m35, .int 0, .ref m37, .int 0, .int 0, .ref m40, .ref m41, .int 0, .int 0, .ref m44, .int 0, .int 0, .int 0, .int 0])), (m14, .inl (cy 1, 414, .inl NW))]) (hS : va_S (fun q : Nat => s.heap.size ≤ q) s.heap H locs) {ls : Array Slot} (hl : lv_has ls 7 [(4, .int 0), (3, .ref o), (2, .ref y), (1, .ref x), (0, .ref b)]) : W p l e room_1 s m #[Value.ref b] below meth c H locs 192 6460 (lw_Z below #[Value.ref b] s) (F0 m 1130 ls []) := by
  have hA : ∀ q : Nat, s.heap.size ≤ q → (fun q : Nat => s.heap.size ≤ q) q := fun _ h => h
  have hbA : ¬ (fun q : Nat => s.heap.size ≤ q) b := Nat.not_le.mpr hbl
  refine lv_aload_n hx hb dL_law_1130 rfl (lv_at hl 3 rfl) ?_
  refine lv_aload_n hx hb dL_law_1131 rfl (lv_at hl 4 rfl) ?_
  refine lv_iload hx hb dL_law_1132 (lv_at hl 0 rfl) ?_
  refine lv_iconst (v := 1) hx hb dL_law_1134 (by decide) ?_
  refine lv_iadd hx hb dL_law_1135 ?_
  refine tI (y := 1) (by decide) ?_
  refine va_sld hx hb hX hbl hbA hS (vp_in_nI (n := 1) (N := 6) (by decide) (by decide)) dL_law_1136 ?_
  refine tI (y := xs 1) rfl ?_
  refine lv_aload_n hx hb dL_law_1137 rfl (lv_at hl 4 rfl) ?_
  refine lv_iload hx hb dL_law_1138 (lv_at hl 0 rfl) ?_
  refine lv_iconst (v := 2) hx hb dL_law_1140 (by decide) ?_
  refine lv_iadd hx hb dL_law_1141 ?_
  refine tI (y := 2) (by decide) ?_
  refine va_sld hx hb hX hbl hbA hS (vp_in_nI (n := 2) (N := 6) (by decide) (by decide)) dL_law_1142 ?_
  refine tI (y := xs 2) rfl ?_
  refine endi (wr := [(y, .inr (10, [.int 0, .ref m1, .int 0, .int 0, .int 0, .int 0, .int 0, .int 0, .int 0, .int 0, .int 0, .int 0, .long 0, .int 0, .ref m14, .ref m15, .ref m16, .ref m17, .ref m18, .ref m19, .ref m20, .ref m21, .ref m22, .ref m23, .ref m24, .int 0, .ref m26, .int (-1), .ref m28, .int (-1), .int (-1), .ref m31, .ref m32, .int 0, .int 0, .ref m35, .int 0, .ref m37, .int 0, .int 0, .ref m40, .ref m41, .int 0, .int 0, .ref m44, .int 0, .int 0, .int 0, .int 0])), (m14, .inl (cy 1, 414, .inl NW))]) (va_runV (As := [.int (xs 1), .int (xs 2)]) (rest := []) ⟨hx, hb, hml, hown, hts⟩ (c_X_drawn l D cy z H.size x kq1 kq7 kq13 kq18 kq23 kq24 kq28 kq31 kq32 kq33 kq34 kq35 kq36 kq39 kq40 kq41 kq42 kq43 kq44 kq45 kq46 kq47 kq48 kq49 kq62 kq78 (xs 1) (xs 2)) (cwV 2 hts (gV tw_858 tw_859 tw_860 tw_1 tw_861) rfl rfl rfl (by decide +kernel) ⟨Nat.le_of_ble_eq_true rfl, Nat.le_of_ble_eq_true rfl⟩) (preV hP hD hK hSD hS hA [0, 1, 2, 3] rfl (by decide) (q := (RX9, TX9, 15)) (ci := 9) (q0 := 0) rfl rfl) rfl rfl hl.1 rfl (lv_room (Nat.le_of_ble_eq_true rfl)) dL_law_1143 ⟨Nat.le_of_ble_eq_true rfl, Nat.le_of_ble_eq_true rfl⟩) hP hD hS hA [0, 1, 2, 3] [4, 5] rfl rfl (by decide) (by decide) (fun r_2 u_1 H locs hw_2 hP hD hS => ?_)
  have hP : va_P D classes [(y, .inr (10, [.int 0, .ref m1, .int 0, .int 0, .int 0, .int 0, .int 0, .int 0, .int 0, .int 0, .int 0, .int 0, .long 0, .int 0, .ref m14, .ref m15, .ref m16, .ref m17, .ref m18, .ref m19, .ref m20, .ref m21, .ref m22, .ref m23, .ref m24, .int 0, .ref m26, .int (-1), .ref m28, .int (-1), .int (-1), .ref m31, .ref m32, .int 0, .int 0, .ref m35, .int 0, .ref m37, .int 0, .int 0, .ref m40, .ref m41, .int 0, .int 0, .ref m44, .int 0, .int 0, .int 0, .int 0])), (m14, .inl (cy 1, 414, .inl NW))] H := hP
  have hD : va_D (fun q : Nat => s.heap.size ≤ q) [(y, .inr (10, [.int 0, .ref m1, .int 0, .int 0, .int 0, .int 0, .int 0, .int 0, .int 0, .int 0, .int 0, .int 0, .long 0, .int 0, .ref m14, .ref m15, .ref m16, .ref m17, .ref m18, .ref m19, .ref m20, .ref m21, .ref m22, .ref m23, .ref m24, .int 0, .ref m26, .int (-1), .ref m28, .int (-1), .int (-1), .ref m31, .ref m32, .int 0, .int 0, .ref m35, .int 0, .ref m37, .int 0, .int 0, .ref m40, .ref m41, .int 0, .int 0, .ref m44, .int 0, .int 0, .int 0, .int 0])), (m14, .inl (cy 1, 414, .inl NW))] := hD
  have hw_2 : r_2 = -1 := hw_2
  subst hw_2
  refine lv_aload_n hx hb dL_law_1146 rfl (lv_at hl 2 rfl) ?_
  refine lv_aload_n hx hb dL_law_1147 rfl (lv_at hl 4 rfl) ?_
  refine lv_iload hx hb dL_law_1148 (lv_at hl 0 rfl) ?_
  refine lv_iconst (v := 1) hx hb dL_law_1150 (by decide) ?_
  refine lv_iadd hx hb dL_law_1151 ?_
  refine tI (y := 1) (by decide) ?_
  refine va_sld hx hb hX hbl hbA hS (vp_in_nI (n := 1) (N := 6) (by decide) (by decide)) dL_law_1152 ?_
  refine tI (y := xs 1) rfl ?_
  refine lv_aload_n hx hb dL_law_1153 rfl (lv_at hl 4 rfl) ?_
  refine lv_iload hx hb dL_law_1154 (lv_at hl 0 rfl) ?_
  refine lv_iconst (v := 2) hx hb dL_law_1156 (by decide) ?_
  refine lv_iadd hx hb dL_law_1157 ?_
  refine tI (y := 2) (by decide) ?_
  refine va_sld hx hb hX hbl hbA hS (vp_in_nI (n := 2) (N := 6) (by decide) (by decide)) dL_law_1158 ?_
  refine tI (y := xs 2) rfl ?_
  refine endi (wr := []) (va_runV (As := [.int (xs 1), .int (xs 2)]) (rest := [.int (-1)]) ⟨hx, hb, hml, hown, hts⟩ (c_M_drawn l D cy z H.size y m1 m14 m15 m16 m17 m18 m19 m20 m21 m22 m23 m24 m26 m28 m31 m32 m35 m37 m40 m41 m44 (xs 1) (xs 2)) (cwV 2 hts (gV tw_1690 tw_1691 tw_1692 tw_15 tw_1693) rfl rfl rfl (by decide +kernel) ⟨Nat.le_of_ble_eq_true rfl, Nat.le_of_ble_eq_true rfl⟩) (preV hP hD hK hSD hS hA [0, 1] rfl (by decide) (q := (RX10, TX10, 49)) (ci := 10) (q0 := 0) rfl rfl) rfl rfl hl.1 rfl (lv_room (Nat.le_of_ble_eq_true rfl)) dL_law_1159 ⟨Nat.le_of_ble_eq_true rfl, Nat.le_of_ble_eq_true rfl⟩) hP hD hS hA [0, 1] [] rfl rfl (by decide) (by decide) (fun r_4 u_3 H locs hw_4 hP hD hS => ?_)
  have hP : va_P D classes [] H := hP
  have hD : va_D (fun q : Nat => s.heap.size ≤ q) [] := hD
  have hw_4 : r_4 = -1 := hw_4
  subst hw_4
  refine lv_icmp_eq (tgt := 1391) hx hb dL_law_1162 (by decide) (fun _ => ?_) (fun c9 => absurd (by decide) c9)
  refine lv_iinc (v := 6) (lv' := [(4, .int 6), (3, .ref o), (2, .ref y), (1, .ref x), (0, .ref b)]) hx hb dL_law_1391 hl (k := 0) rfl (by decide) (by decide) rfl (fun ls hl => ?_)
  refine lv_goto (tgt := 23) hx hb dL_law_1394 (by decide) ?_
  refine lv_iload hx hb dL_law_23 (lv_at hl 0 rfl) ?_
  refine lv_aload_n hx hb dL_law_25 rfl (lv_at hl 4 rfl) ?_
  refine va_slen hx hb hX hbl hbA hS dL_law_26 ?_
  refine tI (y := 6) rfl ?_
  refine lv_bipush (v := 6) hx hb dL_law_27 (by decide) ?_
  refine lv_isub hx hb dL_law_29 ?_
  refine tI (y := 0) (by decide) ?_
  refine lv_icmp_gt (tgt := 1397) hx hb dL_law_30 (by decide) (fun _ => ?_) (fun c9 => absurd (by decide) c9)
  refine lv_iconst (v := 1) hx hb dL_law_1397 (by decide) ?_
  refine va_forget (fun q hq => hS.2.2 q hq) ?_
  refine W.widen (k := 600002) (n := 7302232) (Nat.le_of_ble_eq_true rfl) (Nat.le_of_ble_eq_true rfl) ?_
  exact lw_ret hx hb hr hlocks dL_law_1398
set_option maxHeartbeats 4000000 in
set_option maxRecDepth 100000 in
theorem op33 {p : Program} {e : Env} {s : State} {m : MethodId} {below : List Frame} {meth : Method} {c : Code} (l : Launch) {b : Nat} {xs : Nat → Int32} (hx : p.tables.exec = Jvm.exec) (hb : c.code = code) (hr : meth.sig.returnType = ret) (hlocks : meth.locks = false) (hml : c.maxLocals = 7) (hown : s.vm.findClass RL = some m.cls) (hts : ∀ w ∈ gT, w.before #[Value.ref b] s = true) (hX : va_X b 6 xs s s.heap) (hbl : b < s.heap.size) (D : va_G) (cy : Nat → ClassId) (z : Nat → Nat) (hK : va_K D classes (TY cy) s) (hSD : SD z (fun q : Nat => s.heap.size ≤ q) s) (x : Nat) (kq1 : Nat) (kq7 : Nat) (kq13 : Nat) (kq18 : Nat) (kq23 : Nat) (kq24 : Nat) (kq28 : Nat) (kq31 : Nat) (kq32 : Nat) (kq33 : Nat) (kq34 : Nat) (kq35 : Nat) (kq36 : Nat) (kq39 : Nat) (kq40 : Nat) (kq41 : Nat) (kq42 : Nat) (kq43 : Nat) (kq44 : Nat) (kq45 : Nat) (kq46 : Nat) (kq47 : Nat) (kq48 : Nat) (kq49 : Nat) (kq62 : Nat) (kq78 : Nat) (y : Nat) (m1 : Nat) (m14 : Nat) (m15 : Nat) (m16 : Nat) (m17 : Nat) (m18 : Nat) (m19 : Nat) (m20 : Nat) (m21 : Nat) (m22 : Nat) (m23 : Nat) (m24 : Nat) (m26 : Nat) (m28 : Nat) (m31 : Nat) (m32 : Nat) (m35 : Nat) (m37 : Nat) (m40 : Nat) (m41 : Nat) (m44 : Nat) (o : Nat) {H : Heap} {locs : List Loc} (hP : va_P D classes [(x, .inr (9, [.ref kq1, .ref kq36, .ref kq49, .ref kq62, .ref kq78, .null, .ref kq7, .ref kq13, .ref kq18, .ref kq23, .ref kq24, .int 0, .int (-1), .int (-1), .int (-1)])), (kq28, .inr (3, [.ref kq31, .ref kq32, .ref kq33, .ref kq34, .ref kq35, .int 0, .int 5, .int 0, .int 0])), (kq32, .inl (cy 1, 4, .inl (fun _ => 0))), (kq36, .inr (8, [.ref kq28, .int 0, .ref kq39, .ref kq40, .ref kq41, .ref kq42, .ref kq43, .ref kq44, .ref kq45, .ref kq46, .ref kq47, .ref kq48, .int 0])), (y, .inr (10, [.int 0, .ref m1, .int 0, .int 0, .int 0, .int 0, .int 0, .int 0, .int 0, .int 0, .int 0, .int 0, .long 0, .int 0, .ref m14, .ref m15, .ref m16, .ref m17, .ref m18, .ref m19, .ref m20, .ref m21, .ref m22, .ref m23, .ref m24, .int 0, .ref m26, .int (-1), .ref m28, .int (-1), .int (-1), .ref m31, .ref m32, .int 0, .int 0, .ref m35, .int 0, .ref m37, .int 0, .int 0, .ref m40, .ref m41, .int 0, .int 0, .ref m44, .int 0, .int 0, .int 0, .int 0])), (m14, .inl (cy 1, 414, .inl NW))] H) (hD : va_D (fun q : Nat => s.heap.size ≤ q) [(x, .inr (9, [.ref kq1, .ref kq36, .ref kq49, .ref kq62, .ref kq78, .null, .ref kq7, .ref kq13, .ref kq18, .ref kq23, .ref kq24, .int 0, .int (-1), .int (-1), .int (-1)])), (kq28, .inr (3, [.ref kq31, .ref kq32, .ref kq33, .ref kq34, .ref kq35, .int 0, .int 5, .int 0, .int 0])), (kq32, .inl (cy 1, 4, .inl (fun _ => 0))), (kq36, .inr (8, [.ref kq28, .int 0, .ref kq39, .ref kq40, .ref kq41, .ref kq42, .ref kq43, .ref kq44, .ref kq45, .ref kq46, .ref kq47, .ref kq48, .int 0])), (y, .inr (10, [.int 0, .ref m1, .int 0, .int 0, .int 0, .int 0, .int 0, .int 0, .int 0, .int 0, .int 0, .int 0, .long 0, .int 0, .ref m14, .ref m15, .ref m16, .ref m17, .ref m18, .ref m19, .ref m20, .ref m21, .ref m22, .ref m23, .ref m24, .int 0, .ref m26, .int (-1), .ref m28, .int (-1), .int (-1), .ref m31, .ref m32, .int 0, .int 0, .ref m35, .int 0, .ref m37, .int 0, .int 0, .ref m40, .ref m41, .int 0, .int 0, .ref m44, .int 0, .int 0, .int 0, .int 0])), (m14, .inl (cy 1, 414, .inl NW))]) (hS : va_S (fun q : Nat => s.heap.size ≤ q) s.heap H locs) {ls : Array Slot} (hl : lv_has ls 7 [(4, .int 0), (3, .ref o), (2, .ref y), (1, .ref x), (0, .ref b)]) : W p l e room_1 s m #[Value.ref b] below meth c H locs 192 6460 (lw_Z below #[Value.ref b] s) (F0 m 1167 ls []) := by
  have hA : ∀ q : Nat, s.heap.size ≤ q → (fun q : Nat => s.heap.size ≤ q) q := fun _ h => h
  have hbA : ¬ (fun q : Nat => s.heap.size ≤ q) b := Nat.not_le.mpr hbl
  refine lv_aload_n hx hb dL_law_1167 rfl (lv_at hl 3 rfl) ?_
  refine lv_aload_n hx hb dL_law_1168 rfl (lv_at hl 4 rfl) ?_
  refine lv_iload hx hb dL_law_1169 (lv_at hl 0 rfl) ?_
  refine lv_iconst (v := 1) hx hb dL_law_1171 (by decide) ?_
  refine lv_iadd hx hb dL_law_1172 ?_
  refine tI (y := 1) (by decide) ?_
  refine va_sld hx hb hX hbl hbA hS (vp_in_nI (n := 1) (N := 6) (by decide) (by decide)) dL_law_1173 ?_
  refine tI (y := xs 1) rfl ?_
  refine lv_aload_n hx hb dL_law_1174 rfl (lv_at hl 4 rfl) ?_
  refine lv_iload hx hb dL_law_1175 (lv_at hl 0 rfl) ?_
  refine lv_iconst (v := 2) hx hb dL_law_1177 (by decide) ?_
  refine lv_iadd hx hb dL_law_1178 ?_
  refine tI (y := 2) (by decide) ?_
  refine va_sld hx hb hX hbl hbA hS (vp_in_nI (n := 2) (N := 6) (by decide) (by decide)) dL_law_1179 ?_
  refine tI (y := xs 2) rfl ?_
  refine lv_aload_n hx hb dL_law_1180 rfl (lv_at hl 4 rfl) ?_
  refine lv_iload hx hb dL_law_1181 (lv_at hl 0 rfl) ?_
  refine lv_iconst (v := 3) hx hb dL_law_1183 (by decide) ?_
  refine lv_iadd hx hb dL_law_1184 ?_
  refine tI (y := 3) (by decide) ?_
  refine va_sld hx hb hX hbl hbA hS (vp_in_nI (n := 3) (N := 6) (by decide) (by decide)) dL_law_1185 ?_
  refine tI (y := xs 3) rfl ?_
  refine lv_aload_n hx hb dL_law_1186 rfl (lv_at hl 4 rfl) ?_
  refine lv_iload hx hb dL_law_1187 (lv_at hl 0 rfl) ?_
  refine lv_iconst (v := 4) hx hb dL_law_1189 (by decide) ?_
  refine lv_iadd hx hb dL_law_1190 ?_
  refine tI (y := 4) (by decide) ?_
  refine va_sld hx hb hX hbl hbA hS (vp_in_nI (n := 4) (N := 6) (by decide) (by decide)) dL_law_1191 ?_
  refine tI (y := xs 4) rfl ?_
  refine endi (wr := [(y, .inr (10, [.int 0, .ref m1, .int 0, .int 0, .int 0, .int 0, .int 0, .int 0, .int 0, .int 0, .int 0, .int 0, .long 0, .int 0, .ref m14, .ref m15, .ref m16, .ref m17, .ref m18, .ref m19, .ref m20, .ref m21, .ref m22, .ref m23, .ref m24, .int 0, .ref m26, .int (-1), .ref m28, .int (-1), .int (-1), .ref m31, .ref m32, .int 0, .int 0, .ref m35, .int 0, .ref m37, .int 0, .int 0, .ref m40, .ref m41, .int 0, .int 0, .ref m44, .int 0, .int 0, .int 0, .int 0])), (m14, .inl (cy 1, 414, .inl NW))]) (va_runV (As := [.int (xs 1), .int (xs 2), .int (xs 3), .int (xs 4)]) (rest := []) ⟨hx, hb, hml, hown, hts⟩ (c_X_odds l D cy z H.size x kq1 kq7 kq13 kq18 kq23 kq24 kq28 kq31 kq32 kq33 kq34 kq35 kq36 kq39 kq40 kq41 kq42 kq43 kq44 kq45 kq46 kq47 kq48 kq49 kq62 kq78 (xs 1) (xs 2) (xs 3) (xs 4)) (cwV 4 hts (gV tw_878 tw_879 tw_880 tw_1 tw_881) rfl rfl rfl (by decide +kernel) ⟨Nat.le_of_ble_eq_true rfl, Nat.le_of_ble_eq_true rfl⟩) (preV hP hD hK hSD hS hA [0, 1, 2, 3] rfl (by decide) (q := (RX9, TX9, 15)) (ci := 9) (q0 := 0) rfl rfl) rfl rfl hl.1 rfl (lv_room (Nat.le_of_ble_eq_true rfl)) dL_law_1192 ⟨Nat.le_of_ble_eq_true rfl, Nat.le_of_ble_eq_true rfl⟩) hP hD hS hA [0, 1, 2, 3] [4, 5] rfl rfl (by decide) (by decide) (fun r_2 u_1 H locs hw_2 hP hD hS => ?_)
  have hP : va_P D classes [(y, .inr (10, [.int 0, .ref m1, .int 0, .int 0, .int 0, .int 0, .int 0, .int 0, .int 0, .int 0, .int 0, .int 0, .long 0, .int 0, .ref m14, .ref m15, .ref m16, .ref m17, .ref m18, .ref m19, .ref m20, .ref m21, .ref m22, .ref m23, .ref m24, .int 0, .ref m26, .int (-1), .ref m28, .int (-1), .int (-1), .ref m31, .ref m32, .int 0, .int 0, .ref m35, .int 0, .ref m37, .int 0, .int 0, .ref m40, .ref m41, .int 0, .int 0, .ref m44, .int 0, .int 0, .int 0, .int 0])), (m14, .inl (cy 1, 414, .inl NW))] H := hP
  have hD : va_D (fun q : Nat => s.heap.size ≤ q) [(y, .inr (10, [.int 0, .ref m1, .int 0, .int 0, .int 0, .int 0, .int 0, .int 0, .int 0, .int 0, .int 0, .int 0, .long 0, .int 0, .ref m14, .ref m15, .ref m16, .ref m17, .ref m18, .ref m19, .ref m20, .ref m21, .ref m22, .ref m23, .ref m24, .int 0, .ref m26, .int (-1), .ref m28, .int (-1), .int (-1), .ref m31, .ref m32, .int 0, .int 0, .ref m35, .int 0, .ref m37, .int 0, .int 0, .ref m40, .ref m41, .int 0, .int 0, .ref m44, .int 0, .int 0, .int 0, .int 0])), (m14, .inl (cy 1, 414, .inl NW))] := hD
  have hw_2 : r_2 = -1 := hw_2
  subst hw_2
  refine lv_aload_n hx hb dL_law_1195 rfl (lv_at hl 2 rfl) ?_
  refine lv_aload_n hx hb dL_law_1196 rfl (lv_at hl 4 rfl) ?_
  refine lv_iload hx hb dL_law_1197 (lv_at hl 0 rfl) ?_
  refine lv_iconst (v := 1) hx hb dL_law_1199 (by decide) ?_
  refine lv_iadd hx hb dL_law_1200 ?_
  refine tI (y := 1) (by decide) ?_
  refine va_sld hx hb hX hbl hbA hS (vp_in_nI (n := 1) (N := 6) (by decide) (by decide)) dL_law_1201 ?_
  refine tI (y := xs 1) rfl ?_
  refine lv_aload_n hx hb dL_law_1202 rfl (lv_at hl 4 rfl) ?_
  refine lv_iload hx hb dL_law_1203 (lv_at hl 0 rfl) ?_
  refine lv_iconst (v := 2) hx hb dL_law_1205 (by decide) ?_
  refine lv_iadd hx hb dL_law_1206 ?_
  refine tI (y := 2) (by decide) ?_
  refine va_sld hx hb hX hbl hbA hS (vp_in_nI (n := 2) (N := 6) (by decide) (by decide)) dL_law_1207 ?_
  refine tI (y := xs 2) rfl ?_
  refine lv_aload_n hx hb dL_law_1208 rfl (lv_at hl 4 rfl) ?_
  refine lv_iload hx hb dL_law_1209 (lv_at hl 0 rfl) ?_
  refine lv_iconst (v := 3) hx hb dL_law_1211 (by decide) ?_
  refine lv_iadd hx hb dL_law_1212 ?_
  refine tI (y := 3) (by decide) ?_
  refine va_sld hx hb hX hbl hbA hS (vp_in_nI (n := 3) (N := 6) (by decide) (by decide)) dL_law_1213 ?_
  refine tI (y := xs 3) rfl ?_
  refine lv_aload_n hx hb dL_law_1214 rfl (lv_at hl 4 rfl) ?_
  refine lv_iload hx hb dL_law_1215 (lv_at hl 0 rfl) ?_
  refine lv_iconst (v := 4) hx hb dL_law_1217 (by decide) ?_
  refine lv_iadd hx hb dL_law_1218 ?_
  refine tI (y := 4) (by decide) ?_
  refine va_sld hx hb hX hbl hbA hS (vp_in_nI (n := 4) (N := 6) (by decide) (by decide)) dL_law_1219 ?_
  refine tI (y := xs 4) rfl ?_
  refine endi (wr := []) (va_runV (As := [.int (xs 1), .int (xs 2), .int (xs 3), .int (xs 4)]) (rest := [.int (-1)]) ⟨hx, hb, hml, hown, hts⟩ (c_M_odds l D cy z H.size y m1 m14 m15 m16 m17 m18 m19 m20 m21 m22 m23 m24 m26 m28 m31 m32 m35 m37 m40 m41 m44 (xs 1) (xs 2) (xs 3) (xs 4)) (cwV 4 hts (gV tw_1707 tw_1708 tw_1709 tw_15 tw_1710) rfl rfl rfl (by decide +kernel) ⟨Nat.le_of_ble_eq_true rfl, Nat.le_of_ble_eq_true rfl⟩) (preV hP hD hK hSD hS hA [0, 1] rfl (by decide) (q := (RX10, TX10, 49)) (ci := 10) (q0 := 0) rfl rfl) rfl rfl hl.1 rfl (lv_room (Nat.le_of_ble_eq_true rfl)) dL_law_1220 ⟨Nat.le_of_ble_eq_true rfl, Nat.le_of_ble_eq_true rfl⟩) hP hD hS hA [0, 1] [] rfl rfl (by decide) (by decide) (fun r_4 u_3 H locs hw_4 hP hD hS => ?_)
  have hP : va_P D classes [] H := hP
  have hD : va_D (fun q : Nat => s.heap.size ≤ q) [] := hD
  have hw_4 : r_4 = -1 := hw_4
  subst hw_4
  refine lv_icmp_eq (tgt := 1391) hx hb dL_law_1223 (by decide) (fun _ => ?_) (fun c9 => absurd (by decide) c9)
  refine lv_iinc (v := 6) (lv' := [(4, .int 6), (3, .ref o), (2, .ref y), (1, .ref x), (0, .ref b)]) hx hb dL_law_1391 hl (k := 0) rfl (by decide) (by decide) rfl (fun ls hl => ?_)
  refine lv_goto (tgt := 23) hx hb dL_law_1394 (by decide) ?_
  refine lv_iload hx hb dL_law_23 (lv_at hl 0 rfl) ?_
  refine lv_aload_n hx hb dL_law_25 rfl (lv_at hl 4 rfl) ?_
  refine va_slen hx hb hX hbl hbA hS dL_law_26 ?_
  refine tI (y := 6) rfl ?_
  refine lv_bipush (v := 6) hx hb dL_law_27 (by decide) ?_
  refine lv_isub hx hb dL_law_29 ?_
  refine tI (y := 0) (by decide) ?_
  refine lv_icmp_gt (tgt := 1397) hx hb dL_law_30 (by decide) (fun _ => ?_) (fun c9 => absurd (by decide) c9)
  refine lv_iconst (v := 1) hx hb dL_law_1397 (by decide) ?_
  refine va_forget (fun q hq => hS.2.2 q hq) ?_
  refine W.widen (k := 600002) (n := 7302232) (Nat.le_of_ble_eq_true rfl) (Nat.le_of_ble_eq_true rfl) ?_
  exact lw_ret hx hb hr hlocks dL_law_1398
set_option maxHeartbeats 4000000 in
set_option maxRecDepth 100000 in
theorem op34 {p : Program} {e : Env} {s : State} {m : MethodId} {below : List Frame} {meth : Method} {c : Code} (l : Launch) {b : Nat} {xs : Nat → Int32} (hx : p.tables.exec = Jvm.exec) (hb : c.code = code) (hr : meth.sig.returnType = ret) (hlocks : meth.locks = false) (hml : c.maxLocals = 7) (hown : s.vm.findClass RL = some m.cls) (hts : ∀ w ∈ gT, w.before #[Value.ref b] s = true) (hX : va_X b 6 xs s s.heap) (hbl : b < s.heap.size) (D : va_G) (cy : Nat → ClassId) (z : Nat → Nat) (hK : va_K D classes (TY cy) s) (hSD : SD z (fun q : Nat => s.heap.size ≤ q) s) (x : Nat) (kq1 : Nat) (kq4 : Nat) (kq5 : Nat) (kq7 : Nat) (kq10 : Nat) (kq11 : Nat) (kq12 : Nat) (kq13 : Nat) (kg17 : Nat → Int32) (kq18 : Nat) (kq23 : Nat) (kq24 : Nat) (kq28 : Nat) (kq31 : Nat) (kq32 : Nat) (kq33 : Nat) (kq34 : Nat) (kq35 : Nat) (kq36 : Nat) (kq39 : Nat) (kq40 : Nat) (kq41 : Nat) (kq42 : Nat) (kq43 : Nat) (kq44 : Nat) (kq45 : Nat) (kq46 : Nat) (kq47 : Nat) (kq48 : Nat) (kq49 : Nat) (kq52 : Nat) (kq53 : Nat) (kq54 : Nat) (kq55 : Nat) (kq56 : Nat) (kq57 : Nat) (kq58 : Nat) (kq59 : Nat) (kq60 : Nat) (kq61 : Nat) (kq62 : Nat) (kq65 : Nat) (kq66 : Nat) (kq67 : Nat) (kq68 : Nat) (kq69 : Nat) (kq70 : Nat) (kq71 : Nat) (kq72 : Nat) (kq73 : Nat) (kq74 : Nat) (kq75 : Nat) (kq76 : Nat) (kg77 : Nat → Option Nat) (kq78 : Nat) (y : Nat) (m1 : Nat) (m14 : Nat) (m15 : Nat) (m16 : Nat) (m17 : Nat) (m18 : Nat) (m19 : Nat) (m20 : Nat) (m21 : Nat) (m22 : Nat) (m23 : Nat) (m24 : Nat) (m26 : Nat) (m28 : Nat) (m31 : Nat) (m32 : Nat) (m35 : Nat) (m37 : Nat) (m40 : Nat) (m41 : Nat) (m44 : Nat) (o : Nat) (hgh : kg77 0 = some kq66) (hgb : ∀ j, j < 4 → kg17 j = -1) {H : Heap} {locs : List Loc} (hP : va_P D classes [(x, .inr (9, [.ref kq1, .ref kq36, .ref kq49, .ref kq62, .ref kq78, .null, .ref kq7, .ref kq13, .ref kq18, .ref kq23, .ref kq24, .int 0, .int (-1), .int (-1), .int (-1)])), (kq1, .inr (7, [.ref kq4, .ref kq5, .int 0, .int 0, .int 0, .int 0, .int 0, .int 0, .long 0, .int 0, .int 0, .int 0])), (kq7, .inr (0, [.ref kq10, .ref kq11, .ref kq12, .int 0, .int 0])), (kq13, .inl (cy 1, 4, .inl kg17)), (kq28, .inr (3, [.ref kq31, .ref kq32, .ref kq33, .ref kq34, .ref kq35, .int 0, .int 5, .int 0, .int 0])), (kq32, .inl (cy 1, 4, .inl (fun _ => 0))), (kq36, .inr (8, [.ref kq28, .int 0, .ref kq39, .ref kq40, .ref kq41, .ref kq42, .ref kq43, .ref kq44, .ref kq45, .ref kq46, .ref kq47, .ref kq48, .int 0])), (kq39, .inl (cy 1, 36, .inl (fun _ => 0))), (kq40, .inl (cy 1, 6, .inl (fun _ => 0))), (kq41, .inl (cy 1, 6, .inl (fun _ => 0))), (kq42, .inl (cy 1, 6, .inl (fun _ => 0))), (kq43, .inl (cy 1, 6, .inl (fun _ => 0))), (kq44, .inl (cy 1, 8, .inl (fun _ => 0))), (kq46, .inl (cy 1, 8, .inl (fun _ => 0))), (kq47, .inl (cy 1, 8, .inl (fun _ => 0))), (kq45, .inl (cy 1, 8, .inl (fun _ => (-1)))), (kq49, .inr (8, [.ref kq28, .int 0, .ref kq52, .ref kq53, .ref kq54, .ref kq55, .ref kq56, .ref kq57, .ref kq58, .ref kq59, .ref kq60, .ref kq61, .int 0])), (kq52, .inl (cy 1, 36, .inl (fun _ => 0))), (kq53, .inl (cy 1, 6, .inl (fun _ => 0))), (kq54, .inl (cy 1, 6, .inl (fun _ => 0))), (kq55, .inl (cy 1, 6, .inl (fun _ => 0))), (kq56, .inl (cy 1, 6, .inl (fun _ => 0))), (kq57, .inl (cy 1, 8, .inl (fun _ => 0))), (kq59, .inl (cy 1, 8, .inl (fun _ => 0))), (kq60, .inl (cy 1, 8, .inl (fun _ => 0))), (kq58, .inl (cy 1, 8, .inl (fun _ => (-1)))), (kq62, .inr (1, [.ref kq65, .int 0, .int 0])), (kq65, .inl (cy 4, 9, .inr (.inr (.inr (.inr kg77))))), (kq66, .inr (8, [.ref kq28, .int 0, .ref kq67, .ref kq68, .ref kq69, .ref kq70, .ref kq71, .ref kq72, .ref kq73, .ref kq74, .ref kq75, .ref kq76, .int 0])), (kq67, .inl (cy 1, 36, .inl (fun _ => 0))), (kq68, .inl (cy 1, 6, .inl (fun _ => 0))), (kq69, .inl (cy 1, 6, .inl (fun _ => 0))), (kq70, .inl (cy 1, 6, .inl (fun _ => 0))), (kq71, .inl (cy 1, 6, .inl (fun _ => 0))), (kq72, .inl (cy 1, 8, .inl (fun _ => 0))), (kq74, .inl (cy 1, 8, .inl (fun _ => 0))), (kq75, .inl (cy 1, 8, .inl (fun _ => 0))), (kq73, .inl (cy 1, 8, .inl (fun _ => (-1)))), (y, .inr (10, [.int 0, .ref m1, .int 0, .int 0, .int 0, .int 0, .int 0, .int 0, .int 0, .int 0, .int 0, .int 0, .long 0, .int 0, .ref m14, .ref m15, .ref m16, .ref m17, .ref m18, .ref m19, .ref m20, .ref m21, .ref m22, .ref m23, .ref m24, .int 0, .ref m26, .int (-1), .ref m28, .int (-1), .int (-1), .ref m31, .ref m32, .int 0, .int 0, .ref m35, .int 0, .ref m37, .int 0, .int 0, .ref m40, .ref m41, .int 0, .int 0, .ref m44, .int 0, .int 0, .int 0, .int 0])), (m14, .inl (cy 1, 414, .inl NW)), (m18, .inl (cy 1, 88, .inl (fun _ => 0))), (m41, .inl (cy 1, 4, .inl (fun _ => 0)))] H) (hD : va_D (fun q : Nat => s.heap.size ≤ q) [(x, .inr (9, [.ref kq1, .ref kq36, .ref kq49, .ref kq62, .ref kq78, .null, .ref kq7, .ref kq13, .ref kq18, .ref kq23, .ref kq24, .int 0, .int (-1), .int (-1), .int (-1)])), (kq1, .inr (7, [.ref kq4, .ref kq5, .int 0, .int 0, .int 0, .int 0, .int 0, .int 0, .long 0, .int 0, .int 0, .int 0])), (kq7, .inr (0, [.ref kq10, .ref kq11, .ref kq12, .int 0, .int 0])), (kq13, .inl (cy 1, 4, .inl kg17)), (kq28, .inr (3, [.ref kq31, .ref kq32, .ref kq33, .ref kq34, .ref kq35, .int 0, .int 5, .int 0, .int 0])), (kq32, .inl (cy 1, 4, .inl (fun _ => 0))), (kq36, .inr (8, [.ref kq28, .int 0, .ref kq39, .ref kq40, .ref kq41, .ref kq42, .ref kq43, .ref kq44, .ref kq45, .ref kq46, .ref kq47, .ref kq48, .int 0])), (kq39, .inl (cy 1, 36, .inl (fun _ => 0))), (kq40, .inl (cy 1, 6, .inl (fun _ => 0))), (kq41, .inl (cy 1, 6, .inl (fun _ => 0))), (kq42, .inl (cy 1, 6, .inl (fun _ => 0))), (kq43, .inl (cy 1, 6, .inl (fun _ => 0))), (kq44, .inl (cy 1, 8, .inl (fun _ => 0))), (kq46, .inl (cy 1, 8, .inl (fun _ => 0))), (kq47, .inl (cy 1, 8, .inl (fun _ => 0))), (kq45, .inl (cy 1, 8, .inl (fun _ => (-1)))), (kq49, .inr (8, [.ref kq28, .int 0, .ref kq52, .ref kq53, .ref kq54, .ref kq55, .ref kq56, .ref kq57, .ref kq58, .ref kq59, .ref kq60, .ref kq61, .int 0])), (kq52, .inl (cy 1, 36, .inl (fun _ => 0))), (kq53, .inl (cy 1, 6, .inl (fun _ => 0))), (kq54, .inl (cy 1, 6, .inl (fun _ => 0))), (kq55, .inl (cy 1, 6, .inl (fun _ => 0))), (kq56, .inl (cy 1, 6, .inl (fun _ => 0))), (kq57, .inl (cy 1, 8, .inl (fun _ => 0))), (kq59, .inl (cy 1, 8, .inl (fun _ => 0))), (kq60, .inl (cy 1, 8, .inl (fun _ => 0))), (kq58, .inl (cy 1, 8, .inl (fun _ => (-1)))), (kq62, .inr (1, [.ref kq65, .int 0, .int 0])), (kq65, .inl (cy 4, 9, .inr (.inr (.inr (.inr kg77))))), (kq66, .inr (8, [.ref kq28, .int 0, .ref kq67, .ref kq68, .ref kq69, .ref kq70, .ref kq71, .ref kq72, .ref kq73, .ref kq74, .ref kq75, .ref kq76, .int 0])), (kq67, .inl (cy 1, 36, .inl (fun _ => 0))), (kq68, .inl (cy 1, 6, .inl (fun _ => 0))), (kq69, .inl (cy 1, 6, .inl (fun _ => 0))), (kq70, .inl (cy 1, 6, .inl (fun _ => 0))), (kq71, .inl (cy 1, 6, .inl (fun _ => 0))), (kq72, .inl (cy 1, 8, .inl (fun _ => 0))), (kq74, .inl (cy 1, 8, .inl (fun _ => 0))), (kq75, .inl (cy 1, 8, .inl (fun _ => 0))), (kq73, .inl (cy 1, 8, .inl (fun _ => (-1)))), (y, .inr (10, [.int 0, .ref m1, .int 0, .int 0, .int 0, .int 0, .int 0, .int 0, .int 0, .int 0, .int 0, .int 0, .long 0, .int 0, .ref m14, .ref m15, .ref m16, .ref m17, .ref m18, .ref m19, .ref m20, .ref m21, .ref m22, .ref m23, .ref m24, .int 0, .ref m26, .int (-1), .ref m28, .int (-1), .int (-1), .ref m31, .ref m32, .int 0, .int 0, .ref m35, .int 0, .ref m37, .int 0, .int 0, .ref m40, .ref m41, .int 0, .int 0, .ref m44, .int 0, .int 0, .int 0, .int 0])), (m14, .inl (cy 1, 414, .inl NW)), (m18, .inl (cy 1, 88, .inl (fun _ => 0))), (m41, .inl (cy 1, 4, .inl (fun _ => 0)))]) (hS : va_S (fun q : Nat => s.heap.size ≤ q) s.heap H locs) {ls : Array Slot} (hl : lv_has ls 7 [(4, .int 0), (3, .ref o), (2, .ref y), (1, .ref x), (0, .ref b)]) : W p l e room_1 s m #[Value.ref b] below meth c H locs 192 6460 (lw_Z below #[Value.ref b] s) (F0 m 1228 ls []) := by
  have hA : ∀ q : Nat, s.heap.size ≤ q → (fun q : Nat => s.heap.size ≤ q) q := fun _ h => h
  have hbA : ¬ (fun q : Nat => s.heap.size ≤ q) b := Nat.not_le.mpr hbl
  refine lv_aload_n hx hb dL_law_1228 rfl (lv_at hl 3 rfl) ?_
  refine lv_aload_n hx hb dL_law_1229 rfl (lv_at hl 4 rfl) ?_
  refine lv_iload hx hb dL_law_1230 (lv_at hl 0 rfl) ?_
  refine lv_iconst (v := 1) hx hb dL_law_1232 (by decide) ?_
  refine lv_iadd hx hb dL_law_1233 ?_
  refine tI (y := 1) (by decide) ?_
  refine va_sld hx hb hX hbl hbA hS (vp_in_nI (n := 1) (N := 6) (by decide) (by decide)) dL_law_1234 ?_
  refine tI (y := xs 1) rfl ?_
  refine endi (wr := [(y, .inr (10, [.int 0, .ref m1, .int 0, .int 0, .int 0, .int 0, .int 0, .int 0, .int 0, .int 0, .int 0, .int 0, .long 0, .int 0, .ref m14, .ref m15, .ref m16, .ref m17, .ref m18, .ref m19, .ref m20, .ref m21, .ref m22, .ref m23, .ref m24, .int 0, .ref m26, .int (-1), .ref m28, .int (-1), .int (-1), .ref m31, .ref m32, .int 0, .int 0, .ref m35, .int 0, .ref m37, .int 0, .int 0, .ref m40, .ref m41, .int 0, .int 0, .ref m44, .int 0, .int 0, .int 0, .int 0])), (m14, .inl (cy 1, 414, .inl NW)), (m18, .inl (cy 1, 88, .inl (fun _ => 0))), (m41, .inl (cy 1, 4, .inl (fun _ => 0)))]) (va_runV (As := [.int (xs 1)]) (rest := []) ⟨hx, hb, hml, hown, hts⟩ (c_X_book l D cy z H.size x kq1 kq4 kq5 kq7 kq10 kq11 kq12 kq13 kg17 kq18 kq23 kq24 kq28 kq31 kq32 kq33 kq34 kq35 kq36 kq39 kq40 kq41 kq42 kq43 kq44 kq45 kq46 kq47 kq48 kq49 kq52 kq53 kq54 kq55 kq56 kq57 kq58 kq59 kq60 kq61 kq62 kq65 kq66 kq67 kq68 kq69 kq70 kq71 kq72 kq73 kq74 kq75 kq76 kg77 kq78 (xs 1) hgh hgb) (cwV 1 hts (gV tw_882 tw_883 tw_884 tw_1 tw_885) rfl rfl rfl (by decide +kernel) ⟨Nat.le_of_ble_eq_true rfl, Nat.le_of_ble_eq_true rfl⟩) (preV hP hD hK hSD hS hA [0, 1, 2, 3, 4, 5, 6, 7, 8, 9, 10, 11, 12, 13, 14, 15, 16, 17, 18, 19, 20, 21, 22, 23, 24, 25, 26, 27, 28, 29, 30, 31, 32, 33, 34, 35, 36, 37] rfl (by decide) (q := (RX9, TX9, 15)) (ci := 9) (q0 := 0) rfl rfl) rfl rfl hl.1 rfl (lv_room (Nat.le_of_ble_eq_true rfl)) dL_law_1235 ⟨Nat.le_of_ble_eq_true rfl, Nat.le_of_ble_eq_true rfl⟩) hP hD hS hA [0, 1, 2, 3, 4, 5, 6, 7, 8, 9, 10, 11, 12, 13, 14, 15, 16, 17, 18, 19, 20, 21, 22, 23, 24, 25, 26, 27, 28, 29, 30, 31, 32, 33, 34, 35, 36, 37] [38, 39, 40, 41] rfl rfl (by decide) (by decide) (fun r_2 u_1 H locs hw_2 hP hD hS => ?_)
  have hP : va_P D classes [(y, .inr (10, [.int 0, .ref m1, .int 0, .int 0, .int 0, .int 0, .int 0, .int 0, .int 0, .int 0, .int 0, .int 0, .long 0, .int 0, .ref m14, .ref m15, .ref m16, .ref m17, .ref m18, .ref m19, .ref m20, .ref m21, .ref m22, .ref m23, .ref m24, .int 0, .ref m26, .int (-1), .ref m28, .int (-1), .int (-1), .ref m31, .ref m32, .int 0, .int 0, .ref m35, .int 0, .ref m37, .int 0, .int 0, .ref m40, .ref m41, .int 0, .int 0, .ref m44, .int 0, .int 0, .int 0, .int 0])), (m14, .inl (cy 1, 414, .inl NW)), (m18, .inl (cy 1, 88, .inl (fun _ => 0))), (m41, .inl (cy 1, 4, .inl (fun _ => 0)))] H := hP
  have hD : va_D (fun q : Nat => s.heap.size ≤ q) [(y, .inr (10, [.int 0, .ref m1, .int 0, .int 0, .int 0, .int 0, .int 0, .int 0, .int 0, .int 0, .int 0, .int 0, .long 0, .int 0, .ref m14, .ref m15, .ref m16, .ref m17, .ref m18, .ref m19, .ref m20, .ref m21, .ref m22, .ref m23, .ref m24, .int 0, .ref m26, .int (-1), .ref m28, .int (-1), .int (-1), .ref m31, .ref m32, .int 0, .int 0, .ref m35, .int 0, .ref m37, .int 0, .int 0, .ref m40, .ref m41, .int 0, .int 0, .ref m44, .int 0, .int 0, .int 0, .int 0])), (m14, .inl (cy 1, 414, .inl NW)), (m18, .inl (cy 1, 88, .inl (fun _ => 0))), (m41, .inl (cy 1, 4, .inl (fun _ => 0)))] := hD
  have hw_2 : r_2 = if (xs 1) = 0 ∨ (xs 1) = 1 then -1 else -1000 := hw_2
  subst hw_2
  refine lv_aload_n hx hb dL_law_1238 rfl (lv_at hl 2 rfl) ?_
  refine lv_aload_n hx hb dL_law_1239 rfl (lv_at hl 4 rfl) ?_
  refine lv_iload hx hb dL_law_1240 (lv_at hl 0 rfl) ?_
  refine lv_iconst (v := 1) hx hb dL_law_1242 (by decide) ?_
  refine lv_iadd hx hb dL_law_1243 ?_
  refine tI (y := 1) (by decide) ?_
  refine va_sld hx hb hX hbl hbA hS (vp_in_nI (n := 1) (N := 6) (by decide) (by decide)) dL_law_1244 ?_
  refine tI (y := xs 1) rfl ?_
  refine endi (wr := []) (va_runV (As := [.int (xs 1)]) (rest := [.int (if (xs 1) = 0 ∨ (xs 1) = 1 then -1 else -1000)]) ⟨hx, hb, hml, hown, hts⟩ (c_M_book l D cy z H.size y m1 m14 m15 m16 m17 m18 m19 m20 m21 m22 m23 m24 m26 m28 m31 m32 m35 m37 m40 m41 m44 (xs 1)) (cwV 1 hts (gV tw_1711 tw_1712 tw_1713 tw_15 tw_1714) rfl rfl rfl (by decide +kernel) ⟨Nat.le_of_ble_eq_true rfl, Nat.le_of_ble_eq_true rfl⟩) (preV hP hD hK hSD hS hA [0, 1, 2, 3] rfl (by decide) (q := (RX10, TX10, 49)) (ci := 10) (q0 := 0) rfl rfl) rfl rfl hl.1 rfl (lv_room (Nat.le_of_ble_eq_true rfl)) dL_law_1245 ⟨Nat.le_of_ble_eq_true rfl, Nat.le_of_ble_eq_true rfl⟩) hP hD hS hA [0, 1, 2, 3] [] rfl rfl (by decide) (by decide) (fun r_4 u_3 H locs hw_4 hP hD hS => ?_)
  have hP : va_P D classes [] H := hP
  have hD : va_D (fun q : Nat => s.heap.size ≤ q) [] := hD
  have hw_4 : r_4 = if (xs 1) = 0 ∨ (xs 1) = 1 then -1 else -1000 := hw_4
  subst hw_4
  refine lv_icmp_eq (tgt := 1391) hx hb dL_law_1248 (by decide) (fun _ => ?_) (fun c9 => absurd rfl c9)
  refine lv_iinc (v := 6) (lv' := [(4, .int 6), (3, .ref o), (2, .ref y), (1, .ref x), (0, .ref b)]) hx hb dL_law_1391 hl (k := 0) rfl (by decide) (by decide) rfl (fun ls hl => ?_)
  refine lv_goto (tgt := 23) hx hb dL_law_1394 (by decide) ?_
  refine lv_iload hx hb dL_law_23 (lv_at hl 0 rfl) ?_
  refine lv_aload_n hx hb dL_law_25 rfl (lv_at hl 4 rfl) ?_
  refine va_slen hx hb hX hbl hbA hS dL_law_26 ?_
  refine tI (y := 6) rfl ?_
  refine lv_bipush (v := 6) hx hb dL_law_27 (by decide) ?_
  refine lv_isub hx hb dL_law_29 ?_
  refine tI (y := 0) (by decide) ?_
  refine lv_icmp_gt (tgt := 1397) hx hb dL_law_30 (by decide) (fun _ => ?_) (fun c9 => absurd (by decide) c9)
  refine lv_iconst (v := 1) hx hb dL_law_1397 (by decide) ?_
  refine va_forget (fun q hq => hS.2.2 q hq) ?_
  refine W.widen (k := 600002) (n := 7302232) (Nat.le_of_ble_eq_true rfl) (Nat.le_of_ble_eq_true rfl) ?_
  exact lw_ret hx hb hr hlocks dL_law_1398
set_option maxHeartbeats 4000000 in
set_option maxRecDepth 100000 in
theorem op35 {p : Program} {e : Env} {s : State} {m : MethodId} {below : List Frame} {meth : Method} {c : Code} (l : Launch) {b : Nat} {xs : Nat → Int32} (hx : p.tables.exec = Jvm.exec) (hb : c.code = code) (hr : meth.sig.returnType = ret) (hlocks : meth.locks = false) (hml : c.maxLocals = 7) (hown : s.vm.findClass RL = some m.cls) (hts : ∀ w ∈ gT, w.before #[Value.ref b] s = true) (hX : va_X b 6 xs s s.heap) (hbl : b < s.heap.size) (D : va_G) (cy : Nat → ClassId) (z : Nat → Nat) (hK : va_K D classes (TY cy) s) (hSD : SD z (fun q : Nat => s.heap.size ≤ q) s) (x : Nat) (kq1 : Nat) (kq7 : Nat) (kq13 : Nat) (kg17 : Nat → Int32) (kq18 : Nat) (kq23 : Nat) (kq24 : Nat) (kq36 : Nat) (kq49 : Nat) (kq62 : Nat) (kq78 : Nat) (y : Nat) (m1 : Nat) (m14 : Nat) (m15 : Nat) (m16 : Nat) (m17 : Nat) (m18 : Nat) (m19 : Nat) (m20 : Nat) (m21 : Nat) (m22 : Nat) (m23 : Nat) (m24 : Nat) (m26 : Nat) (m28 : Nat) (m31 : Nat) (m32 : Nat) (m35 : Nat) (m37 : Nat) (m40 : Nat) (m41 : Nat) (m44 : Nat) (o : Nat) (hgb : ∀ j, j < 4 → kg17 j = -1) {H : Heap} {locs : List Loc} (hP : va_P D classes [(x, .inr (9, [.ref kq1, .ref kq36, .ref kq49, .ref kq62, .ref kq78, .null, .ref kq7, .ref kq13, .ref kq18, .ref kq23, .ref kq24, .int 0, .int (-1), .int (-1), .int (-1)])), (kq13, .inl (cy 1, 4, .inl kg17)), (y, .inr (10, [.int 0, .ref m1, .int 0, .int 0, .int 0, .int 0, .int 0, .int 0, .int 0, .int 0, .int 0, .int 0, .long 0, .int 0, .ref m14, .ref m15, .ref m16, .ref m17, .ref m18, .ref m19, .ref m20, .ref m21, .ref m22, .ref m23, .ref m24, .int 0, .ref m26, .int (-1), .ref m28, .int (-1), .int (-1), .ref m31, .ref m32, .int 0, .int 0, .ref m35, .int 0, .ref m37, .int 0, .int 0, .ref m40, .ref m41, .int 0, .int 0, .ref m44, .int 0, .int 0, .int 0, .int 0]))] H) (hD : va_D (fun q : Nat => s.heap.size ≤ q) [(x, .inr (9, [.ref kq1, .ref kq36, .ref kq49, .ref kq62, .ref kq78, .null, .ref kq7, .ref kq13, .ref kq18, .ref kq23, .ref kq24, .int 0, .int (-1), .int (-1), .int (-1)])), (kq13, .inl (cy 1, 4, .inl kg17)), (y, .inr (10, [.int 0, .ref m1, .int 0, .int 0, .int 0, .int 0, .int 0, .int 0, .int 0, .int 0, .int 0, .int 0, .long 0, .int 0, .ref m14, .ref m15, .ref m16, .ref m17, .ref m18, .ref m19, .ref m20, .ref m21, .ref m22, .ref m23, .ref m24, .int 0, .ref m26, .int (-1), .ref m28, .int (-1), .int (-1), .ref m31, .ref m32, .int 0, .int 0, .ref m35, .int 0, .ref m37, .int 0, .int 0, .ref m40, .ref m41, .int 0, .int 0, .ref m44, .int 0, .int 0, .int 0, .int 0]))]) (hS : va_S (fun q : Nat => s.heap.size ≤ q) s.heap H locs) {ls : Array Slot} (hl : lv_has ls 7 [(4, .int 0), (3, .ref o), (2, .ref y), (1, .ref x), (0, .ref b)]) : W p l e room_1 s m #[Value.ref b] below meth c H locs 192 6460 (lw_Z below #[Value.ref b] s) (F0 m 1253 ls []) := by
  have hA : ∀ q : Nat, s.heap.size ≤ q → (fun q : Nat => s.heap.size ≤ q) q := fun _ h => h
  have hbA : ¬ (fun q : Nat => s.heap.size ≤ q) b := Nat.not_le.mpr hbl
  refine lv_aload_n hx hb dL_law_1253 rfl (lv_at hl 3 rfl) ?_
  refine lv_aload_n hx hb dL_law_1254 rfl (lv_at hl 4 rfl) ?_
  refine lv_iload hx hb dL_law_1255 (lv_at hl 0 rfl) ?_
  refine lv_iconst (v := 1) hx hb dL_law_1257 (by decide) ?_
  refine lv_iadd hx hb dL_law_1258 ?_
  refine tI (y := 1) (by decide) ?_
  refine va_sld hx hb hX hbl hbA hS (vp_in_nI (n := 1) (N := 6) (by decide) (by decide)) dL_law_1259 ?_
  refine tI (y := xs 1) rfl ?_
  refine endi (wr := [(y, .inr (10, [.int 0, .ref m1, .int 0, .int 0, .int 0, .int 0, .int 0, .int 0, .int 0, .int 0, .int 0, .int 0, .long 0, .int 0, .ref m14, .ref m15, .ref m16, .ref m17, .ref m18, .ref m19, .ref m20, .ref m21, .ref m22, .ref m23, .ref m24, .int 0, .ref m26, .int (-1), .ref m28, .int (-1), .int (-1), .ref m31, .ref m32, .int 0, .int 0, .ref m35, .int 0, .ref m37, .int 0, .int 0, .ref m40, .ref m41, .int 0, .int 0, .ref m44, .int 0, .int 0, .int 0, .int 0]))]) (va_runV (As := [.int (xs 1)]) (rest := []) ⟨hx, hb, hml, hown, hts⟩ (c_X_told l D cy z H.size x kq1 kq7 kq13 kg17 kq18 kq23 kq24 kq36 kq49 kq62 kq78 (xs 1) hgb) (cwV 1 hts (gV tw_937 tw_938 tw_939 tw_1 tw_940) rfl rfl rfl (by decide +kernel) ⟨Nat.le_of_ble_eq_true rfl, Nat.le_of_ble_eq_true rfl⟩) (preV hP hD hK hSD hS hA [0, 1] rfl (by decide) (q := (RX9, TX9, 15)) (ci := 9) (q0 := 0) rfl rfl) rfl rfl hl.1 rfl (lv_room (Nat.le_of_ble_eq_true rfl)) dL_law_1260 ⟨Nat.le_of_ble_eq_true rfl, Nat.le_of_ble_eq_true rfl⟩) hP hD hS hA [0, 1] [2] rfl rfl (by decide) (by decide) (fun r_2 u_1 H locs hw_2 hP hD hS => ?_)
  have hP : va_P D classes [(y, .inr (10, [.int 0, .ref m1, .int 0, .int 0, .int 0, .int 0, .int 0, .int 0, .int 0, .int 0, .int 0, .int 0, .long 0, .int 0, .ref m14, .ref m15, .ref m16, .ref m17, .ref m18, .ref m19, .ref m20, .ref m21, .ref m22, .ref m23, .ref m24, .int 0, .ref m26, .int (-1), .ref m28, .int (-1), .int (-1), .ref m31, .ref m32, .int 0, .int 0, .ref m35, .int 0, .ref m37, .int 0, .int 0, .ref m40, .ref m41, .int 0, .int 0, .ref m44, .int 0, .int 0, .int 0, .int 0]))] H := hP
  have hD : va_D (fun q : Nat => s.heap.size ≤ q) [(y, .inr (10, [.int 0, .ref m1, .int 0, .int 0, .int 0, .int 0, .int 0, .int 0, .int 0, .int 0, .int 0, .int 0, .long 0, .int 0, .ref m14, .ref m15, .ref m16, .ref m17, .ref m18, .ref m19, .ref m20, .ref m21, .ref m22, .ref m23, .ref m24, .int 0, .ref m26, .int (-1), .ref m28, .int (-1), .int (-1), .ref m31, .ref m32, .int 0, .int 0, .ref m35, .int 0, .ref m37, .int 0, .int 0, .ref m40, .ref m41, .int 0, .int 0, .ref m44, .int 0, .int 0, .int 0, .int 0]))] := hD
  have hw_2 : r_2 = -1 := hw_2
  subst hw_2
  refine lv_aload_n hx hb dL_law_1263 rfl (lv_at hl 2 rfl) ?_
  refine lv_aload_n hx hb dL_law_1264 rfl (lv_at hl 4 rfl) ?_
  refine lv_iload hx hb dL_law_1265 (lv_at hl 0 rfl) ?_
  refine lv_iconst (v := 1) hx hb dL_law_1267 (by decide) ?_
  refine lv_iadd hx hb dL_law_1268 ?_
  refine tI (y := 1) (by decide) ?_
  refine va_sld hx hb hX hbl hbA hS (vp_in_nI (n := 1) (N := 6) (by decide) (by decide)) dL_law_1269 ?_
  refine tI (y := xs 1) rfl ?_
  refine endi (wr := []) (va_runV (As := [.int (xs 1)]) (rest := [.int (-1)]) ⟨hx, hb, hml, hown, hts⟩ (c_M_told l D cy z H.size y m1 m14 m15 m16 m17 m18 m19 m20 m21 m22 m23 m24 m26 m28 m31 m32 m35 m37 m40 m41 m44 (xs 1)) (cwV 1 hts (gV tw_1747 tw_1748 tw_1749 tw_15 tw_1750) rfl rfl rfl (by decide +kernel) ⟨Nat.le_of_ble_eq_true rfl, Nat.le_of_ble_eq_true rfl⟩) (preV hP hD hK hSD hS hA [0] rfl (by decide) (q := (RX10, TX10, 49)) (ci := 10) (q0 := 0) rfl rfl) rfl rfl hl.1 rfl (lv_room (Nat.le_of_ble_eq_true rfl)) dL_law_1270 ⟨Nat.le_of_ble_eq_true rfl, Nat.le_of_ble_eq_true rfl⟩) hP hD hS hA [0] [] rfl rfl (by decide) (by decide) (fun r_4 u_3 H locs hw_4 hP hD hS => ?_)
  have hP : va_P D classes [] H := hP
  have hD : va_D (fun q : Nat => s.heap.size ≤ q) [] := hD
  have hw_4 : r_4 = -1 := hw_4
  subst hw_4
  refine lv_icmp_eq (tgt := 1391) hx hb dL_law_1273 (by decide) (fun _ => ?_) (fun c9 => absurd (by decide) c9)
  refine lv_iinc (v := 6) (lv' := [(4, .int 6), (3, .ref o), (2, .ref y), (1, .ref x), (0, .ref b)]) hx hb dL_law_1391 hl (k := 0) rfl (by decide) (by decide) rfl (fun ls hl => ?_)
  refine lv_goto (tgt := 23) hx hb dL_law_1394 (by decide) ?_
  refine lv_iload hx hb dL_law_23 (lv_at hl 0 rfl) ?_
  refine lv_aload_n hx hb dL_law_25 rfl (lv_at hl 4 rfl) ?_
  refine va_slen hx hb hX hbl hbA hS dL_law_26 ?_
  refine tI (y := 6) rfl ?_
  refine lv_bipush (v := 6) hx hb dL_law_27 (by decide) ?_
  refine lv_isub hx hb dL_law_29 ?_
  refine tI (y := 0) (by decide) ?_
  refine lv_icmp_gt (tgt := 1397) hx hb dL_law_30 (by decide) (fun _ => ?_) (fun c9 => absurd (by decide) c9)
  refine lv_iconst (v := 1) hx hb dL_law_1397 (by decide) ?_
  refine va_forget (fun q hq => hS.2.2 q hq) ?_
  refine W.widen (k := 600002) (n := 7302232) (Nat.le_of_ble_eq_true rfl) (Nat.le_of_ble_eq_true rfl) ?_
  exact lw_ret hx hb hr hlocks dL_law_1398
set_option maxHeartbeats 4000000 in
set_option maxRecDepth 100000 in
theorem op36 {p : Program} {e : Env} {s : State} {m : MethodId} {below : List Frame} {meth : Method} {c : Code} (l : Launch) {b : Nat} {xs : Nat → Int32} (hx : p.tables.exec = Jvm.exec) (hb : c.code = code) (hr : meth.sig.returnType = ret) (hlocks : meth.locks = false) (hml : c.maxLocals = 7) (hown : s.vm.findClass RL = some m.cls) (hts : ∀ w ∈ gT, w.before #[Value.ref b] s = true) (hX : va_X b 6 xs s s.heap) (hbl : b < s.heap.size) (D : va_G) (cy : Nat → ClassId) (z : Nat → Nat) (hK : va_K D classes (TY cy) s) (hSD : SD z (fun q : Nat => s.heap.size ≤ q) s) (x : Nat) (kq1 : Nat) (kq4 : Nat) (kq5 : Nat) (kq7 : Nat) (kq13 : Nat) (kq18 : Nat) (kq23 : Nat) (kq24 : Nat) (kq28 : Nat) (kq36 : Nat) (kq39 : Nat) (kq40 : Nat) (kq41 : Nat) (kq42 : Nat) (kq43 : Nat) (kq44 : Nat) (kq45 : Nat) (kq46 : Nat) (kq47 : Nat) (kq48 : Nat) (kq49 : Nat) (kq62 : Nat) (kq78 : Nat) (y : Nat) (m1 : Nat) (m14 : Nat) (m15 : Nat) (m16 : Nat) (m17 : Nat) (m18 : Nat) (m19 : Nat) (m20 : Nat) (m21 : Nat) (m22 : Nat) (m23 : Nat) (m24 : Nat) (m26 : Nat) (m28 : Nat) (m31 : Nat) (m32 : Nat) (m35 : Nat) (m37 : Nat) (m40 : Nat) (m41 : Nat) (m44 : Nat) (o : Nat) {H : Heap} {locs : List Loc} (hP : va_P D classes [(x, .inr (9, [.ref kq1, .ref kq36, .ref kq49, .ref kq62, .ref kq78, .null, .ref kq7, .ref kq13, .ref kq18, .ref kq23, .ref kq24, .int 0, .int (-1), .int (-1), .int (-1)])), (kq1, .inr (7, [.ref kq4, .ref kq5, .int 0, .int 0, .int 0, .int 0, .int 0, .int 0, .long 0, .int 0, .int 0, .int 0])), (kq36, .inr (8, [.ref kq28, .int 0, .ref kq39, .ref kq40, .ref kq41, .ref kq42, .ref kq43, .ref kq44, .ref kq45, .ref kq46, .ref kq47, .ref kq48, .int 0])), (y, .inr (10, [.int 0, .ref m1, .int 0, .int 0, .int 0, .int 0, .int 0, .int 0, .int 0, .int 0, .int 0, .int 0, .long 0, .int 0, .ref m14, .ref m15, .ref m16, .ref m17, .ref m18, .ref m19, .ref m20, .ref m21, .ref m22, .ref m23, .ref m24, .int 0, .ref m26, .int (-1), .ref m28, .int (-1), .int (-1), .ref m31, .ref m32, .int 0, .int 0, .ref m35, .int 0, .ref m37, .int 0, .int 0, .ref m40, .ref m41, .int 0, .int 0, .ref m44, .int 0, .int 0, .int 0, .int 0]))] H) (hD : va_D (fun q : Nat => s.heap.size ≤ q) [(x, .inr (9, [.ref kq1, .ref kq36, .ref kq49, .ref kq62, .ref kq78, .null, .ref kq7, .ref kq13, .ref kq18, .ref kq23, .ref kq24, .int 0, .int (-1), .int (-1), .int (-1)])), (kq1, .inr (7, [.ref kq4, .ref kq5, .int 0, .int 0, .int 0, .int 0, .int 0, .int 0, .long 0, .int 0, .int 0, .int 0])), (kq36, .inr (8, [.ref kq28, .int 0, .ref kq39, .ref kq40, .ref kq41, .ref kq42, .ref kq43, .ref kq44, .ref kq45, .ref kq46, .ref kq47, .ref kq48, .int 0])), (y, .inr (10, [.int 0, .ref m1, .int 0, .int 0, .int 0, .int 0, .int 0, .int 0, .int 0, .int 0, .int 0, .int 0, .long 0, .int 0, .ref m14, .ref m15, .ref m16, .ref m17, .ref m18, .ref m19, .ref m20, .ref m21, .ref m22, .ref m23, .ref m24, .int 0, .ref m26, .int (-1), .ref m28, .int (-1), .int (-1), .ref m31, .ref m32, .int 0, .int 0, .ref m35, .int 0, .ref m37, .int 0, .int 0, .ref m40, .ref m41, .int 0, .int 0, .ref m44, .int 0, .int 0, .int 0, .int 0]))]) (hS : va_S (fun q : Nat => s.heap.size ≤ q) s.heap H locs) {ls : Array Slot} (hl : lv_has ls 7 [(4, .int 0), (3, .ref o), (2, .ref y), (1, .ref x), (0, .ref b)]) : W p l e room_1 s m #[Value.ref b] below meth c H locs 192 6460 (lw_Z below #[Value.ref b] s) (F0 m 1278 ls []) := by
  have hA : ∀ q : Nat, s.heap.size ≤ q → (fun q : Nat => s.heap.size ≤ q) q := fun _ h => h
  have hbA : ¬ (fun q : Nat => s.heap.size ≤ q) b := Nat.not_le.mpr hbl
  refine lv_aload_n hx hb dL_law_1278 rfl (lv_at hl 3 rfl) ?_
  refine endi (wr := [(y, .inr (10, [.int 0, .ref m1, .int 0, .int 0, .int 0, .int 0, .int 0, .int 0, .int 0, .int 0, .int 0, .int 0, .long 0, .int 0, .ref m14, .ref m15, .ref m16, .ref m17, .ref m18, .ref m19, .ref m20, .ref m21, .ref m22, .ref m23, .ref m24, .int 0, .ref m26, .int (-1), .ref m28, .int (-1), .int (-1), .ref m31, .ref m32, .int 0, .int 0, .ref m35, .int 0, .ref m37, .int 0, .int 0, .ref m40, .ref m41, .int 0, .int 0, .ref m44, .int 0, .int 0, .int 0, .int 0]))]) (va_runV (As := []) (rest := []) ⟨hx, hb, hml, hown, hts⟩ (c_X_sentence l D cy z H.size x kq1 kq4 kq5 kq7 kq13 kq18 kq23 kq24 kq28 kq36 kq39 kq40 kq41 kq42 kq43 kq44 kq45 kq46 kq47 kq48 kq49 kq62 kq78) (cwV 0 hts (gV tw_941 tw_942 tw_943 tw_1 tw_944) rfl rfl rfl (by decide +kernel) ⟨Nat.le_of_ble_eq_true rfl, Nat.le_of_ble_eq_true rfl⟩) (preV hP hD hK hSD hS hA [0, 1, 2] rfl (by decide) (q := (RX9, TX9, 15)) (ci := 9) (q0 := 0) rfl rfl) rfl rfl hl.1 rfl (lv_room (Nat.le_of_ble_eq_true rfl)) dL_law_1279 ⟨Nat.le_of_ble_eq_true rfl, Nat.le_of_ble_eq_true rfl⟩) hP hD hS hA [0, 1, 2] [3] rfl rfl (by decide) (by decide) (fun r_2 u_1 H locs hw_2 hP hD hS => ?_)
  have hP : va_P D classes [(y, .inr (10, [.int 0, .ref m1, .int 0, .int 0, .int 0, .int 0, .int 0, .int 0, .int 0, .int 0, .int 0, .int 0, .long 0, .int 0, .ref m14, .ref m15, .ref m16, .ref m17, .ref m18, .ref m19, .ref m20, .ref m21, .ref m22, .ref m23, .ref m24, .int 0, .ref m26, .int (-1), .ref m28, .int (-1), .int (-1), .ref m31, .ref m32, .int 0, .int 0, .ref m35, .int 0, .ref m37, .int 0, .int 0, .ref m40, .ref m41, .int 0, .int 0, .ref m44, .int 0, .int 0, .int 0, .int 0]))] H := hP
  have hD : va_D (fun q : Nat => s.heap.size ≤ q) [(y, .inr (10, [.int 0, .ref m1, .int 0, .int 0, .int 0, .int 0, .int 0, .int 0, .int 0, .int 0, .int 0, .int 0, .long 0, .int 0, .ref m14, .ref m15, .ref m16, .ref m17, .ref m18, .ref m19, .ref m20, .ref m21, .ref m22, .ref m23, .ref m24, .int 0, .ref m26, .int (-1), .ref m28, .int (-1), .int (-1), .ref m31, .ref m32, .int 0, .int 0, .ref m35, .int 0, .ref m37, .int 0, .int 0, .ref m40, .ref m41, .int 0, .int 0, .ref m44, .int 0, .int 0, .int 0, .int 0]))] := hD
  refine W.widen (k := 196) (n := 6585) (Nat.le_of_ble_eq_true rfl) (Nat.le_of_ble_eq_true rfl) ?_
  have hw_2 : r_2 = (-1) := hw_2
  subst hw_2
  refine lv_aload_n hx hb dL_law_1282 rfl (lv_at hl 2 rfl) ?_
  refine endi (wr := []) (va_runV (As := []) (rest := [.int (-1)]) ⟨hx, hb, hml, hown, hts⟩ (c_M_sentence l D cy z H.size y m1 m14 m15 m16 m17 m18 m19 m20 m21 m22 m23 m24 m26 m28 m31 m32 m35 m37 m40 m41 m44) (cwV 0 hts (gV tw_1751 tw_1752 tw_1753 tw_15 tw_1754) rfl rfl rfl (by decide +kernel) ⟨Nat.le_of_ble_eq_true rfl, Nat.le_of_ble_eq_true rfl⟩) (preV hP hD hK hSD hS hA [0] rfl (by decide) (q := (RX10, TX10, 49)) (ci := 10) (q0 := 0) rfl rfl) rfl rfl hl.1 rfl (lv_room (Nat.le_of_ble_eq_true rfl)) dL_law_1283 ⟨Nat.le_of_ble_eq_true rfl, Nat.le_of_ble_eq_true rfl⟩) hP hD hS hA [0] [] rfl rfl (by decide) (by decide) (fun r_4 u_3 H locs hw_4 hP hD hS => ?_)
  have hP : va_P D classes [] H := hP
  have hD : va_D (fun q : Nat => s.heap.size ≤ q) [] := hD
  have hw_4 : r_4 = (-1) := hw_4
  subst hw_4
  refine lv_icmp_eq (tgt := 1391) hx hb dL_law_1286 (by decide) (fun _ => ?_) (fun c9 => absurd (by decide) c9)
  refine lv_iinc (v := 6) (lv' := [(4, .int 6), (3, .ref o), (2, .ref y), (1, .ref x), (0, .ref b)]) hx hb dL_law_1391 hl (k := 0) rfl (by decide) (by decide) rfl (fun ls hl => ?_)
  refine lv_goto (tgt := 23) hx hb dL_law_1394 (by decide) ?_
  refine lv_iload hx hb dL_law_23 (lv_at hl 0 rfl) ?_
  refine lv_aload_n hx hb dL_law_25 rfl (lv_at hl 4 rfl) ?_
  refine va_slen hx hb hX hbl hbA hS dL_law_26 ?_
  refine tI (y := 6) rfl ?_
  refine lv_bipush (v := 6) hx hb dL_law_27 (by decide) ?_
  refine lv_isub hx hb dL_law_29 ?_
  refine tI (y := 0) (by decide) ?_
  refine lv_icmp_gt (tgt := 1397) hx hb dL_law_30 (by decide) (fun _ => ?_) (fun c9 => absurd (by decide) c9)
  refine lv_iconst (v := 1) hx hb dL_law_1397 (by decide) ?_
  refine va_forget (fun q hq => hS.2.2 q hq) ?_
  refine W.widen (k := 600002) (n := 7302232) (Nat.le_of_ble_eq_true rfl) (Nat.le_of_ble_eq_true rfl) ?_
  exact lw_ret hx hb hr hlocks dL_law_1398
set_option maxHeartbeats 4000000 in
set_option maxRecDepth 100000 in
theorem op37 {p : Program} {e : Env} {s : State} {m : MethodId} {below : List Frame} {meth : Method} {c : Code} (l : Launch) {b : Nat} {xs : Nat → Int32} (hx : p.tables.exec = Jvm.exec) (hb : c.code = code) (hr : meth.sig.returnType = ret) (hlocks : meth.locks = false) (hml : c.maxLocals = 7) (hown : s.vm.findClass RL = some m.cls) (hts : ∀ w ∈ gT, w.before #[Value.ref b] s = true) (hX : va_X b 6 xs s s.heap) (hbl : b < s.heap.size) (D : va_G) (cy : Nat → ClassId) (z : Nat → Nat) (hK : va_K D classes (TY cy) s) (hSD : SD z (fun q : Nat => s.heap.size ≤ q) s) (x : Nat) (kq1 : Nat) (kq7 : Nat) (kq13 : Nat) (kq18 : Nat) (kq23 : Nat) (kq24 : Nat) (kq36 : Nat) (kq49 : Nat) (kq62 : Nat) (kq78 : Nat) (y : Nat) (m1 : Nat) (m14 : Nat) (m15 : Nat) (m16 : Nat) (m17 : Nat) (m18 : Nat) (m19 : Nat) (m20 : Nat) (m21 : Nat) (m22 : Nat) (m23 : Nat) (m24 : Nat) (m26 : Nat) (m28 : Nat) (m31 : Nat) (m32 : Nat) (m35 : Nat) (m37 : Nat) (m40 : Nat) (m41 : Nat) (m44 : Nat) (o : Nat) {H : Heap} {locs : List Loc} (hP : va_P D classes [(x, .inr (9, [.ref kq1, .ref kq36, .ref kq49, .ref kq62, .ref kq78, .null, .ref kq7, .ref kq13, .ref kq18, .ref kq23, .ref kq24, .int 0, .int (-1), .int (-1), .int (-1)])), (y, .inr (10, [.int 0, .ref m1, .int 0, .int 0, .int 0, .int 0, .int 0, .int 0, .int 0, .int 0, .int 0, .int 0, .long 0, .int 0, .ref m14, .ref m15, .ref m16, .ref m17, .ref m18, .ref m19, .ref m20, .ref m21, .ref m22, .ref m23, .ref m24, .int 0, .ref m26, .int (-1), .ref m28, .int (-1), .int (-1), .ref m31, .ref m32, .int 0, .int 0, .ref m35, .int 0, .ref m37, .int 0, .int 0, .ref m40, .ref m41, .int 0, .int 0, .ref m44, .int 0, .int 0, .int 0, .int 0])), (m14, .inl (cy 1, 414, .inl NW))] H) (hD : va_D (fun q : Nat => s.heap.size ≤ q) [(x, .inr (9, [.ref kq1, .ref kq36, .ref kq49, .ref kq62, .ref kq78, .null, .ref kq7, .ref kq13, .ref kq18, .ref kq23, .ref kq24, .int 0, .int (-1), .int (-1), .int (-1)])), (y, .inr (10, [.int 0, .ref m1, .int 0, .int 0, .int 0, .int 0, .int 0, .int 0, .int 0, .int 0, .int 0, .int 0, .long 0, .int 0, .ref m14, .ref m15, .ref m16, .ref m17, .ref m18, .ref m19, .ref m20, .ref m21, .ref m22, .ref m23, .ref m24, .int 0, .ref m26, .int (-1), .ref m28, .int (-1), .int (-1), .ref m31, .ref m32, .int 0, .int 0, .ref m35, .int 0, .ref m37, .int 0, .int 0, .ref m40, .ref m41, .int 0, .int 0, .ref m44, .int 0, .int 0, .int 0, .int 0])), (m14, .inl (cy 1, 414, .inl NW))]) (hS : va_S (fun q : Nat => s.heap.size ≤ q) s.heap H locs) {ls : Array Slot} (hl : lv_has ls 7 [(4, .int 0), (3, .ref o), (2, .ref y), (1, .ref x), (0, .ref b)]) : W p l e room_1 s m #[Value.ref b] below meth c H locs 192 6460 (lw_Z below #[Value.ref b] s) (F0 m 1291 ls []) := by
  have hA : ∀ q : Nat, s.heap.size ≤ q → (fun q : Nat => s.heap.size ≤ q) q := fun _ h => h
  have hbA : ¬ (fun q : Nat => s.heap.size ≤ q) b := Nat.not_le.mpr hbl
  refine lv_aload_n hx hb dL_law_1291 rfl (lv_at hl 3 rfl) ?_
  refine lv_aload_n hx hb dL_law_1292 rfl (lv_at hl 4 rfl) ?_
  refine lv_iload hx hb dL_law_1293 (lv_at hl 0 rfl) ?_
  refine lv_iconst (v := 1) hx hb dL_law_1295 (by decide) ?_
  refine lv_iadd hx hb dL_law_1296 ?_
  refine tI (y := 1) (by decide) ?_
  refine va_sld hx hb hX hbl hbA hS (vp_in_nI (n := 1) (N := 6) (by decide) (by decide)) dL_law_1297 ?_
  refine tI (y := xs 1) rfl ?_
  refine endi (wr := [(y, .inr (10, [.int 0, .ref m1, .int 0, .int 0, .int 0, .int 0, .int 0, .int 0, .int 0, .int 0, .int 0, .int 0, .long 0, .int 0, .ref m14, .ref m15, .ref m16, .ref m17, .ref m18, .ref m19, .ref m20, .ref m21, .ref m22, .ref m23, .ref m24, .int 0, .ref m26, .int (-1), .ref m28, .int (-1), .int (-1), .ref m31, .ref m32, .int 0, .int 0, .ref m35, .int 0, .ref m37, .int 0, .int 0, .ref m40, .ref m41, .int 0, .int 0, .ref m44, .int 0, .int 0, .int 0, .int 0])), (m14, .inl (cy 1, 414, .inl NW))]) (va_runV (As := [.int (xs 1)]) (rest := []) ⟨hx, hb, hml, hown, hts⟩ (c_X_said l D cy z H.size x kq1 kq7 kq13 kq18 kq23 kq24 kq36 kq49 kq62 kq78 (xs 1)) (cwV 1 hts (gV tw_999 tw_1000 tw_1001 tw_1 tw_1002) rfl rfl rfl (by decide +kernel) ⟨Nat.le_of_ble_eq_true rfl, Nat.le_of_ble_eq_true rfl⟩) (preV hP hD hK hSD hS hA [0] rfl (by decide) (q := (RX9, TX9, 15)) (ci := 9) (q0 := 0) rfl rfl) rfl rfl hl.1 rfl (lv_room (Nat.le_of_ble_eq_true rfl)) dL_law_1298 ⟨Nat.le_of_ble_eq_true rfl, Nat.le_of_ble_eq_true rfl⟩) hP hD hS hA [0] [1, 2] rfl rfl (by decide) (by decide) (fun r_2 u_1 H locs hw_2 hP hD hS => ?_)
  have hP : va_P D classes [(y, .inr (10, [.int 0, .ref m1, .int 0, .int 0, .int 0, .int 0, .int 0, .int 0, .int 0, .int 0, .int 0, .int 0, .long 0, .int 0, .ref m14, .ref m15, .ref m16, .ref m17, .ref m18, .ref m19, .ref m20, .ref m21, .ref m22, .ref m23, .ref m24, .int 0, .ref m26, .int (-1), .ref m28, .int (-1), .int (-1), .ref m31, .ref m32, .int 0, .int 0, .ref m35, .int 0, .ref m37, .int 0, .int 0, .ref m40, .ref m41, .int 0, .int 0, .ref m44, .int 0, .int 0, .int 0, .int 0])), (m14, .inl (cy 1, 414, .inl NW))] H := hP
  have hD : va_D (fun q : Nat => s.heap.size ≤ q) [(y, .inr (10, [.int 0, .ref m1, .int 0, .int 0, .int 0, .int 0, .int 0, .int 0, .int 0, .int 0, .int 0, .int 0, .long 0, .int 0, .ref m14, .ref m15, .ref m16, .ref m17, .ref m18, .ref m19, .ref m20, .ref m21, .ref m22, .ref m23, .ref m24, .int 0, .ref m26, .int (-1), .ref m28, .int (-1), .int (-1), .ref m31, .ref m32, .int 0, .int 0, .ref m35, .int 0, .ref m37, .int 0, .int 0, .ref m40, .ref m41, .int 0, .int 0, .ref m44, .int 0, .int 0, .int 0, .int 0])), (m14, .inl (cy 1, 414, .inl NW))] := hD
  have hw_2 : r_2 = -1 := hw_2
  subst hw_2
  refine lv_aload_n hx hb dL_law_1301 rfl (lv_at hl 2 rfl) ?_
  refine lv_aload_n hx hb dL_law_1302 rfl (lv_at hl 4 rfl) ?_
  refine lv_iload hx hb dL_law_1303 (lv_at hl 0 rfl) ?_
  refine lv_iconst (v := 1) hx hb dL_law_1305 (by decide) ?_
  refine lv_iadd hx hb dL_law_1306 ?_
  refine tI (y := 1) (by decide) ?_
  refine va_sld hx hb hX hbl hbA hS (vp_in_nI (n := 1) (N := 6) (by decide) (by decide)) dL_law_1307 ?_
  refine tI (y := xs 1) rfl ?_
  refine endi (wr := []) (va_runV (As := [.int (xs 1)]) (rest := [.int (-1)]) ⟨hx, hb, hml, hown, hts⟩ (c_M_said l D cy z H.size y m1 m14 m15 m16 m17 m18 m19 m20 m21 m22 m23 m24 m26 m28 m31 m32 m35 m37 m40 m41 m44 (xs 1)) (cwV 1 hts (gV tw_1787 tw_1788 tw_1789 tw_15 tw_1790) rfl rfl rfl (by decide +kernel) ⟨Nat.le_of_ble_eq_true rfl, Nat.le_of_ble_eq_true rfl⟩) (preV hP hD hK hSD hS hA [0, 1] rfl (by decide) (q := (RX10, TX10, 49)) (ci := 10) (q0 := 0) rfl rfl) rfl rfl hl.1 rfl (lv_room (Nat.le_of_ble_eq_true rfl)) dL_law_1308 ⟨Nat.le_of_ble_eq_true rfl, Nat.le_of_ble_eq_true rfl⟩) hP hD hS hA [0, 1] [] rfl rfl (by decide) (by decide) (fun r_4 u_3 H locs hw_4 hP hD hS => ?_)
  have hP : va_P D classes [] H := hP
  have hD : va_D (fun q : Nat => s.heap.size ≤ q) [] := hD
  have hw_4 : r_4 = -1 := hw_4
  subst hw_4
  refine lv_icmp_eq (tgt := 1391) hx hb dL_law_1311 (by decide) (fun _ => ?_) (fun c9 => absurd (by decide) c9)
  refine lv_iinc (v := 6) (lv' := [(4, .int 6), (3, .ref o), (2, .ref y), (1, .ref x), (0, .ref b)]) hx hb dL_law_1391 hl (k := 0) rfl (by decide) (by decide) rfl (fun ls hl => ?_)
  refine lv_goto (tgt := 23) hx hb dL_law_1394 (by decide) ?_
  refine lv_iload hx hb dL_law_23 (lv_at hl 0 rfl) ?_
  refine lv_aload_n hx hb dL_law_25 rfl (lv_at hl 4 rfl) ?_
  refine va_slen hx hb hX hbl hbA hS dL_law_26 ?_
  refine tI (y := 6) rfl ?_
  refine lv_bipush (v := 6) hx hb dL_law_27 (by decide) ?_
  refine lv_isub hx hb dL_law_29 ?_
  refine tI (y := 0) (by decide) ?_
  refine lv_icmp_gt (tgt := 1397) hx hb dL_law_30 (by decide) (fun _ => ?_) (fun c9 => absurd (by decide) c9)
  refine lv_iconst (v := 1) hx hb dL_law_1397 (by decide) ?_
  refine va_forget (fun q hq => hS.2.2 q hq) ?_
  refine W.widen (k := 600002) (n := 7302232) (Nat.le_of_ble_eq_true rfl) (Nat.le_of_ble_eq_true rfl) ?_
  exact lw_ret hx hb hr hlocks dL_law_1398
set_option maxHeartbeats 4000000 in
set_option maxRecDepth 100000 in
theorem op38 {p : Program} {e : Env} {s : State} {m : MethodId} {below : List Frame} {meth : Method} {c : Code} (l : Launch) {b : Nat} {xs : Nat → Int32} (hx : p.tables.exec = Jvm.exec) (hb : c.code = code) (hr : meth.sig.returnType = ret) (hlocks : meth.locks = false) (hml : c.maxLocals = 7) (hown : s.vm.findClass RL = some m.cls) (hts : ∀ w ∈ gT, w.before #[Value.ref b] s = true) (hX : va_X b 6 xs s s.heap) (hbl : b < s.heap.size) (D : va_G) (cy : Nat → ClassId) (z : Nat → Nat) (hK : va_K D classes (TY cy) s) (hSD : SD z (fun q : Nat => s.heap.size ≤ q) s) (x : Nat) (kq1 : Nat) (kq7 : Nat) (kq13 : Nat) (kq18 : Nat) (kq23 : Nat) (kq24 : Nat) (kq28 : Nat) (kq36 : Nat) (kq39 : Nat) (kq40 : Nat) (kq41 : Nat) (kq42 : Nat) (kq43 : Nat) (kq44 : Nat) (kq45 : Nat) (kq46 : Nat) (kq47 : Nat) (kq48 : Nat) (kq49 : Nat) (kq62 : Nat) (kq78 : Nat) (kq79 : Nat) (kq82 : Nat) (kq83 : Nat) (kq84 : Nat) (kq85 : Nat) (kq86 : Nat) (kq87 : Nat) (kq88 : Nat) (kq89 : Nat) (kq90 : Nat) (kq91 : Nat) (kq92 : Nat) (kq94 : Nat) (kq97 : Nat) (kq98 : Nat) (kq99 : Nat) (kq100 : Nat) (kq101 : Nat) (kq102 : Nat) (kq103 : Nat) (kq104 : Nat) (kq105 : Nat) (kq106 : Nat) (kq107 : Nat) (kg108 : Nat → Option Nat) (y : Nat) (m1 : Nat) (m14 : Nat) (m15 : Nat) (m16 : Nat) (m17 : Nat) (m18 : Nat) (m19 : Nat) (m20 : Nat) (m21 : Nat) (m22 : Nat) (m23 : Nat) (m24 : Nat) (m26 : Nat) (m28 : Nat) (m31 : Nat) (m32 : Nat) (m35 : Nat) (m37 : Nat) (m40 : Nat) (m41 : Nat) (m44 : Nat) (o : Nat) (hgi0 : kg108 0 = some kq79) (hgi1 : kg108 1 = some kq94) {H : Heap} {locs : List Loc} (hP : va_P D classes [(x, .inr (9, [.ref kq1, .ref kq36, .ref kq49, .ref kq62, .ref kq78, .null, .ref kq7, .ref kq13, .ref kq18, .ref kq23, .ref kq24, .int 0, .int (-1), .int (-1), .int (-1)])), (kq36, .inr (8, [.ref kq28, .int 0, .ref kq39, .ref kq40, .ref kq41, .ref kq42, .ref kq43, .ref kq44, .ref kq45, .ref kq46, .ref kq47, .ref kq48, .int 0])), (kq39, .inl (cy 1, 36, .inl (fun _ => 0))), (kq40, .inl (cy 1, 6, .inl (fun _ => 0))), (kq41, .inl (cy 1, 6, .inl (fun _ => 0))), (kq42, .inl (cy 1, 6, .inl (fun _ => 0))), (kq43, .inl (cy 1, 6, .inl (fun _ => 0))), (kq44, .inl (cy 1, 8, .inl (fun _ => 0))), (kq46, .inl (cy 1, 8, .inl (fun _ => 0))), (kq47, .inl (cy 1, 8, .inl (fun _ => 0))), (kq45, .inl (cy 1, 8, .inl (fun _ => (-1)))), (kq78, .inl (cy 5, 2, .inr (.inr (.inr (.inr kg108))))), (kq79, .inr (2, [.ref kq82, .null, .int 0])), (kq82, .inr (8, [.ref kq28, .int 0, .ref kq83, .ref kq84, .ref kq85, .ref kq86, .ref kq87, .ref kq88, .ref kq89, .ref kq90, .ref kq91, .ref kq92, .int 0])), (kq83, .inl (cy 1, 36, .inl (fun _ => 0))), (kq84, .inl (cy 1, 6, .inl (fun _ => 0))), (kq85, .inl (cy 1, 6, .inl (fun _ => 0))), (kq86, .inl (cy 1, 6, .inl (fun _ => 0))), (kq87, .inl (cy 1, 6, .inl (fun _ => 0))), (kq88, .inl (cy 1, 8, .inl (fun _ => 0))), (kq90, .inl (cy 1, 8, .inl (fun _ => 0))), (kq91, .inl (cy 1, 8, .inl (fun _ => 0))), (kq89, .inl (cy 1, 8, .inl (fun _ => (-1)))), (kq94, .inr (2, [.ref kq97, .null, .int 0])), (kq97, .inr (8, [.ref kq28, .int 0, .ref kq98, .ref kq99, .ref kq100, .ref kq101, .ref kq102, .ref kq103, .ref kq104, .ref kq105, .ref kq106, .ref kq107, .int 0])), (kq98, .inl (cy 1, 36, .inl (fun _ => 0))), (kq99, .inl (cy 1, 6, .inl (fun _ => 0))), (kq100, .inl (cy 1, 6, .inl (fun _ => 0))), (kq101, .inl (cy 1, 6, .inl (fun _ => 0))), (kq102, .inl (cy 1, 6, .inl (fun _ => 0))), (kq103, .inl (cy 1, 8, .inl (fun _ => 0))), (kq105, .inl (cy 1, 8, .inl (fun _ => 0))), (kq106, .inl (cy 1, 8, .inl (fun _ => 0))), (kq104, .inl (cy 1, 8, .inl (fun _ => (-1)))), (y, .inr (10, [.int 0, .ref m1, .int 0, .int 0, .int 0, .int 0, .int 0, .int 0, .int 0, .int 0, .int 0, .int 0, .long 0, .int 0, .ref m14, .ref m15, .ref m16, .ref m17, .ref m18, .ref m19, .ref m20, .ref m21, .ref m22, .ref m23, .ref m24, .int 0, .ref m26, .int (-1), .ref m28, .int (-1), .int (-1), .ref m31, .ref m32, .int 0, .int 0, .ref m35, .int 0, .ref m37, .int 0, .int 0, .ref m40, .ref m41, .int 0, .int 0, .ref m44, .int 0, .int 0, .int 0, .int 0])), (m1, .inl (cy 1, 940, .inl (fun _ => 0))), (m14, .inl (cy 1, 414, .inl NW)), (m15, .inl (cy 1, 84, .inl (fun _ => 0))), (m16, .inl (cy 1, 828, .inl (fun _ => 0))), (m17, .inl (cy 1, 704, .inl (fun _ => 0))), (m18, .inl (cy 1, 88, .inl (fun _ => 0))), (m19, .inl (cy 1, 88, .inl (fun _ => 0))), (m20, .inl (cy 2, 24, .inr (.inl (fun _ => 0)))), (m21, .inl (cy 2, 24, .inr (.inl (fun _ => 0)))), (m22, .inl (cy 2, 48, .inr (.inl (fun _ => 0)))), (m23, .inl (cy 3, 2, .inl (fun _ => 0))), (m24, .inl (cy 3, 2, .inl (fun _ => 0))), (m26, .inl (cy 1, 6, .inl (fun _ => 0))), (m28, .inl (cy 1, 8, .inl (fun _ => 0))), (m31, .inl (cy 1, 6, .inl (fun _ => 0))), (m32, .inl (cy 1, 6, .inl (fun _ => 0))), (m35, .inl (cy 1, 8, .inl (fun _ => 0))), (m37, .inl (cy 1, 64, .inl (fun _ => 0))), (m40, .inl (cy 1, 120, .inl (fun _ => 0))), (m41, .inl (cy 1, 4, .inl (fun _ => 0))), (m44, .inl (cy 1, 240, .inl (fun _ => 0)))] H) (hD : va_D (fun q : Nat => s.heap.size ≤ q) [(x, .inr (9, [.ref kq1, .ref kq36, .ref kq49, .ref kq62, .ref kq78, .null, .ref kq7, .ref kq13, .ref kq18, .ref kq23, .ref kq24, .int 0, .int (-1), .int (-1), .int (-1)])), (kq36, .inr (8, [.ref kq28, .int 0, .ref kq39, .ref kq40, .ref kq41, .ref kq42, .ref kq43, .ref kq44, .ref kq45, .ref kq46, .ref kq47, .ref kq48, .int 0])), (kq39, .inl (cy 1, 36, .inl (fun _ => 0))), (kq40, .inl (cy 1, 6, .inl (fun _ => 0))), (kq41, .inl (cy 1, 6, .inl (fun _ => 0))), (kq42, .inl (cy 1, 6, .inl (fun _ => 0))), (kq43, .inl (cy 1, 6, .inl (fun _ => 0))), (kq44, .inl (cy 1, 8, .inl (fun _ => 0))), (kq46, .inl (cy 1, 8, .inl (fun _ => 0))), (kq47, .inl (cy 1, 8, .inl (fun _ => 0))), (kq45, .inl (cy 1, 8, .inl (fun _ => (-1)))), (kq78, .inl (cy 5, 2, .inr (.inr (.inr (.inr kg108))))), (kq79, .inr (2, [.ref kq82, .null, .int 0])), (kq82, .inr (8, [.ref kq28, .int 0, .ref kq83, .ref kq84, .ref kq85, .ref kq86, .ref kq87, .ref kq88, .ref kq89, .ref kq90, .ref kq91, .ref kq92, .int 0])), (kq83, .inl (cy 1, 36, .inl (fun _ => 0))), (kq84, .inl (cy 1, 6, .inl (fun _ => 0))), (kq85, .inl (cy 1, 6, .inl (fun _ => 0))), (kq86, .inl (cy 1, 6, .inl (fun _ => 0))), (kq87, .inl (cy 1, 6, .inl (fun _ => 0))), (kq88, .inl (cy 1, 8, .inl (fun _ => 0))), (kq90, .inl (cy 1, 8, .inl (fun _ => 0))), (kq91, .inl (cy 1, 8, .inl (fun _ => 0))), (kq89, .inl (cy 1, 8, .inl (fun _ => (-1)))), (kq94, .inr (2, [.ref kq97, .null, .int 0])), (kq97, .inr (8, [.ref kq28, .int 0, .ref kq98, .ref kq99, .ref kq100, .ref kq101, .ref kq102, .ref kq103, .ref kq104, .ref kq105, .ref kq106, .ref kq107, .int 0])), (kq98, .inl (cy 1, 36, .inl (fun _ => 0))), (kq99, .inl (cy 1, 6, .inl (fun _ => 0))), (kq100, .inl (cy 1, 6, .inl (fun _ => 0))), (kq101, .inl (cy 1, 6, .inl (fun _ => 0))), (kq102, .inl (cy 1, 6, .inl (fun _ => 0))), (kq103, .inl (cy 1, 8, .inl (fun _ => 0))), (kq105, .inl (cy 1, 8, .inl (fun _ => 0))), (kq106, .inl (cy 1, 8, .inl (fun _ => 0))), (kq104, .inl (cy 1, 8, .inl (fun _ => (-1)))), (y, .inr (10, [.int 0, .ref m1, .int 0, .int 0, .int 0, .int 0, .int 0, .int 0, .int 0, .int 0, .int 0, .int 0, .long 0, .int 0, .ref m14, .ref m15, .ref m16, .ref m17, .ref m18, .ref m19, .ref m20, .ref m21, .ref m22, .ref m23, .ref m24, .int 0, .ref m26, .int (-1), .ref m28, .int (-1), .int (-1), .ref m31, .ref m32, .int 0, .int 0, .ref m35, .int 0, .ref m37, .int 0, .int 0, .ref m40, .ref m41, .int 0, .int 0, .ref m44, .int 0, .int 0, .int 0, .int 0])), (m1, .inl (cy 1, 940, .inl (fun _ => 0))), (m14, .inl (cy 1, 414, .inl NW)), (m15, .inl (cy 1, 84, .inl (fun _ => 0))), (m16, .inl (cy 1, 828, .inl (fun _ => 0))), (m17, .inl (cy 1, 704, .inl (fun _ => 0))), (m18, .inl (cy 1, 88, .inl (fun _ => 0))), (m19, .inl (cy 1, 88, .inl (fun _ => 0))), (m20, .inl (cy 2, 24, .inr (.inl (fun _ => 0)))), (m21, .inl (cy 2, 24, .inr (.inl (fun _ => 0)))), (m22, .inl (cy 2, 48, .inr (.inl (fun _ => 0)))), (m23, .inl (cy 3, 2, .inl (fun _ => 0))), (m24, .inl (cy 3, 2, .inl (fun _ => 0))), (m26, .inl (cy 1, 6, .inl (fun _ => 0))), (m28, .inl (cy 1, 8, .inl (fun _ => 0))), (m31, .inl (cy 1, 6, .inl (fun _ => 0))), (m32, .inl (cy 1, 6, .inl (fun _ => 0))), (m35, .inl (cy 1, 8, .inl (fun _ => 0))), (m37, .inl (cy 1, 64, .inl (fun _ => 0))), (m40, .inl (cy 1, 120, .inl (fun _ => 0))), (m41, .inl (cy 1, 4, .inl (fun _ => 0))), (m44, .inl (cy 1, 240, .inl (fun _ => 0)))]) (hS : va_S (fun q : Nat => s.heap.size ≤ q) s.heap H locs) {ls : Array Slot} (hl : lv_has ls 7 [(4, .int 0), (3, .ref o), (2, .ref y), (1, .ref x), (0, .ref b)]) : W p l e room_1 s m #[Value.ref b] below meth c H locs 192 6460 (lw_Z below #[Value.ref b] s) (F0 m 1316 ls []) := by
  have hA : ∀ q : Nat, s.heap.size ≤ q → (fun q : Nat => s.heap.size ≤ q) q := fun _ h => h
  have hbA : ¬ (fun q : Nat => s.heap.size ≤ q) b := Nat.not_le.mpr hbl
  refine lv_aload_n hx hb dL_law_1316 rfl (lv_at hl 3 rfl) ?_
  refine lv_aload_n hx hb dL_law_1317 rfl (lv_at hl 4 rfl) ?_
  refine lv_iload hx hb dL_law_1318 (lv_at hl 0 rfl) ?_
  refine lv_iconst (v := 1) hx hb dL_law_1320 (by decide) ?_
  refine lv_iadd hx hb dL_law_1321 ?_
  refine tI (y := 1) (by decide) ?_
  refine va_sld hx hb hX hbl hbA hS (vp_in_nI (n := 1) (N := 6) (by decide) (by decide)) dL_law_1322 ?_
  refine tI (y := xs 1) rfl ?_
  refine endi (wr := [(y, .inr (10, [.int 0, .ref m1, .int 0, .int 0, .int 0, .int 0, .int 0, .int 0, .int 0, .int 0, .int 0, .int 0, .long 0, .int 0, .ref m14, .ref m15, .ref m16, .ref m17, .ref m18, .ref m19, .ref m20, .ref m21, .ref m22, .ref m23, .ref m24, .int 0, .ref m26, .int (-1), .ref m28, .int (-1), .int (-1), .ref m31, .ref m32, .int 0, .int 0, .ref m35, .int 0, .ref m37, .int 0, .int 0, .ref m40, .ref m41, .int 0, .int 0, .ref m44, .int 0, .int 0, .int 0, .int 0])), (m1, .inl (cy 1, 940, .inl (fun _ => 0))), (m14, .inl (cy 1, 414, .inl NW)), (m15, .inl (cy 1, 84, .inl (fun _ => 0))), (m16, .inl (cy 1, 828, .inl (fun _ => 0))), (m17, .inl (cy 1, 704, .inl (fun _ => 0))), (m18, .inl (cy 1, 88, .inl (fun _ => 0))), (m19, .inl (cy 1, 88, .inl (fun _ => 0))), (m20, .inl (cy 2, 24, .inr (.inl (fun _ => 0)))), (m21, .inl (cy 2, 24, .inr (.inl (fun _ => 0)))), (m22, .inl (cy 2, 48, .inr (.inl (fun _ => 0)))), (m23, .inl (cy 3, 2, .inl (fun _ => 0))), (m24, .inl (cy 3, 2, .inl (fun _ => 0))), (m26, .inl (cy 1, 6, .inl (fun _ => 0))), (m28, .inl (cy 1, 8, .inl (fun _ => 0))), (m31, .inl (cy 1, 6, .inl (fun _ => 0))), (m32, .inl (cy 1, 6, .inl (fun _ => 0))), (m35, .inl (cy 1, 8, .inl (fun _ => 0))), (m37, .inl (cy 1, 64, .inl (fun _ => 0))), (m40, .inl (cy 1, 120, .inl (fun _ => 0))), (m41, .inl (cy 1, 4, .inl (fun _ => 0))), (m44, .inl (cy 1, 240, .inl (fun _ => 0)))]) (va_runV (As := [.int (xs 1)]) (rest := []) ⟨hx, hb, hml, hown, hts⟩ (c_X_image l D cy z H.size x kq1 kq7 kq13 kq18 kq23 kq24 kq28 kq36 kq39 kq40 kq41 kq42 kq43 kq44 kq45 kq46 kq47 kq48 kq49 kq62 kq78 kq79 kq82 kq83 kq84 kq85 kq86 kq87 kq88 kq89 kq90 kq91 kq92 kq94 kq97 kq98 kq99 kq100 kq101 kq102 kq103 kq104 kq105 kq106 kq107 kg108 (xs 1) hgi0 hgi1) (cwV 1 hts (gV tw_1018 tw_1019 tw_1020 tw_1 tw_1021) rfl rfl rfl (by decide +kernel) ⟨Nat.le_of_ble_eq_true rfl, Nat.le_of_ble_eq_true rfl⟩) (preV hP hD hK hSD hS hA [0, 1, 2, 3, 4, 5, 6, 7, 8, 9, 10, 11, 12, 13, 14, 15, 16, 17, 18, 19, 20, 21, 22, 23, 24, 25, 26, 27, 28, 29, 30, 31, 32, 33] rfl (by decide) (q := (RX9, TX9, 15)) (ci := 9) (q0 := 0) rfl rfl) rfl rfl hl.1 rfl (lv_room (Nat.le_of_ble_eq_true rfl)) dL_law_1323 ⟨Nat.le_of_ble_eq_true rfl, Nat.le_of_ble_eq_true rfl⟩) hP hD hS hA [0, 1, 2, 3, 4, 5, 6, 7, 8, 9, 10, 11, 12, 13, 14, 15, 16, 17, 18, 19, 20, 21, 22, 23, 24, 25, 26, 27, 28, 29, 30, 31, 32, 33] [34, 35, 36, 37, 38, 39, 40, 41, 42, 43, 44, 45, 46, 47, 48, 49, 50, 51, 52, 53, 54, 55] rfl rfl (by decide) (by decide) (fun r_2 u_1 H locs hw_2 hP hD hS => ?_)
  have hP : va_P D classes [(y, .inr (10, [.int 0, .ref m1, .int 0, .int 0, .int 0, .int 0, .int 0, .int 0, .int 0, .int 0, .int 0, .int 0, .long 0, .int 0, .ref m14, .ref m15, .ref m16, .ref m17, .ref m18, .ref m19, .ref m20, .ref m21, .ref m22, .ref m23, .ref m24, .int 0, .ref m26, .int (-1), .ref m28, .int (-1), .int (-1), .ref m31, .ref m32, .int 0, .int 0, .ref m35, .int 0, .ref m37, .int 0, .int 0, .ref m40, .ref m41, .int 0, .int 0, .ref m44, .int 0, .int 0, .int 0, .int 0])), (m1, .inl (cy 1, 940, .inl (fun _ => 0))), (m14, .inl (cy 1, 414, .inl NW)), (m15, .inl (cy 1, 84, .inl (fun _ => 0))), (m16, .inl (cy 1, 828, .inl (fun _ => 0))), (m17, .inl (cy 1, 704, .inl (fun _ => 0))), (m18, .inl (cy 1, 88, .inl (fun _ => 0))), (m19, .inl (cy 1, 88, .inl (fun _ => 0))), (m20, .inl (cy 2, 24, .inr (.inl (fun _ => 0)))), (m21, .inl (cy 2, 24, .inr (.inl (fun _ => 0)))), (m22, .inl (cy 2, 48, .inr (.inl (fun _ => 0)))), (m23, .inl (cy 3, 2, .inl (fun _ => 0))), (m24, .inl (cy 3, 2, .inl (fun _ => 0))), (m26, .inl (cy 1, 6, .inl (fun _ => 0))), (m28, .inl (cy 1, 8, .inl (fun _ => 0))), (m31, .inl (cy 1, 6, .inl (fun _ => 0))), (m32, .inl (cy 1, 6, .inl (fun _ => 0))), (m35, .inl (cy 1, 8, .inl (fun _ => 0))), (m37, .inl (cy 1, 64, .inl (fun _ => 0))), (m40, .inl (cy 1, 120, .inl (fun _ => 0))), (m41, .inl (cy 1, 4, .inl (fun _ => 0))), (m44, .inl (cy 1, 240, .inl (fun _ => 0)))] H := hP
  have hD : va_D (fun q : Nat => s.heap.size ≤ q) [(y, .inr (10, [.int 0, .ref m1, .int 0, .int 0, .int 0, .int 0, .int 0, .int 0, .int 0, .int 0, .int 0, .int 0, .long 0, .int 0, .ref m14, .ref m15, .ref m16, .ref m17, .ref m18, .ref m19, .ref m20, .ref m21, .ref m22, .ref m23, .ref m24, .int 0, .ref m26, .int (-1), .ref m28, .int (-1), .int (-1), .ref m31, .ref m32, .int 0, .int 0, .ref m35, .int 0, .ref m37, .int 0, .int 0, .ref m40, .ref m41, .int 0, .int 0, .ref m44, .int 0, .int 0, .int 0, .int 0])), (m1, .inl (cy 1, 940, .inl (fun _ => 0))), (m14, .inl (cy 1, 414, .inl NW)), (m15, .inl (cy 1, 84, .inl (fun _ => 0))), (m16, .inl (cy 1, 828, .inl (fun _ => 0))), (m17, .inl (cy 1, 704, .inl (fun _ => 0))), (m18, .inl (cy 1, 88, .inl (fun _ => 0))), (m19, .inl (cy 1, 88, .inl (fun _ => 0))), (m20, .inl (cy 2, 24, .inr (.inl (fun _ => 0)))), (m21, .inl (cy 2, 24, .inr (.inl (fun _ => 0)))), (m22, .inl (cy 2, 48, .inr (.inl (fun _ => 0)))), (m23, .inl (cy 3, 2, .inl (fun _ => 0))), (m24, .inl (cy 3, 2, .inl (fun _ => 0))), (m26, .inl (cy 1, 6, .inl (fun _ => 0))), (m28, .inl (cy 1, 8, .inl (fun _ => 0))), (m31, .inl (cy 1, 6, .inl (fun _ => 0))), (m32, .inl (cy 1, 6, .inl (fun _ => 0))), (m35, .inl (cy 1, 8, .inl (fun _ => 0))), (m37, .inl (cy 1, 64, .inl (fun _ => 0))), (m40, .inl (cy 1, 120, .inl (fun _ => 0))), (m41, .inl (cy 1, 4, .inl (fun _ => 0))), (m44, .inl (cy 1, 240, .inl (fun _ => 0)))] := hD
  have hw_2 : r_2 = if (xs 1) < 0 ∨ 2 ≤ (xs 1) then 0 else 1 := hw_2
  subst hw_2
  refine lv_aload_n hx hb dL_law_1326 rfl (lv_at hl 2 rfl) ?_
  refine lv_aload_n hx hb dL_law_1327 rfl (lv_at hl 4 rfl) ?_
  refine lv_iload hx hb dL_law_1328 (lv_at hl 0 rfl) ?_
  refine lv_iconst (v := 1) hx hb dL_law_1330 (by decide) ?_
  refine lv_iadd hx hb dL_law_1331 ?_
  refine tI (y := 1) (by decide) ?_
  refine va_sld hx hb hX hbl hbA hS (vp_in_nI (n := 1) (N := 6) (by decide) (by decide)) dL_law_1332 ?_
  refine tI (y := xs 1) rfl ?_
  refine endi (wr := []) (va_runV (As := [.int (xs 1)]) (rest := [.int (if (xs 1) < 0 ∨ 2 ≤ (xs 1) then 0 else 1)]) ⟨hx, hb, hml, hown, hts⟩ (c_M_image l D cy z H.size y m1 m14 m15 m16 m17 m18 m19 m20 m21 m22 m23 m24 m26 m28 m31 m32 m35 m37 m40 m41 m44 (xs 1)) (cwV 1 hts (gV tw_1795 tw_1796 tw_1797 tw_15 tw_1798) rfl rfl rfl (by decide +kernel) ⟨Nat.le_of_ble_eq_true rfl, Nat.le_of_ble_eq_true rfl⟩) (preV hP hD hK hSD hS hA [0, 1, 2, 3, 4, 5, 6, 7, 8, 9, 10, 11, 12, 13, 14, 15, 16, 17, 18, 19, 20, 21] rfl (by decide) (q := (RX10, TX10, 49)) (ci := 10) (q0 := 0) rfl rfl) rfl rfl hl.1 rfl (lv_room (Nat.le_of_ble_eq_true rfl)) dL_law_1333 ⟨Nat.le_of_ble_eq_true rfl, Nat.le_of_ble_eq_true rfl⟩) hP hD hS hA [0, 1, 2, 3, 4, 5, 6, 7, 8, 9, 10, 11, 12, 13, 14, 15, 16, 17, 18, 19, 20, 21] [] rfl rfl (by decide) (by decide) (fun r_4 u_3 H locs hw_4 hP hD hS => ?_)
  have hP : va_P D classes [] H := hP
  have hD : va_D (fun q : Nat => s.heap.size ≤ q) [] := hD
  have hw_4 : r_4 = if (xs 1) < 0 ∨ 2 ≤ (xs 1) then 0 else 1 := hw_4
  subst hw_4
  refine lv_icmp_eq (tgt := 1391) hx hb dL_law_1336 (by decide) (fun _ => ?_) (fun c9 => absurd rfl c9)
  refine lv_iinc (v := 6) (lv' := [(4, .int 6), (3, .ref o), (2, .ref y), (1, .ref x), (0, .ref b)]) hx hb dL_law_1391 hl (k := 0) rfl (by decide) (by decide) rfl (fun ls hl => ?_)
  refine lv_goto (tgt := 23) hx hb dL_law_1394 (by decide) ?_
  refine lv_iload hx hb dL_law_23 (lv_at hl 0 rfl) ?_
  refine lv_aload_n hx hb dL_law_25 rfl (lv_at hl 4 rfl) ?_
  refine va_slen hx hb hX hbl hbA hS dL_law_26 ?_
  refine tI (y := 6) rfl ?_
  refine lv_bipush (v := 6) hx hb dL_law_27 (by decide) ?_
  refine lv_isub hx hb dL_law_29 ?_
  refine tI (y := 0) (by decide) ?_
  refine lv_icmp_gt (tgt := 1397) hx hb dL_law_30 (by decide) (fun _ => ?_) (fun c9 => absurd (by decide) c9)
  refine lv_iconst (v := 1) hx hb dL_law_1397 (by decide) ?_
  refine va_forget (fun q hq => hS.2.2 q hq) ?_
  refine W.widen (k := 600002) (n := 7302232) (Nat.le_of_ble_eq_true rfl) (Nat.le_of_ble_eq_true rfl) ?_
  exact lw_ret hx hb hr hlocks dL_law_1398
set_option maxHeartbeats 4000000 in
set_option maxRecDepth 100000 in
theorem op39 {p : Program} {e : Env} {s : State} {m : MethodId} {below : List Frame} {meth : Method} {c : Code} (l : Launch) {b : Nat} {xs : Nat → Int32} (hx : p.tables.exec = Jvm.exec) (hb : c.code = code) (hr : meth.sig.returnType = ret) (hlocks : meth.locks = false) (hml : c.maxLocals = 7) (hown : s.vm.findClass RL = some m.cls) (hts : ∀ w ∈ gT, w.before #[Value.ref b] s = true) (hX : va_X b 6 xs s s.heap) (hbl : b < s.heap.size) (D : va_G) (cy : Nat → ClassId) (z : Nat → Nat) (hK : va_K D classes (TY cy) s) (hSD : SD z (fun q : Nat => s.heap.size ≤ q) s) (x : Nat) (kq1 : Nat) (kq7 : Nat) (kq13 : Nat) (kq18 : Nat) (kq23 : Nat) (kq24 : Nat) (kq36 : Nat) (kq49 : Nat) (kq62 : Nat) (kq78 : Nat) (kq79 : Nat) (kq82 : Nat) (kq94 : Nat) (kq97 : Nat) (kg108 : Nat → Option Nat) (y : Nat) (m1 : Nat) (m14 : Nat) (m15 : Nat) (m16 : Nat) (m17 : Nat) (m18 : Nat) (m19 : Nat) (m20 : Nat) (m21 : Nat) (m22 : Nat) (m23 : Nat) (m24 : Nat) (m26 : Nat) (m28 : Nat) (m31 : Nat) (m32 : Nat) (m35 : Nat) (m37 : Nat) (m40 : Nat) (m41 : Nat) (m44 : Nat) (o : Nat) (hgi0 : kg108 0 = some kq79) (hgi1 : kg108 1 = some kq94) {H : Heap} {locs : List Loc} (hP : va_P D classes [(x, .inr (9, [.ref kq1, .ref kq36, .ref kq49, .ref kq62, .ref kq78, .null, .ref kq7, .ref kq13, .ref kq18, .ref kq23, .ref kq24, .int 0, .int (-1), .int (-1), .int (-1)])), (kq78, .inl (cy 5, 2, .inr (.inr (.inr (.inr kg108))))), (kq79, .inr (2, [.ref kq82, .null, .int 0])), (kq94, .inr (2, [.ref kq97, .null, .int 0])), (y, .inr (10, [.int 0, .ref m1, .int 0, .int 0, .int 0, .int 0, .int 0, .int 0, .int 0, .int 0, .int 0, .int 0, .long 0, .int 0, .ref m14, .ref m15, .ref m16, .ref m17, .ref m18, .ref m19, .ref m20, .ref m21, .ref m22, .ref m23, .ref m24, .int 0, .ref m26, .int (-1), .ref m28, .int (-1), .int (-1), .ref m31, .ref m32, .int 0, .int 0, .ref m35, .int 0, .ref m37, .int 0, .int 0, .ref m40, .ref m41, .int 0, .int 0, .ref m44, .int 0, .int 0, .int 0, .int 0])), (m23, .inl (cy 3, 2, .inl (fun _ => 0)))] H) (hD : va_D (fun q : Nat => s.heap.size ≤ q) [(x, .inr (9, [.ref kq1, .ref kq36, .ref kq49, .ref kq62, .ref kq78, .null, .ref kq7, .ref kq13, .ref kq18, .ref kq23, .ref kq24, .int 0, .int (-1), .int (-1), .int (-1)])), (kq78, .inl (cy 5, 2, .inr (.inr (.inr (.inr kg108))))), (kq79, .inr (2, [.ref kq82, .null, .int 0])), (kq94, .inr (2, [.ref kq97, .null, .int 0])), (y, .inr (10, [.int 0, .ref m1, .int 0, .int 0, .int 0, .int 0, .int 0, .int 0, .int 0, .int 0, .int 0, .int 0, .long 0, .int 0, .ref m14, .ref m15, .ref m16, .ref m17, .ref m18, .ref m19, .ref m20, .ref m21, .ref m22, .ref m23, .ref m24, .int 0, .ref m26, .int (-1), .ref m28, .int (-1), .int (-1), .ref m31, .ref m32, .int 0, .int 0, .ref m35, .int 0, .ref m37, .int 0, .int 0, .ref m40, .ref m41, .int 0, .int 0, .ref m44, .int 0, .int 0, .int 0, .int 0])), (m23, .inl (cy 3, 2, .inl (fun _ => 0)))]) (hS : va_S (fun q : Nat => s.heap.size ≤ q) s.heap H locs) {ls : Array Slot} (hl : lv_has ls 7 [(4, .int 0), (3, .ref o), (2, .ref y), (1, .ref x), (0, .ref b)]) : W p l e room_1 s m #[Value.ref b] below meth c H locs 192 6460 (lw_Z below #[Value.ref b] s) (F0 m 1341 ls []) := by
  have hA : ∀ q : Nat, s.heap.size ≤ q → (fun q : Nat => s.heap.size ≤ q) q := fun _ h => h
  have hbA : ¬ (fun q : Nat => s.heap.size ≤ q) b := Nat.not_le.mpr hbl
  refine lv_aload_n hx hb dL_law_1341 rfl (lv_at hl 3 rfl) ?_
  refine lv_aload_n hx hb dL_law_1342 rfl (lv_at hl 4 rfl) ?_
  refine lv_iload hx hb dL_law_1343 (lv_at hl 0 rfl) ?_
  refine lv_iconst (v := 1) hx hb dL_law_1345 (by decide) ?_
  refine lv_iadd hx hb dL_law_1346 ?_
  refine tI (y := 1) (by decide) ?_
  refine va_sld hx hb hX hbl hbA hS (vp_in_nI (n := 1) (N := 6) (by decide) (by decide)) dL_law_1347 ?_
  refine tI (y := xs 1) rfl ?_
  refine endi (wr := [(y, .inr (10, [.int 0, .ref m1, .int 0, .int 0, .int 0, .int 0, .int 0, .int 0, .int 0, .int 0, .int 0, .int 0, .long 0, .int 0, .ref m14, .ref m15, .ref m16, .ref m17, .ref m18, .ref m19, .ref m20, .ref m21, .ref m22, .ref m23, .ref m24, .int 0, .ref m26, .int (-1), .ref m28, .int (-1), .int (-1), .ref m31, .ref m32, .int 0, .int 0, .ref m35, .int 0, .ref m37, .int 0, .int 0, .ref m40, .ref m41, .int 0, .int 0, .ref m44, .int 0, .int 0, .int 0, .int 0])), (m23, .inl (cy 3, 2, .inl (fun _ => 0)))]) (va_runV (As := [.int (xs 1)]) (rest := []) ⟨hx, hb, hml, hown, hts⟩ (c_X_restore l D cy z H.size x kq1 kq7 kq13 kq18 kq23 kq24 kq36 kq49 kq62 kq78 kq79 kq82 kq94 kq97 kg108 (xs 1) hgi0 hgi1) (cwV 1 hts (gV tw_1027 tw_1028 tw_1029 tw_1 tw_1030) rfl rfl rfl (by decide +kernel) ⟨Nat.le_of_ble_eq_true rfl, Nat.le_of_ble_eq_true rfl⟩) (preV hP hD hK hSD hS hA [0, 1, 2, 3] rfl (by decide) (q := (RX9, TX9, 15)) (ci := 9) (q0 := 0) rfl rfl) rfl rfl hl.1 rfl (lv_room (Nat.le_of_ble_eq_true rfl)) dL_law_1348 ⟨Nat.le_of_ble_eq_true rfl, Nat.le_of_ble_eq_true rfl⟩) hP hD hS hA [0, 1, 2, 3] [4, 5] rfl rfl (by decide) (by decide) (fun r_2 u_1 H locs hw_2 hP hD hS => ?_)
  have hP : va_P D classes [(y, .inr (10, [.int 0, .ref m1, .int 0, .int 0, .int 0, .int 0, .int 0, .int 0, .int 0, .int 0, .int 0, .int 0, .long 0, .int 0, .ref m14, .ref m15, .ref m16, .ref m17, .ref m18, .ref m19, .ref m20, .ref m21, .ref m22, .ref m23, .ref m24, .int 0, .ref m26, .int (-1), .ref m28, .int (-1), .int (-1), .ref m31, .ref m32, .int 0, .int 0, .ref m35, .int 0, .ref m37, .int 0, .int 0, .ref m40, .ref m41, .int 0, .int 0, .ref m44, .int 0, .int 0, .int 0, .int 0])), (m23, .inl (cy 3, 2, .inl (fun _ => 0)))] H := hP
  have hD : va_D (fun q : Nat => s.heap.size ≤ q) [(y, .inr (10, [.int 0, .ref m1, .int 0, .int 0, .int 0, .int 0, .int 0, .int 0, .int 0, .int 0, .int 0, .int 0, .long 0, .int 0, .ref m14, .ref m15, .ref m16, .ref m17, .ref m18, .ref m19, .ref m20, .ref m21, .ref m22, .ref m23, .ref m24, .int 0, .ref m26, .int (-1), .ref m28, .int (-1), .int (-1), .ref m31, .ref m32, .int 0, .int 0, .ref m35, .int 0, .ref m37, .int 0, .int 0, .ref m40, .ref m41, .int 0, .int 0, .ref m44, .int 0, .int 0, .int 0, .int 0])), (m23, .inl (cy 3, 2, .inl (fun _ => 0)))] := hD
  have hw_2 : r_2 = 0 := hw_2
  subst hw_2
  refine lv_aload_n hx hb dL_law_1351 rfl (lv_at hl 2 rfl) ?_
  refine lv_aload_n hx hb dL_law_1352 rfl (lv_at hl 4 rfl) ?_
  refine lv_iload hx hb dL_law_1353 (lv_at hl 0 rfl) ?_
  refine lv_iconst (v := 1) hx hb dL_law_1355 (by decide) ?_
  refine lv_iadd hx hb dL_law_1356 ?_
  refine tI (y := 1) (by decide) ?_
  refine va_sld hx hb hX hbl hbA hS (vp_in_nI (n := 1) (N := 6) (by decide) (by decide)) dL_law_1357 ?_
  refine tI (y := xs 1) rfl ?_
  refine endi (wr := []) (va_runV (As := [.int (xs 1)]) (rest := [.int 0]) ⟨hx, hb, hml, hown, hts⟩ (c_M_restore l D cy z H.size y m1 m14 m15 m16 m17 m18 m19 m20 m21 m22 m23 m24 m26 m28 m31 m32 m35 m37 m40 m41 m44 (xs 1)) (cwV 1 hts (gV tw_1799 tw_1800 tw_1801 tw_15 tw_1802) rfl rfl rfl (by decide +kernel) ⟨Nat.le_of_ble_eq_true rfl, Nat.le_of_ble_eq_true rfl⟩) (preV hP hD hK hSD hS hA [0, 1] rfl (by decide) (q := (RX10, TX10, 49)) (ci := 10) (q0 := 0) rfl rfl) rfl rfl hl.1 rfl (lv_room (Nat.le_of_ble_eq_true rfl)) dL_law_1358 ⟨Nat.le_of_ble_eq_true rfl, Nat.le_of_ble_eq_true rfl⟩) hP hD hS hA [0, 1] [] rfl rfl (by decide) (by decide) (fun r_4 u_3 H locs hw_4 hP hD hS => ?_)
  have hP : va_P D classes [] H := hP
  have hD : va_D (fun q : Nat => s.heap.size ≤ q) [] := hD
  have hw_4 : r_4 = 0 := hw_4
  subst hw_4
  refine lv_icmp_eq (tgt := 1391) hx hb dL_law_1361 (by decide) (fun _ => ?_) (fun c9 => absurd (by decide) c9)
  refine lv_iinc (v := 6) (lv' := [(4, .int 6), (3, .ref o), (2, .ref y), (1, .ref x), (0, .ref b)]) hx hb dL_law_1391 hl (k := 0) rfl (by decide) (by decide) rfl (fun ls hl => ?_)
  refine lv_goto (tgt := 23) hx hb dL_law_1394 (by decide) ?_
  refine lv_iload hx hb dL_law_23 (lv_at hl 0 rfl) ?_
  refine lv_aload_n hx hb dL_law_25 rfl (lv_at hl 4 rfl) ?_
  refine va_slen hx hb hX hbl hbA hS dL_law_26 ?_
  refine tI (y := 6) rfl ?_
  refine lv_bipush (v := 6) hx hb dL_law_27 (by decide) ?_
  refine lv_isub hx hb dL_law_29 ?_
  refine tI (y := 0) (by decide) ?_
  refine lv_icmp_gt (tgt := 1397) hx hb dL_law_30 (by decide) (fun _ => ?_) (fun c9 => absurd (by decide) c9)
  refine lv_iconst (v := 1) hx hb dL_law_1397 (by decide) ?_
  refine va_forget (fun q hq => hS.2.2 q hq) ?_
  refine W.widen (k := 600002) (n := 7302232) (Nat.le_of_ble_eq_true rfl) (Nat.le_of_ble_eq_true rfl) ?_
  exact lw_ret hx hb hr hlocks dL_law_1398
set_option maxHeartbeats 4000000 in
set_option maxRecDepth 100000 in
theorem op40 {p : Program} {e : Env} {s : State} {m : MethodId} {below : List Frame} {meth : Method} {c : Code} (l : Launch) {b : Nat} {xs : Nat → Int32} (hx : p.tables.exec = Jvm.exec) (hb : c.code = code) (hr : meth.sig.returnType = ret) (hlocks : meth.locks = false) (hml : c.maxLocals = 7) (hown : s.vm.findClass RL = some m.cls) (hts : ∀ w ∈ gT, w.before #[Value.ref b] s = true) (hX : va_X b 6 xs s s.heap) (hbl : b < s.heap.size) (D : va_G) (cy : Nat → ClassId) (z : Nat → Nat) (hK : va_K D classes (TY cy) s) (hSD : SD z (fun q : Nat => s.heap.size ≤ q) s) (x : Nat) (kq1 : Nat) (kq4 : Nat) (kq5 : Nat) (kq7 : Nat) (kq13 : Nat) (kq18 : Nat) (kq23 : Nat) (kq24 : Nat) (kq28 : Nat) (kq31 : Nat) (kq32 : Nat) (kq33 : Nat) (kq34 : Nat) (kq35 : Nat) (kq36 : Nat) (kq39 : Nat) (kq40 : Nat) (kq41 : Nat) (kq42 : Nat) (kq43 : Nat) (kq44 : Nat) (kq45 : Nat) (kq46 : Nat) (kq47 : Nat) (kq48 : Nat) (kq49 : Nat) (kq62 : Nat) (kq78 : Nat) (y : Nat) (m1 : Nat) (m14 : Nat) (m15 : Nat) (m16 : Nat) (m17 : Nat) (m18 : Nat) (m19 : Nat) (m20 : Nat) (m21 : Nat) (m22 : Nat) (m23 : Nat) (m24 : Nat) (m26 : Nat) (m28 : Nat) (m31 : Nat) (m32 : Nat) (m35 : Nat) (m37 : Nat) (m40 : Nat) (m41 : Nat) (m44 : Nat) (o : Nat) {H : Heap} {locs : List Loc} (hP : va_P D classes [(x, .inr (9, [.ref kq1, .ref kq36, .ref kq49, .ref kq62, .ref kq78, .null, .ref kq7, .ref kq13, .ref kq18, .ref kq23, .ref kq24, .int 0, .int (-1), .int (-1), .int (-1)])), (kq1, .inr (7, [.ref kq4, .ref kq5, .int 0, .int 0, .int 0, .int 0, .int 0, .int 0, .long 0, .int 0, .int 0, .int 0])), (kq28, .inr (3, [.ref kq31, .ref kq32, .ref kq33, .ref kq34, .ref kq35, .int 0, .int 5, .int 0, .int 0])), (kq32, .inl (cy 1, 4, .inl (fun _ => 0))), (kq36, .inr (8, [.ref kq28, .int 0, .ref kq39, .ref kq40, .ref kq41, .ref kq42, .ref kq43, .ref kq44, .ref kq45, .ref kq46, .ref kq47, .ref kq48, .int 0])), (y, .inr (10, [.int 0, .ref m1, .int 0, .int 0, .int 0, .int 0, .int 0, .int 0, .int 0, .int 0, .int 0, .int 0, .long 0, .int 0, .ref m14, .ref m15, .ref m16, .ref m17, .ref m18, .ref m19, .ref m20, .ref m21, .ref m22, .ref m23, .ref m24, .int 0, .ref m26, .int (-1), .ref m28, .int (-1), .int (-1), .ref m31, .ref m32, .int 0, .int 0, .ref m35, .int 0, .ref m37, .int 0, .int 0, .ref m40, .ref m41, .int 0, .int 0, .ref m44, .int 0, .int 0, .int 0, .int 0])), (m14, .inl (cy 1, 414, .inl NW))] H) (hD : va_D (fun q : Nat => s.heap.size ≤ q) [(x, .inr (9, [.ref kq1, .ref kq36, .ref kq49, .ref kq62, .ref kq78, .null, .ref kq7, .ref kq13, .ref kq18, .ref kq23, .ref kq24, .int 0, .int (-1), .int (-1), .int (-1)])), (kq1, .inr (7, [.ref kq4, .ref kq5, .int 0, .int 0, .int 0, .int 0, .int 0, .int 0, .long 0, .int 0, .int 0, .int 0])), (kq28, .inr (3, [.ref kq31, .ref kq32, .ref kq33, .ref kq34, .ref kq35, .int 0, .int 5, .int 0, .int 0])), (kq32, .inl (cy 1, 4, .inl (fun _ => 0))), (kq36, .inr (8, [.ref kq28, .int 0, .ref kq39, .ref kq40, .ref kq41, .ref kq42, .ref kq43, .ref kq44, .ref kq45, .ref kq46, .ref kq47, .ref kq48, .int 0])), (y, .inr (10, [.int 0, .ref m1, .int 0, .int 0, .int 0, .int 0, .int 0, .int 0, .int 0, .int 0, .int 0, .int 0, .long 0, .int 0, .ref m14, .ref m15, .ref m16, .ref m17, .ref m18, .ref m19, .ref m20, .ref m21, .ref m22, .ref m23, .ref m24, .int 0, .ref m26, .int (-1), .ref m28, .int (-1), .int (-1), .ref m31, .ref m32, .int 0, .int 0, .ref m35, .int 0, .ref m37, .int 0, .int 0, .ref m40, .ref m41, .int 0, .int 0, .ref m44, .int 0, .int 0, .int 0, .int 0])), (m14, .inl (cy 1, 414, .inl NW))]) (hS : va_S (fun q : Nat => s.heap.size ≤ q) s.heap H locs) {ls : Array Slot} (hl : lv_has ls 7 [(4, .int 0), (3, .ref o), (2, .ref y), (1, .ref x), (0, .ref b)]) : W p l e room_1 s m #[Value.ref b] below meth c H locs 192 6460 (lw_Z below #[Value.ref b] s) (F0 m 1366 ls []) := by
  have hA : ∀ q : Nat, s.heap.size ≤ q → (fun q : Nat => s.heap.size ≤ q) q := fun _ h => h
  have hbA : ¬ (fun q : Nat => s.heap.size ≤ q) b := Nat.not_le.mpr hbl
  refine lv_aload_n hx hb dL_law_1366 rfl (lv_at hl 3 rfl) ?_
  refine lv_aload_n hx hb dL_law_1367 rfl (lv_at hl 4 rfl) ?_
  refine lv_iload hx hb dL_law_1368 (lv_at hl 0 rfl) ?_
  refine lv_iconst (v := 1) hx hb dL_law_1370 (by decide) ?_
  refine lv_iadd hx hb dL_law_1371 ?_
  refine tI (y := 1) (by decide) ?_
  refine va_sld hx hb hX hbl hbA hS (vp_in_nI (n := 1) (N := 6) (by decide) (by decide)) dL_law_1372 ?_
  refine tI (y := xs 1) rfl ?_
  refine endi (wr := [(y, .inr (10, [.int 0, .ref m1, .int 0, .int 0, .int 0, .int 0, .int 0, .int 0, .int 0, .int 0, .int 0, .int 0, .long 0, .int 0, .ref m14, .ref m15, .ref m16, .ref m17, .ref m18, .ref m19, .ref m20, .ref m21, .ref m22, .ref m23, .ref m24, .int 0, .ref m26, .int (-1), .ref m28, .int (-1), .int (-1), .ref m31, .ref m32, .int 0, .int 0, .ref m35, .int 0, .ref m37, .int 0, .int 0, .ref m40, .ref m41, .int 0, .int 0, .ref m44, .int 0, .int 0, .int 0, .int 0])), (m14, .inl (cy 1, 414, .inl NW))]) (va_runV (As := [.int (xs 1)]) (rest := []) ⟨hx, hb, hml, hown, hts⟩ (c_X_count l D cy z H.size x kq1 kq4 kq5 kq7 kq13 kq18 kq23 kq24 kq28 kq31 kq32 kq33 kq34 kq35 kq36 kq39 kq40 kq41 kq42 kq43 kq44 kq45 kq46 kq47 kq48 kq49 kq62 kq78 (xs 1)) (cwV 1 hts (gV tw_1031 tw_1032 tw_1033 tw_1 tw_1034) rfl rfl rfl (by decide +kernel) ⟨Nat.le_of_ble_eq_true rfl, Nat.le_of_ble_eq_true rfl⟩) (preV hP hD hK hSD hS hA [0, 1, 2, 3, 4] rfl (by decide) (q := (RX9, TX9, 15)) (ci := 9) (q0 := 0) rfl rfl) rfl rfl hl.1 rfl (lv_room (Nat.le_of_ble_eq_true rfl)) dL_law_1373 ⟨Nat.le_of_ble_eq_true rfl, Nat.le_of_ble_eq_true rfl⟩) hP hD hS hA [0, 1, 2, 3, 4] [5, 6] rfl rfl (by decide) (by decide) (fun r_2 u_1 H locs hw_2 hP hD hS => ?_)
  have hP : va_P D classes [(y, .inr (10, [.int 0, .ref m1, .int 0, .int 0, .int 0, .int 0, .int 0, .int 0, .int 0, .int 0, .int 0, .int 0, .long 0, .int 0, .ref m14, .ref m15, .ref m16, .ref m17, .ref m18, .ref m19, .ref m20, .ref m21, .ref m22, .ref m23, .ref m24, .int 0, .ref m26, .int (-1), .ref m28, .int (-1), .int (-1), .ref m31, .ref m32, .int 0, .int 0, .ref m35, .int 0, .ref m37, .int 0, .int 0, .ref m40, .ref m41, .int 0, .int 0, .ref m44, .int 0, .int 0, .int 0, .int 0])), (m14, .inl (cy 1, 414, .inl NW))] H := hP
  have hD : va_D (fun q : Nat => s.heap.size ≤ q) [(y, .inr (10, [.int 0, .ref m1, .int 0, .int 0, .int 0, .int 0, .int 0, .int 0, .int 0, .int 0, .int 0, .int 0, .long 0, .int 0, .ref m14, .ref m15, .ref m16, .ref m17, .ref m18, .ref m19, .ref m20, .ref m21, .ref m22, .ref m23, .ref m24, .int 0, .ref m26, .int (-1), .ref m28, .int (-1), .int (-1), .ref m31, .ref m32, .int 0, .int 0, .ref m35, .int 0, .ref m37, .int 0, .int 0, .ref m40, .ref m41, .int 0, .int 0, .ref m44, .int 0, .int 0, .int 0, .int 0])), (m14, .inl (cy 1, 414, .inl NW))] := hD
  have hw_2 : r_2 = if (xs 1).toInt < 0 ∨ 6 < (xs 1).toInt then -1 else if (xs 1).toInt = 5 then 5 else 0 := hw_2
  subst hw_2
  refine lv_aload_n hx hb dL_law_1376 rfl (lv_at hl 2 rfl) ?_
  refine lv_aload_n hx hb dL_law_1377 rfl (lv_at hl 4 rfl) ?_
  refine lv_iload hx hb dL_law_1378 (lv_at hl 0 rfl) ?_
  refine lv_iconst (v := 1) hx hb dL_law_1380 (by decide) ?_
  refine lv_iadd hx hb dL_law_1381 ?_
  refine tI (y := 1) (by decide) ?_
  refine va_sld hx hb hX hbl hbA hS (vp_in_nI (n := 1) (N := 6) (by decide) (by decide)) dL_law_1382 ?_
  refine tI (y := xs 1) rfl ?_
  refine endi (wr := []) (va_runV (As := [.int (xs 1)]) (rest := [.int (if (xs 1).toInt < 0 ∨ 6 < (xs 1).toInt then -1 else if (xs 1).toInt = 5 then 5 else 0)]) ⟨hx, hb, hml, hown, hts⟩ (c_M_count l D cy z H.size y m1 m14 m15 m16 m17 m18 m19 m20 m21 m22 m23 m24 m26 m28 m31 m32 m35 m37 m40 m41 m44 (xs 1)) (cwV 1 hts (gV tw_1803 tw_1804 tw_1805 tw_15 tw_1806) rfl rfl rfl (by decide +kernel) ⟨Nat.le_of_ble_eq_true rfl, Nat.le_of_ble_eq_true rfl⟩) (preV hP hD hK hSD hS hA [0, 1] rfl (by decide) (q := (RX10, TX10, 49)) (ci := 10) (q0 := 0) rfl rfl) rfl rfl hl.1 rfl (lv_room (Nat.le_of_ble_eq_true rfl)) dL_law_1383 ⟨Nat.le_of_ble_eq_true rfl, Nat.le_of_ble_eq_true rfl⟩) hP hD hS hA [0, 1] [] rfl rfl (by decide) (by decide) (fun r_4 u_3 H locs hw_4 hP hD hS => ?_)
  have hP : va_P D classes [] H := hP
  have hD : va_D (fun q : Nat => s.heap.size ≤ q) [] := hD
  have hw_4 : r_4 = if (xs 1).toInt < 0 ∨ 6 < (xs 1).toInt then -1 else if (xs 1).toInt = 5 then 5 else 0 := hw_4
  subst hw_4
  refine lv_icmp_eq (tgt := 1391) hx hb dL_law_1386 (by decide) (fun _ => ?_) (fun c9 => absurd rfl c9)
  refine lv_iinc (v := 6) (lv' := [(4, .int 6), (3, .ref o), (2, .ref y), (1, .ref x), (0, .ref b)]) hx hb dL_law_1391 hl (k := 0) rfl (by decide) (by decide) rfl (fun ls hl => ?_)
  refine lv_goto (tgt := 23) hx hb dL_law_1394 (by decide) ?_
  refine lv_iload hx hb dL_law_23 (lv_at hl 0 rfl) ?_
  refine lv_aload_n hx hb dL_law_25 rfl (lv_at hl 4 rfl) ?_
  refine va_slen hx hb hX hbl hbA hS dL_law_26 ?_
  refine tI (y := 6) rfl ?_
  refine lv_bipush (v := 6) hx hb dL_law_27 (by decide) ?_
  refine lv_isub hx hb dL_law_29 ?_
  refine tI (y := 0) (by decide) ?_
  refine lv_icmp_gt (tgt := 1397) hx hb dL_law_30 (by decide) (fun _ => ?_) (fun c9 => absurd (by decide) c9)
  refine lv_iconst (v := 1) hx hb dL_law_1397 (by decide) ?_
  refine va_forget (fun q hq => hS.2.2 q hq) ?_
  refine W.widen (k := 600002) (n := 7302232) (Nat.le_of_ble_eq_true rfl) (Nat.le_of_ble_eq_true rfl) ?_
  exact lw_ret hx hb hr hlocks dL_law_1398
